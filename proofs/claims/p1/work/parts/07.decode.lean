theorem dX0_takeBack_0 : decode cX0_takeBack 0 = .ok (.aload_n 0, 1) := by decide +kernel
theorem dX0_takeBack_1 : decode cX0_takeBack 1 = .ok (.getfield 24, 3) := by decide +kernel
theorem dX0_takeBack_4 : decode cX0_takeBack 4 = .ok (.iconst 1, 1) := by decide +kernel
theorem dX0_takeBack_5 : decode cX0_takeBack 5 = .ok (.if_icmp .ge 5, 3) := by decide +kernel
theorem dX0_takeBack_8 : decode cX0_takeBack 8 = .ok (.iconst 0, 1) := by decide +kernel
theorem dX0_takeBack_9 : decode cX0_takeBack 9 = .ok (.ireturn, 1) := by decide +kernel
theorem dX0_takeBack_10 : decode cX0_takeBack 10 = .ok (.aload_n 1, 1) := by decide +kernel
theorem dX0_takeBack_11 : decode cX0_takeBack 11 = .ok (.aload_n 0, 1) := by decide +kernel
theorem dX0_takeBack_12 : decode cX0_takeBack 12 = .ok (.getfield 11, 3) := by decide +kernel
theorem dX0_takeBack_15 : decode cX0_takeBack 15 = .ok (.aload_n 0, 1) := by decide +kernel
theorem dX0_takeBack_16 : decode cX0_takeBack 16 = .ok (.getfield 16, 3) := by decide +kernel
theorem dX0_takeBack_19 : decode cX0_takeBack 19 = .ok (.aaload, 1) := by decide +kernel
theorem dX0_takeBack_20 : decode cX0_takeBack 20 = .ok (.invokevirtual 20, 3) := by decide +kernel
theorem dX0_takeBack_23 : decode cX0_takeBack 23 = .ok (.aload_n 0, 1) := by decide +kernel
theorem dX0_takeBack_24 : decode cX0_takeBack 24 = .ok (.aload_n 0, 1) := by decide +kernel
theorem dX0_takeBack_25 : decode cX0_takeBack 25 = .ok (.getfield 16, 3) := by decide +kernel
theorem dX0_takeBack_28 : decode cX0_takeBack 28 = .ok (.bipush 20, 2) := by decide +kernel
theorem dX0_takeBack_30 : decode cX0_takeBack 30 = .ok (.iadd, 1) := by decide +kernel
theorem dX0_takeBack_31 : decode cX0_takeBack 31 = .ok (.iconst 1, 1) := by decide +kernel
theorem dX0_takeBack_32 : decode cX0_takeBack 32 = .ok (.isub, 1) := by decide +kernel
theorem dX0_takeBack_33 : decode cX0_takeBack 33 = .ok (.bipush 20, 2) := by decide +kernel
theorem dX0_takeBack_35 : decode cX0_takeBack 35 = .ok (.irem, 1) := by decide +kernel
theorem dX0_takeBack_36 : decode cX0_takeBack 36 = .ok (.putfield 16, 3) := by decide +kernel
theorem dX0_takeBack_39 : decode cX0_takeBack 39 = .ok (.aload_n 0, 1) := by decide +kernel
theorem dX0_takeBack_40 : decode cX0_takeBack 40 = .ok (.dup, 1) := by decide +kernel
theorem dX0_takeBack_41 : decode cX0_takeBack 41 = .ok (.getfield 24, 3) := by decide +kernel
theorem dX0_takeBack_44 : decode cX0_takeBack 44 = .ok (.iconst 1, 1) := by decide +kernel
theorem dX0_takeBack_45 : decode cX0_takeBack 45 = .ok (.isub, 1) := by decide +kernel
theorem dX0_takeBack_46 : decode cX0_takeBack 46 = .ok (.putfield 24, 3) := by decide +kernel
theorem dX0_takeBack_49 : decode cX0_takeBack 49 = .ok (.iconst 1, 1) := by decide +kernel
theorem dX0_takeBack_50 : decode cX0_takeBack 50 = .ok (.ireturn, 1) := by decide +kernel
theorem dX10_agreed_0 : decode cX10_agreed 0 = .ok (.aload_n 0, 1) := by decide +kernel
theorem dX10_agreed_1 : decode cX10_agreed 1 = .ok (.getfield 60, 3) := by decide +kernel
theorem dX10_agreed_4 : decode cX10_agreed 4 = .ok (.aload_n 0, 1) := by decide +kernel
theorem dX10_agreed_5 : decode cX10_agreed 5 = .ok (.getfield 23, 3) := by decide +kernel
theorem dX10_agreed_8 : decode cX10_agreed 8 = .ok (.invokevirtual 269, 3) := by decide +kernel
theorem dX10_agreed_11 : decode cX10_agreed 11 = .ok (.ireturn, 1) := by decide +kernel
theorem dX10_asOthers_0 : decode cX10_asOthers 0 = .ok (.aload_n 0, 1) := by decide +kernel
theorem dX10_asOthers_1 : decode cX10_asOthers 1 = .ok (.getfield 108, 3) := by decide +kernel
theorem dX10_asOthers_4 : decode cX10_asOthers 4 = .ok (.ifCond .eq 12, 3) := by decide +kernel
theorem dX10_asOthers_7 : decode cX10_asOthers 7 = .ok (.iload_n 1, 1) := by decide +kernel
theorem dX10_asOthers_8 : decode cX10_asOthers 8 = .ok (.ifCond .lt 8, 3) := by decide +kernel
theorem dX10_asOthers_11 : decode cX10_asOthers 11 = .ok (.iload_n 1, 1) := by decide +kernel
theorem dX10_asOthers_12 : decode cX10_asOthers 12 = .ok (.iconst 3, 1) := by decide +kernel
theorem dX10_asOthers_13 : decode cX10_asOthers 13 = .ok (.if_icmp .le 6, 3) := by decide +kernel
theorem dX10_asOthers_16 : decode cX10_asOthers 16 = .ok (.bipush (-2), 2) := by decide +kernel
theorem dX10_asOthers_18 : decode cX10_asOthers 18 = .ok (.ireturn, 1) := by decide +kernel
theorem dX10_asOthers_19 : decode cX10_asOthers 19 = .ok (.aload_n 0, 1) := by decide +kernel
theorem dX10_asOthers_20 : decode cX10_asOthers 20 = .ok (.getfield 26, 3) := by decide +kernel
theorem dX10_asOthers_23 : decode cX10_asOthers 23 = .ok (.aload_n 0, 1) := by decide +kernel
theorem dX10_asOthers_24 : decode cX10_asOthers 24 = .ok (.getfield 23, 3) := by decide +kernel
theorem dX10_asOthers_27 : decode cX10_asOthers 27 = .ok (.invokevirtual 104, 3) := by decide +kernel
theorem dX10_asOthers_30 : decode cX10_asOthers 30 = .ok (.aload_n 0, 1) := by decide +kernel
theorem dX10_asOthers_31 : decode cX10_asOthers 31 = .ok (.getfield 26, 3) := by decide +kernel
theorem dX10_asOthers_34 : decode cX10_asOthers 34 = .ok (.aload_n 0, 1) := by decide +kernel
theorem dX10_asOthers_35 : decode cX10_asOthers 35 = .ok (.getfield 23, 3) := by decide +kernel
theorem dX10_asOthers_38 : decode cX10_asOthers 38 = .ok (.getfield 145, 3) := by decide +kernel
theorem dX10_asOthers_41 : decode cX10_asOthers 41 = .ok (.ifCond .ne 7, 3) := by decide +kernel
theorem dX10_asOthers_44 : decode cX10_asOthers 44 = .ok (.iconst 1, 1) := by decide +kernel
theorem dX10_asOthers_45 : decode cX10_asOthers 45 = .ok (.goto 4, 3) := by decide +kernel
theorem dX10_asOthers_48 : decode cX10_asOthers 48 = .ok (.iconst 0, 1) := by decide +kernel
theorem dX10_asOthers_49 : decode cX10_asOthers 49 = .ok (.putfield 145, 3) := by decide +kernel
theorem dX10_asOthers_52 : decode cX10_asOthers 52 = .ok (.iload_n 1, 1) := by decide +kernel
theorem dX10_asOthers_53 : decode cX10_asOthers 53 = .ok (.iconst 3, 1) := by decide +kernel
theorem dX10_asOthers_54 : decode cX10_asOthers 54 = .ok (.if_icmp .ne 11, 3) := by decide +kernel
theorem dX10_asOthers_57 : decode cX10_asOthers 57 = .ok (.aload_n 0, 1) := by decide +kernel
theorem dX10_asOthers_58 : decode cX10_asOthers 58 = .ok (.getfield 26, 3) := by decide +kernel
theorem dX10_asOthers_61 : decode cX10_asOthers 61 = .ok (.invokevirtual 297, 3) := by decide +kernel
theorem dX10_asOthers_64 : decode cX10_asOthers 64 = .ok (.ireturn, 1) := by decide +kernel
theorem dX10_asOthers_65 : decode cX10_asOthers 65 = .ok (.aload_n 0, 1) := by decide +kernel
theorem dX10_asOthers_66 : decode cX10_asOthers 66 = .ok (.aload_n 0, 1) := by decide +kernel
theorem dX10_asOthers_67 : decode cX10_asOthers 67 = .ok (.getfield 26, 3) := by decide +kernel
theorem dX10_asOthers_70 : decode cX10_asOthers 70 = .ok (.aload_n 0, 1) := by decide +kernel
theorem dX10_asOthers_71 : decode cX10_asOthers 71 = .ok (.getfield 39, 3) := by decide +kernel
theorem dX10_asOthers_74 : decode cX10_asOthers 74 = .ok (.aload_n 0, 1) := by decide +kernel
theorem dX10_asOthers_75 : decode cX10_asOthers 75 = .ok (.getfield 115, 3) := by decide +kernel
theorem dX10_asOthers_78 : decode cX10_asOthers 78 = .ok (.invokevirtual 347, 3) := by decide +kernel
theorem dX10_asOthers_81 : decode cX10_asOthers 81 = .ok (.iload_n 1, 1) := by decide +kernel
theorem dX10_asOthers_82 : decode cX10_asOthers 82 = .ok (.lookupswitch 46 #[(0, 26), (1, 38)], 26) := by decide +kernel
theorem dX10_asOthers_108 : decode cX10_asOthers 108 = .ok (.aload_n 0, 1) := by decide +kernel
theorem dX10_asOthers_109 : decode cX10_asOthers 109 = .ok (.getfield 67, 3) := by decide +kernel
theorem dX10_asOthers_112 : decode cX10_asOthers 112 = .ok (.aload_n 0, 1) := by decide +kernel
theorem dX10_asOthers_113 : decode cX10_asOthers 113 = .ok (.getfield 26, 3) := by decide +kernel
theorem dX10_asOthers_116 : decode cX10_asOthers 116 = .ok (.invokevirtual 269, 3) := by decide +kernel
theorem dX10_asOthers_119 : decode cX10_asOthers 119 = .ok (.ireturn, 1) := by decide +kernel
theorem dX10_asOthers_120 : decode cX10_asOthers 120 = .ok (.aload_n 0, 1) := by decide +kernel
theorem dX10_asOthers_121 : decode cX10_asOthers 121 = .ok (.getfield 67, 3) := by decide +kernel
theorem dX10_asOthers_124 : decode cX10_asOthers 124 = .ok (.getfield 291, 3) := by decide +kernel
theorem dX10_asOthers_127 : decode cX10_asOthers 127 = .ok (.ireturn, 1) := by decide +kernel
theorem dX10_asOthers_128 : decode cX10_asOthers 128 = .ok (.aload_n 0, 1) := by decide +kernel
theorem dX10_asOthers_129 : decode cX10_asOthers 129 = .ok (.getfield 67, 3) := by decide +kernel
theorem dX10_asOthers_132 : decode cX10_asOthers 132 = .ok (.getfield 211, 3) := by decide +kernel
theorem dX10_asOthers_135 : decode cX10_asOthers 135 = .ok (.ireturn, 1) := by decide +kernel
theorem dX10_back_0 : decode cX10_back 0 = .ok (.aload_n 0, 1) := by decide +kernel
theorem dX10_back_1 : decode cX10_back 1 = .ok (.getfield 112, 3) := by decide +kernel
theorem dX10_back_4 : decode cX10_back 4 = .ok (.ifCond .ne 5, 3) := by decide +kernel
theorem dX10_back_7 : decode cX10_back 7 = .ok (.iconst (-1), 1) := by decide +kernel
theorem dX10_back_8 : decode cX10_back 8 = .ok (.ireturn, 1) := by decide +kernel
theorem dX10_back_9 : decode cX10_back 9 = .ok (.aload_n 0, 1) := by decide +kernel
theorem dX10_back_10 : decode cX10_back 10 = .ok (.getfield 60, 3) := by decide +kernel
theorem dX10_back_13 : decode cX10_back 13 = .ok (.aload_n 0, 1) := by decide +kernel
theorem dX10_back_14 : decode cX10_back 14 = .ok (.getfield 64, 3) := by decide +kernel
theorem dX10_back_17 : decode cX10_back 17 = .ok (.invokevirtual 384, 3) := by decide +kernel
theorem dX10_back_20 : decode cX10_back 20 = .ok (.aload_n 0, 1) := by decide +kernel
theorem dX10_back_21 : decode cX10_back 21 = .ok (.getfield 73, 3) := by decide +kernel
theorem dX10_back_24 : decode cX10_back 24 = .ok (.iconst 0, 1) := by decide +kernel
theorem dX10_back_25 : decode cX10_back 25 = .ok (.putfield 119, 3) := by decide +kernel
theorem dX10_back_28 : decode cX10_back 28 = .ok (.aload_n 0, 1) := by decide +kernel
theorem dX10_back_29 : decode cX10_back 29 = .ok (.getfield 60, 3) := by decide +kernel
theorem dX10_back_32 : decode cX10_back 32 = .ok (.getfield 159, 3) := by decide +kernel
theorem dX10_back_35 : decode cX10_back 35 = .ok (.ireturn, 1) := by decide +kernel
theorem dX10_broken_0 : decode cX10_broken 0 = .ok (.aload_n 0, 1) := by decide +kernel
theorem dX10_broken_1 : decode cX10_broken 1 = .ok (.aload_n 0, 1) := by decide +kernel
theorem dX10_broken_2 : decode cX10_broken 2 = .ok (.getfield 60, 3) := by decide +kernel
theorem dX10_broken_5 : decode cX10_broken 5 = .ok (.getfield 155, 3) := by decide +kernel
theorem dX10_broken_8 : decode cX10_broken 8 = .ok (.invokevirtual 309, 3) := by decide +kernel
theorem dX10_broken_11 : decode cX10_broken 11 = .ok (.ifCond .ne 6, 3) := by decide +kernel
theorem dX10_broken_14 : decode cX10_broken 14 = .ok (.bipush (-2), 2) := by decide +kernel
theorem dX10_broken_16 : decode cX10_broken 16 = .ok (.ireturn, 1) := by decide +kernel
theorem dX10_broken_17 : decode cX10_broken 17 = .ok (.aload_n 0, 1) := by decide +kernel
theorem dX10_broken_18 : decode cX10_broken 18 = .ok (.getfield 80, 3) := by decide +kernel
theorem dX10_broken_21 : decode cX10_broken 21 = .ok (.aload_n 0, 1) := by decide +kernel
theorem dX10_broken_22 : decode cX10_broken 22 = .ok (.getfield 23, 3) := by decide +kernel
theorem dX10_broken_25 : decode cX10_broken 25 = .ok (.aload_n 0, 1) := by decide +kernel
theorem dX10_broken_26 : decode cX10_broken 26 = .ok (.getfield 60, 3) := by decide +kernel
theorem dX10_broken_29 : decode cX10_broken 29 = .ok (.getfield 155, 3) := by decide +kernel
theorem dX10_broken_32 : decode cX10_broken 32 = .ok (.aload_n 0, 1) := by decide +kernel
theorem dX10_broken_33 : decode cX10_broken 33 = .ok (.getfield 23, 3) := by decide +kernel
theorem dX10_broken_36 : decode cX10_broken 36 = .ok (.getfield 151, 3) := by decide +kernel
theorem dX10_broken_39 : decode cX10_broken 39 = .ok (.invokevirtual 312, 3) := by decide +kernel
theorem dX10_broken_42 : decode cX10_broken 42 = .ok (.aload_n 0, 1) := by decide +kernel
theorem dX10_broken_43 : decode cX10_broken 43 = .ok (.getfield 80, 3) := by decide +kernel
theorem dX10_broken_46 : decode cX10_broken 46 = .ok (.aload_n 0, 1) := by decide +kernel
theorem dX10_broken_47 : decode cX10_broken 47 = .ok (.getfield 60, 3) := by decide +kernel
theorem dX10_broken_50 : decode cX10_broken 50 = .ok (.getfield 154, 3) := by decide +kernel
theorem dX10_broken_53 : decode cX10_broken 53 = .ok (.invokevirtual 316, 3) := by decide +kernel
theorem dX10_broken_56 : decode cX10_broken 56 = .ok (.ireturn, 1) := by decide +kernel
theorem dX10_brokenPlan_0 : decode cX10_brokenPlan 0 = .ok (.aload_n 0, 1) := by decide +kernel
theorem dX10_brokenPlan_1 : decode cX10_brokenPlan 1 = .ok (.invokevirtual 325, 3) := by decide +kernel
theorem dX10_brokenPlan_4 : decode cX10_brokenPlan 4 = .ok (.istore_n 2, 1) := by decide +kernel
theorem dX10_brokenPlan_5 : decode cX10_brokenPlan 5 = .ok (.iload_n 2, 1) := by decide +kernel
theorem dX10_brokenPlan_6 : decode cX10_brokenPlan 6 = .ok (.ifCond .ge 5, 3) := by decide +kernel
theorem dX10_brokenPlan_9 : decode cX10_brokenPlan 9 = .ok (.iload_n 2, 1) := by decide +kernel
theorem dX10_brokenPlan_10 : decode cX10_brokenPlan 10 = .ok (.ireturn, 1) := by decide +kernel
theorem dX10_brokenPlan_11 : decode cX10_brokenPlan 11 = .ok (.aload_n 0, 1) := by decide +kernel
theorem dX10_brokenPlan_12 : decode cX10_brokenPlan 12 = .ok (.getfield 84, 3) := by decide +kernel
theorem dX10_brokenPlan_15 : decode cX10_brokenPlan 15 = .ok (.iconst 0, 1) := by decide +kernel
theorem dX10_brokenPlan_16 : decode cX10_brokenPlan 16 = .ok (.putfield 91, 3) := by decide +kernel
theorem dX10_brokenPlan_19 : decode cX10_brokenPlan 19 = .ok (.iconst 0, 1) := by decide +kernel
theorem dX10_brokenPlan_20 : decode cX10_brokenPlan 20 = .ok (.istore_n 3, 1) := by decide +kernel
theorem dX10_brokenPlan_21 : decode cX10_brokenPlan 21 = .ok (.iload_n 3, 1) := by decide +kernel
theorem dX10_brokenPlan_22 : decode cX10_brokenPlan 22 = .ok (.aload_n 0, 1) := by decide +kernel
theorem dX10_brokenPlan_23 : decode cX10_brokenPlan 23 = .ok (.getfield 23, 3) := by decide +kernel
theorem dX10_brokenPlan_26 : decode cX10_brokenPlan 26 = .ok (.getfield 151, 3) := by decide +kernel
theorem dX10_brokenPlan_29 : decode cX10_brokenPlan 29 = .ok (.if_icmp .ge 38, 3) := by decide +kernel
theorem dX10_brokenPlan_32 : decode cX10_brokenPlan 32 = .ok (.iconst 0, 1) := by decide +kernel
theorem dX10_brokenPlan_33 : decode cX10_brokenPlan 33 = .ok (.istore 4, 2) := by decide +kernel
theorem dX10_brokenPlan_35 : decode cX10_brokenPlan 35 = .ok (.iload 4, 2) := by decide +kernel
theorem dX10_brokenPlan_37 : decode cX10_brokenPlan 37 = .ok (.aload_n 0, 1) := by decide +kernel
theorem dX10_brokenPlan_38 : decode cX10_brokenPlan 38 = .ok (.getfield 23, 3) := by decide +kernel
theorem dX10_brokenPlan_41 : decode cX10_brokenPlan 41 = .ok (.invokevirtual 169, 3) := by decide +kernel
theorem dX10_brokenPlan_44 : decode cX10_brokenPlan 44 = .ok (.if_icmp .ge 17, 3) := by decide +kernel
theorem dX10_brokenPlan_47 : decode cX10_brokenPlan 47 = .ok (.aload_n 0, 1) := by decide +kernel
theorem dX10_brokenPlan_48 : decode cX10_brokenPlan 48 = .ok (.iload_n 3, 1) := by decide +kernel
theorem dX10_brokenPlan_49 : decode cX10_brokenPlan 49 = .ok (.iload 4, 2) := by decide +kernel
theorem dX10_brokenPlan_51 : decode cX10_brokenPlan 51 = .ok (.iload_n 2, 1) := by decide +kernel
theorem dX10_brokenPlan_52 : decode cX10_brokenPlan 52 = .ok (.invokevirtual 328, 3) := by decide +kernel
theorem dX10_brokenPlan_55 : decode cX10_brokenPlan 55 = .ok (.iinc 4 1, 3) := by decide +kernel
theorem dX10_brokenPlan_58 : decode cX10_brokenPlan 58 = .ok (.goto (-23), 3) := by decide +kernel
theorem dX10_brokenPlan_61 : decode cX10_brokenPlan 61 = .ok (.iinc 3 1, 3) := by decide +kernel
theorem dX10_brokenPlan_64 : decode cX10_brokenPlan 64 = .ok (.goto (-43), 3) := by decide +kernel
theorem dX10_brokenPlan_67 : decode cX10_brokenPlan 67 = .ok (.aload_n 0, 1) := by decide +kernel
theorem dX10_brokenPlan_68 : decode cX10_brokenPlan 68 = .ok (.iload_n 1, 1) := by decide +kernel
theorem dX10_brokenPlan_69 : decode cX10_brokenPlan 69 = .ok (.invokevirtual 332, 3) := by decide +kernel
theorem dX10_brokenPlan_72 : decode cX10_brokenPlan 72 = .ok (.ireturn, 1) := by decide +kernel
theorem dX10_brokenStarts_0 : decode cX10_brokenStarts 0 = .ok (.iload_n 1, 1) := by decide +kernel
theorem dX10_brokenStarts_1 : decode cX10_brokenStarts 1 = .ok (.ifCond .lt 22, 3) := by decide +kernel
theorem dX10_brokenStarts_4 : decode cX10_brokenStarts 4 = .ok (.iload_n 1, 1) := by decide +kernel
theorem dX10_brokenStarts_5 : decode cX10_brokenStarts 5 = .ok (.iconst 1, 1) := by decide +kernel
theorem dX10_brokenStarts_6 : decode cX10_brokenStarts 6 = .ok (.if_icmp .gt 17, 3) := by decide +kernel
theorem dX10_brokenStarts_9 : decode cX10_brokenStarts 9 = .ok (.aload_n 0, 1) := by decide +kernel
theorem dX10_brokenStarts_10 : decode cX10_brokenStarts 10 = .ok (.aload_n 0, 1) := by decide +kernel
theorem dX10_brokenStarts_11 : decode cX10_brokenStarts 11 = .ok (.getfield 60, 3) := by decide +kernel
theorem dX10_brokenStarts_14 : decode cX10_brokenStarts 14 = .ok (.getfield 155, 3) := by decide +kernel
theorem dX10_brokenStarts_17 : decode cX10_brokenStarts 17 = .ok (.invokevirtual 309, 3) := by decide +kernel
theorem dX10_brokenStarts_20 : decode cX10_brokenStarts 20 = .ok (.ifCond .ne 6, 3) := by decide +kernel
theorem dX10_brokenStarts_23 : decode cX10_brokenStarts 23 = .ok (.bipush (-2), 2) := by decide +kernel
theorem dX10_brokenStarts_25 : decode cX10_brokenStarts 25 = .ok (.ireturn, 1) := by decide +kernel
theorem dX10_brokenStarts_26 : decode cX10_brokenStarts 26 = .ok (.iload_n 1, 1) := by decide +kernel
theorem dX10_brokenStarts_27 : decode cX10_brokenStarts 27 = .ok (.ifCond .ne 17, 3) := by decide +kernel
theorem dX10_brokenStarts_30 : decode cX10_brokenStarts 30 = .ok (.aload_n 0, 1) := by decide +kernel
theorem dX10_brokenStarts_31 : decode cX10_brokenStarts 31 = .ok (.aload_n 0, 1) := by decide +kernel
theorem dX10_brokenStarts_32 : decode cX10_brokenStarts 32 = .ok (.getfield 60, 3) := by decide +kernel
theorem dX10_brokenStarts_35 : decode cX10_brokenStarts 35 = .ok (.getfield 155, 3) := by decide +kernel
theorem dX10_brokenStarts_38 : decode cX10_brokenStarts 38 = .ok (.invokevirtual 319, 3) := by decide +kernel
theorem dX10_brokenStarts_41 : decode cX10_brokenStarts 41 = .ok (.goto 14, 3) := by decide +kernel
theorem dX10_brokenStarts_44 : decode cX10_brokenStarts 44 = .ok (.aload_n 0, 1) := by decide +kernel
theorem dX10_brokenStarts_45 : decode cX10_brokenStarts 45 = .ok (.aload_n 0, 1) := by decide +kernel
theorem dX10_brokenStarts_46 : decode cX10_brokenStarts 46 = .ok (.getfield 60, 3) := by decide +kernel
theorem dX10_brokenStarts_49 : decode cX10_brokenStarts 49 = .ok (.getfield 155, 3) := by decide +kernel
theorem dX10_brokenStarts_52 : decode cX10_brokenStarts 52 = .ok (.invokevirtual 322, 3) := by decide +kernel
theorem dX10_brokenStarts_55 : decode cX10_brokenStarts 55 = .ok (.ireturn, 1) := by decide +kernel
theorem dX10_byChance_0 : decode cX10_byChance 0 = .ok (.aload_n 0, 1) := by decide +kernel
theorem dX10_byChance_1 : decode cX10_byChance 1 = .ok (.getfield 108, 3) := by decide +kernel
theorem dX10_byChance_4 : decode cX10_byChance 4 = .ok (.ifCond .eq 26, 3) := by decide +kernel
theorem dX10_byChance_7 : decode cX10_byChance 7 = .ok (.iload_n 1, 1) := by decide +kernel
theorem dX10_byChance_8 : decode cX10_byChance 8 = .ok (.iconst 1, 1) := by decide +kernel
theorem dX10_byChance_9 : decode cX10_byChance 9 = .ok (.if_icmp .lt 21, 3) := by decide +kernel
theorem dX10_byChance_12 : decode cX10_byChance 12 = .ok (.iload_n 1, 1) := by decide +kernel
theorem dX10_byChance_13 : decode cX10_byChance 13 = .ok (.sipush 200, 3) := by decide +kernel
theorem dX10_byChance_16 : decode cX10_byChance 16 = .ok (.if_icmp .gt 14, 3) := by decide +kernel
theorem dX10_byChance_19 : decode cX10_byChance 19 = .ok (.iload 4, 2) := by decide +kernel
theorem dX10_byChance_21 : decode cX10_byChance 21 = .ok (.ifCond .lt 9, 3) := by decide +kernel
theorem dX10_byChance_24 : decode cX10_byChance 24 = .ok (.iload 4, 2) := by decide +kernel
theorem dX10_byChance_26 : decode cX10_byChance 26 = .ok (.iconst 3, 1) := by decide +kernel
theorem dX10_byChance_27 : decode cX10_byChance 27 = .ok (.if_icmp .le 6, 3) := by decide +kernel
theorem dX10_byChance_30 : decode cX10_byChance 30 = .ok (.bipush (-2), 2) := by decide +kernel
theorem dX10_byChance_32 : decode cX10_byChance 32 = .ok (.ireturn, 1) := by decide +kernel
theorem dX10_byChance_33 : decode cX10_byChance 33 = .ok (.iconst 0, 1) := by decide +kernel
theorem dX10_byChance_34 : decode cX10_byChance 34 = .ok (.istore 5, 2) := by decide +kernel
theorem dX10_byChance_36 : decode cX10_byChance 36 = .ok (.iconst 0, 1) := by decide +kernel
theorem dX10_byChance_37 : decode cX10_byChance 37 = .ok (.istore 6, 2) := by decide +kernel
theorem dX10_byChance_39 : decode cX10_byChance 39 = .ok (.iconst (-1), 1) := by decide +kernel
theorem dX10_byChance_40 : decode cX10_byChance 40 = .ok (.istore 7, 2) := by decide +kernel
theorem dX10_byChance_42 : decode cX10_byChance 42 = .ok (.iconst 0, 1) := by decide +kernel
theorem dX10_byChance_43 : decode cX10_byChance 43 = .ok (.istore 8, 2) := by decide +kernel
theorem dX10_byChance_45 : decode cX10_byChance 45 = .ok (.iconst 0, 1) := by decide +kernel
theorem dX10_byChance_46 : decode cX10_byChance 46 = .ok (.istore 9, 2) := by decide +kernel
theorem dX10_byChance_48 : decode cX10_byChance 48 = .ok (.iload 9, 2) := by decide +kernel
theorem dX10_byChance_50 : decode cX10_byChance 50 = .ok (.iload_n 1, 1) := by decide +kernel
theorem dX10_byChance_51 : decode cX10_byChance 51 = .ok (.if_icmp .ge 107, 3) := by decide +kernel
theorem dX10_byChance_54 : decode cX10_byChance 54 = .ok (.aload_n 0, 1) := by decide +kernel
theorem dX10_byChance_55 : decode cX10_byChance 55 = .ok (.aload_n 0, 1) := by decide +kernel
theorem dX10_byChance_56 : decode cX10_byChance 56 = .ok (.getfield 23, 3) := by decide +kernel
theorem dX10_byChance_59 : decode cX10_byChance 59 = .ok (.aload_n 0, 1) := by decide +kernel
theorem dX10_byChance_60 : decode cX10_byChance 60 = .ok (.getfield 46, 3) := by decide +kernel
theorem dX10_byChance_63 : decode cX10_byChance 63 = .ok (.lload_n 2, 1) := by decide +kernel
theorem dX10_byChance_64 : decode cX10_byChance 64 = .ok (.iload 9, 2) := by decide +kernel
theorem dX10_byChance_66 : decode cX10_byChance 66 = .ok (.i2l, 1) := by decide +kernel
theorem dX10_byChance_67 : decode cX10_byChance 67 = .ok (.ladd, 1) := by decide +kernel
theorem dX10_byChance_68 : decode cX10_byChance 68 = .ok (.invokevirtual 347, 3) := by decide +kernel
theorem dX10_byChance_71 : decode cX10_byChance 71 = .ok (.iload 6, 2) := by decide +kernel
theorem dX10_byChance_73 : decode cX10_byChance 73 = .ok (.aload_n 0, 1) := by decide +kernel
theorem dX10_byChance_74 : decode cX10_byChance 74 = .ok (.getfield 67, 3) := by decide +kernel
theorem dX10_byChance_77 : decode cX10_byChance 77 = .ok (.getfield 291, 3) := by decide +kernel
theorem dX10_byChance_80 : decode cX10_byChance 80 = .ok (.iadd, 1) := by decide +kernel
theorem dX10_byChance_81 : decode cX10_byChance 81 = .ok (.istore 6, 2) := by decide +kernel
theorem dX10_byChance_83 : decode cX10_byChance 83 = .ok (.aload_n 0, 1) := by decide +kernel
theorem dX10_byChance_84 : decode cX10_byChance 84 = .ok (.getfield 67, 3) := by decide +kernel
theorem dX10_byChance_87 : decode cX10_byChance 87 = .ok (.aload_n 0, 1) := by decide +kernel
theorem dX10_byChance_88 : decode cX10_byChance 88 = .ok (.getfield 23, 3) := by decide +kernel
theorem dX10_byChance_91 : decode cX10_byChance 91 = .ok (.aload_n 0, 1) := by decide +kernel
theorem dX10_byChance_92 : decode cX10_byChance 92 = .ok (.getfield 67, 3) := by decide +kernel
theorem dX10_byChance_95 : decode cX10_byChance 95 = .ok (.getfield 211, 3) := by decide +kernel
theorem dX10_byChance_98 : decode cX10_byChance 98 = .ok (.invokevirtual 276, 3) := by decide +kernel
theorem dX10_byChance_101 : decode cX10_byChance 101 = .ok (.ifCond .eq 41, 3) := by decide +kernel
theorem dX10_byChance_104 : decode cX10_byChance 104 = .ok (.iinc 5 1, 3) := by decide +kernel
theorem dX10_byChance_107 : decode cX10_byChance 107 = .ok (.iload 8, 2) := by decide +kernel
theorem dX10_byChance_109 : decode cX10_byChance 109 = .ok (.aload_n 0, 1) := by decide +kernel
theorem dX10_byChance_110 : decode cX10_byChance 110 = .ok (.getfield 67, 3) := by decide +kernel
theorem dX10_byChance_113 : decode cX10_byChance 113 = .ok (.getfield 211, 3) := by decide +kernel
theorem dX10_byChance_116 : decode cX10_byChance 116 = .ok (.aload_n 0, 1) := by decide +kernel
theorem dX10_byChance_117 : decode cX10_byChance 117 = .ok (.getfield 67, 3) := by decide +kernel
theorem dX10_byChance_120 : decode cX10_byChance 120 = .ok (.aload_n 0, 1) := by decide +kernel
theorem dX10_byChance_121 : decode cX10_byChance 121 = .ok (.getfield 23, 3) := by decide +kernel
theorem dX10_byChance_124 : decode cX10_byChance 124 = .ok (.invokevirtual 280, 3) := by decide +kernel
theorem dX10_byChance_127 : decode cX10_byChance 127 = .ok (.iand, 1) := by decide +kernel
theorem dX10_byChance_128 : decode cX10_byChance 128 = .ok (.ifCond .eq 7, 3) := by decide +kernel
theorem dX10_byChance_131 : decode cX10_byChance 131 = .ok (.iconst 1, 1) := by decide +kernel
theorem dX10_byChance_132 : decode cX10_byChance 132 = .ok (.goto 4, 3) := by decide +kernel
theorem dX10_byChance_135 : decode cX10_byChance 135 = .ok (.iconst 0, 1) := by decide +kernel
theorem dX10_byChance_136 : decode cX10_byChance 136 = .ok (.iadd, 1) := by decide +kernel
theorem dX10_byChance_137 : decode cX10_byChance 137 = .ok (.istore 8, 2) := by decide +kernel
theorem dX10_byChance_139 : decode cX10_byChance 139 = .ok (.goto 13, 3) := by decide +kernel
theorem dX10_byChance_142 : decode cX10_byChance 142 = .ok (.iload 7, 2) := by decide +kernel
theorem dX10_byChance_144 : decode cX10_byChance 144 = .ok (.iconst (-1), 1) := by decide +kernel
theorem dX10_byChance_145 : decode cX10_byChance 145 = .ok (.if_icmp .ne 7, 3) := by decide +kernel
theorem dX10_byChance_148 : decode cX10_byChance 148 = .ok (.iload 9, 2) := by decide +kernel
theorem dX10_byChance_150 : decode cX10_byChance 150 = .ok (.istore 7, 2) := by decide +kernel
theorem dX10_byChance_152 : decode cX10_byChance 152 = .ok (.iinc 9 1, 3) := by decide +kernel
theorem dX10_byChance_155 : decode cX10_byChance 155 = .ok (.goto (-107), 3) := by decide +kernel
theorem dX10_byChance_158 : decode cX10_byChance 158 = .ok (.iload 4, 2) := by decide +kernel
theorem dX10_byChance_160 : decode cX10_byChance 160 = .ok (.tableswitch 37 0 2 #[28, 31, 34], 28) := by decide +kernel
theorem dX10_byChance_188 : decode cX10_byChance 188 = .ok (.iload 5, 2) := by decide +kernel
theorem dX10_byChance_190 : decode cX10_byChance 190 = .ok (.ireturn, 1) := by decide +kernel
theorem dX10_byChance_191 : decode cX10_byChance 191 = .ok (.iload 6, 2) := by decide +kernel
theorem dX10_byChance_193 : decode cX10_byChance 193 = .ok (.ireturn, 1) := by decide +kernel
theorem dX10_byChance_194 : decode cX10_byChance 194 = .ok (.iload 7, 2) := by decide +kernel
theorem dX10_byChance_196 : decode cX10_byChance 196 = .ok (.ireturn, 1) := by decide +kernel
theorem dX10_byChance_197 : decode cX10_byChance 197 = .ok (.iload 8, 2) := by decide +kernel
theorem dX10_byChance_199 : decode cX10_byChance 199 = .ok (.ireturn, 1) := by decide +kernel
theorem dX10_canBreak_0 : decode cX10_canBreak 0 = .ok (.iload_n 1, 1) := by decide +kernel
theorem dX10_canBreak_1 : decode cX10_canBreak 1 = .ok (.ifCond .lt 26, 3) := by decide +kernel
theorem dX10_canBreak_4 : decode cX10_canBreak 4 = .ok (.iload_n 1, 1) := by decide +kernel
theorem dX10_canBreak_5 : decode cX10_canBreak 5 = .ok (.iconst 1, 1) := by decide +kernel
theorem dX10_canBreak_6 : decode cX10_canBreak 6 = .ok (.if_icmp .gt 21, 3) := by decide +kernel
theorem dX10_canBreak_9 : decode cX10_canBreak 9 = .ok (.aload_n 0, 1) := by decide +kernel
theorem dX10_canBreak_10 : decode cX10_canBreak 10 = .ok (.getfield 108, 3) := by decide +kernel
theorem dX10_canBreak_13 : decode cX10_canBreak 13 = .ok (.ifCond .eq 14, 3) := by decide +kernel
theorem dX10_canBreak_16 : decode cX10_canBreak 16 = .ok (.aload_n 0, 1) := by decide +kernel
theorem dX10_canBreak_17 : decode cX10_canBreak 17 = .ok (.getfield 23, 3) := by decide +kernel
theorem dX10_canBreak_20 : decode cX10_canBreak 20 = .ok (.getfield 132, 3) := by decide +kernel
theorem dX10_canBreak_23 : decode cX10_canBreak 23 = .ok (.iconst 5, 1) := by decide +kernel
theorem dX10_canBreak_24 : decode cX10_canBreak 24 = .ok (.if_icmp .le 6, 3) := by decide +kernel
theorem dX10_canBreak_27 : decode cX10_canBreak 27 = .ok (.bipush (-2), 2) := by decide +kernel
theorem dX10_canBreak_29 : decode cX10_canBreak 29 = .ok (.ireturn, 1) := by decide +kernel
theorem dX10_canBreak_30 : decode cX10_canBreak 30 = .ok (.iconst 0, 1) := by decide +kernel
theorem dX10_canBreak_31 : decode cX10_canBreak 31 = .ok (.istore_n 2, 1) := by decide +kernel
theorem dX10_canBreak_32 : decode cX10_canBreak 32 = .ok (.iconst (-1), 1) := by decide +kernel
theorem dX10_canBreak_33 : decode cX10_canBreak 33 = .ok (.istore_n 3, 1) := by decide +kernel
theorem dX10_canBreak_34 : decode cX10_canBreak 34 = .ok (.iconst 0, 1) := by decide +kernel
theorem dX10_canBreak_35 : decode cX10_canBreak 35 = .ok (.istore 4, 2) := by decide +kernel
theorem dX10_canBreak_37 : decode cX10_canBreak 37 = .ok (.iload 4, 2) := by decide +kernel
theorem dX10_canBreak_39 : decode cX10_canBreak 39 = .ok (.aload_n 0, 1) := by decide +kernel
theorem dX10_canBreak_40 : decode cX10_canBreak 40 = .ok (.getfield 23, 3) := by decide +kernel
theorem dX10_canBreak_43 : decode cX10_canBreak 43 = .ok (.invokevirtual 205, 3) := by decide +kernel
theorem dX10_canBreak_46 : decode cX10_canBreak 46 = .ok (.if_icmp .ge 67, 3) := by decide +kernel
theorem dX10_canBreak_49 : decode cX10_canBreak 49 = .ok (.iload 4, 2) := by decide +kernel
theorem dX10_canBreak_51 : decode cX10_canBreak 51 = .ok (.invokestatic 283, 3) := by decide +kernel
theorem dX10_canBreak_54 : decode cX10_canBreak 54 = .ok (.aload_n 0, 1) := by decide +kernel
theorem dX10_canBreak_55 : decode cX10_canBreak 55 = .ok (.getfield 60, 3) := by decide +kernel
theorem dX10_canBreak_58 : decode cX10_canBreak 58 = .ok (.getfield 155, 3) := by decide +kernel
theorem dX10_canBreak_61 : decode cX10_canBreak 61 = .ok (.invokestatic 283, 3) := by decide +kernel
theorem dX10_canBreak_64 : decode cX10_canBreak 64 = .ok (.if_icmp .eq 6, 3) := by decide +kernel
theorem dX10_canBreak_67 : decode cX10_canBreak 67 = .ok (.goto 40, 3) := by decide +kernel
theorem dX10_canBreak_70 : decode cX10_canBreak 70 = .ok (.aload_n 0, 1) := by decide +kernel
theorem dX10_canBreak_71 : decode cX10_canBreak 71 = .ok (.iload 4, 2) := by decide +kernel
theorem dX10_canBreak_73 : decode cX10_canBreak 73 = .ok (.invokevirtual 309, 3) := by decide +kernel
theorem dX10_canBreak_76 : decode cX10_canBreak 76 = .ok (.ifCond .ne 6, 3) := by decide +kernel
theorem dX10_canBreak_79 : decode cX10_canBreak 79 = .ok (.bipush (-2), 2) := by decide +kernel
theorem dX10_canBreak_81 : decode cX10_canBreak 81 = .ok (.ireturn, 1) := by decide +kernel
theorem dX10_canBreak_82 : decode cX10_canBreak 82 = .ok (.aload_n 0, 1) := by decide +kernel
theorem dX10_canBreak_83 : decode cX10_canBreak 83 = .ok (.iload 4, 2) := by decide +kernel
theorem dX10_canBreak_85 : decode cX10_canBreak 85 = .ok (.invokevirtual 322, 3) := by decide +kernel
theorem dX10_canBreak_88 : decode cX10_canBreak 88 = .ok (.iconst (-1), 1) := by decide +kernel
theorem dX10_canBreak_89 : decode cX10_canBreak 89 = .ok (.if_icmp .eq 18, 3) := by decide +kernel
theorem dX10_canBreak_92 : decode cX10_canBreak 92 = .ok (.iinc 2 1, 3) := by decide +kernel
theorem dX10_canBreak_95 : decode cX10_canBreak 95 = .ok (.iload_n 3, 1) := by decide +kernel
theorem dX10_canBreak_96 : decode cX10_canBreak 96 = .ok (.iconst (-1), 1) := by decide +kernel
theorem dX10_canBreak_97 : decode cX10_canBreak 97 = .ok (.if_icmp .ne 8, 3) := by decide +kernel
theorem dX10_canBreak_100 : decode cX10_canBreak 100 = .ok (.iload 4, 2) := by decide +kernel
theorem dX10_canBreak_102 : decode cX10_canBreak 102 = .ok (.goto 4, 3) := by decide +kernel
theorem dX10_canBreak_105 : decode cX10_canBreak 105 = .ok (.iload_n 3, 1) := by decide +kernel
theorem dX10_canBreak_106 : decode cX10_canBreak 106 = .ok (.istore_n 3, 1) := by decide +kernel
theorem dX10_canBreak_107 : decode cX10_canBreak 107 = .ok (.iinc 4 1, 3) := by decide +kernel
theorem dX10_canBreak_110 : decode cX10_canBreak 110 = .ok (.goto (-73), 3) := by decide +kernel
theorem dX10_canBreak_113 : decode cX10_canBreak 113 = .ok (.iload_n 1, 1) := by decide +kernel
theorem dX10_canBreak_114 : decode cX10_canBreak 114 = .ok (.ifCond .ne 7, 3) := by decide +kernel
theorem dX10_canBreak_117 : decode cX10_canBreak 117 = .ok (.iload_n 2, 1) := by decide +kernel
theorem dX10_canBreak_118 : decode cX10_canBreak 118 = .ok (.goto 4, 3) := by decide +kernel
theorem dX10_canBreak_121 : decode cX10_canBreak 121 = .ok (.iload_n 3, 1) := by decide +kernel
theorem dX10_canBreak_122 : decode cX10_canBreak 122 = .ok (.ireturn, 1) := by decide +kernel
theorem dX10_count_0 : decode cX10_count 0 = .ok (.iload_n 1, 1) := by decide +kernel
theorem dX10_count_1 : decode cX10_count 1 = .ok (.tableswitch 51 0 2 #[27, 35, 43], 27) := by decide +kernel
theorem dX10_count_28 : decode cX10_count 28 = .ok (.aload_n 0, 1) := by decide +kernel
theorem dX10_count_29 : decode cX10_count 29 = .ok (.getfield 10, 3) := by decide +kernel
theorem dX10_count_32 : decode cX10_count 32 = .ok (.getfield 91, 3) := by decide +kernel
theorem dX10_count_35 : decode cX10_count 35 = .ok (.ireturn, 1) := by decide +kernel
theorem dX10_count_36 : decode cX10_count 36 = .ok (.aload_n 0, 1) := by decide +kernel
theorem dX10_count_37 : decode cX10_count 37 = .ok (.getfield 73, 3) := by decide +kernel
theorem dX10_count_40 : decode cX10_count 40 = .ok (.getfield 119, 3) := by decide +kernel
theorem dX10_count_43 : decode cX10_count 43 = .ok (.ireturn, 1) := by decide +kernel
theorem dX10_count_44 : decode cX10_count 44 = .ok (.aload_n 0, 1) := by decide +kernel
theorem dX10_count_45 : decode cX10_count 45 = .ok (.getfield 60, 3) := by decide +kernel
theorem dX10_count_48 : decode cX10_count 48 = .ok (.getfield 159, 3) := by decide +kernel
theorem dX10_count_51 : decode cX10_count 51 = .ok (.ireturn, 1) := by decide +kernel
theorem dX10_count_52 : decode cX10_count 52 = .ok (.iconst (-1), 1) := by decide +kernel
theorem dX10_count_53 : decode cX10_count 53 = .ok (.ireturn, 1) := by decide +kernel
theorem dX10_end_0 : decode cX10_end 0 = .ok (.iload_n 1, 1) := by decide +kernel
theorem dX10_end_1 : decode cX10_end 1 = .ok (.ifCond .lt 14, 3) := by decide +kernel
theorem dX10_end_4 : decode cX10_end 4 = .ok (.iload_n 1, 1) := by decide +kernel
theorem dX10_end_5 : decode cX10_end 5 = .ok (.aload_n 0, 1) := by decide +kernel
theorem dX10_end_6 : decode cX10_end 6 = .ok (.getfield 10, 3) := by decide +kernel
theorem dX10_end_9 : decode cX10_end 9 = .ok (.getfield 91, 3) := by decide +kernel
theorem dX10_end_12 : decode cX10_end 12 = .ok (.if_icmp .le 5, 3) := by decide +kernel
theorem dX10_end_15 : decode cX10_end 15 = .ok (.iconst 0, 1) := by decide +kernel
theorem dX10_end_16 : decode cX10_end 16 = .ok (.ireturn, 1) := by decide +kernel
theorem dX10_end_17 : decode cX10_end 17 = .ok (.aload_n 0, 1) := by decide +kernel
theorem dX10_end_18 : decode cX10_end 18 = .ok (.getfield 10, 3) := by decide +kernel
theorem dX10_end_21 : decode cX10_end 21 = .ok (.iload_n 1, 1) := by decide +kernel
theorem dX10_end_22 : decode cX10_end 22 = .ok (.putfield 91, 3) := by decide +kernel
theorem dX10_end_25 : decode cX10_end 25 = .ok (.iconst 1, 1) := by decide +kernel
theorem dX10_end_26 : decode cX10_end 26 = .ok (.ireturn, 1) := by decide +kernel
theorem dX10_falseOnes_0 : decode cX10_falseOnes 0 = .ok (.aload_n 0, 1) := by decide +kernel
theorem dX10_falseOnes_1 : decode cX10_falseOnes 1 = .ok (.iload_n 1, 1) := by decide +kernel
theorem dX10_falseOnes_2 : decode cX10_falseOnes 2 = .ok (.aload_n 0, 1) := by decide +kernel
theorem dX10_falseOnes_3 : decode cX10_falseOnes 3 = .ok (.getfield 23, 3) := by decide +kernel
theorem dX10_falseOnes_6 : decode cX10_falseOnes 6 = .ok (.invokevirtual 205, 3) := by decide +kernel
theorem dX10_falseOnes_9 : decode cX10_falseOnes 9 = .ok (.iconst 1, 1) := by decide +kernel
theorem dX10_falseOnes_10 : decode cX10_falseOnes 10 = .ok (.isub, 1) := by decide +kernel
theorem dX10_falseOnes_11 : decode cX10_falseOnes 11 = .ok (.invokevirtual 208, 3) := by decide +kernel
theorem dX10_falseOnes_14 : decode cX10_falseOnes 14 = .ok (.istore_n 2, 1) := by decide +kernel
theorem dX10_falseOnes_15 : decode cX10_falseOnes 15 = .ok (.iload_n 2, 1) := by decide +kernel
theorem dX10_falseOnes_16 : decode cX10_falseOnes 16 = .ok (.iconst (-1), 1) := by decide +kernel
theorem dX10_falseOnes_17 : decode cX10_falseOnes 17 = .ok (.if_icmp .eq 9, 3) := by decide +kernel
theorem dX10_falseOnes_20 : decode cX10_falseOnes 20 = .ok (.aload_n 0, 1) := by decide +kernel
theorem dX10_falseOnes_21 : decode cX10_falseOnes 21 = .ok (.iload_n 2, 1) := by decide +kernel
theorem dX10_falseOnes_22 : decode cX10_falseOnes 22 = .ok (.invokevirtual 198, 3) := by decide +kernel
theorem dX10_falseOnes_25 : decode cX10_falseOnes 25 = .ok (.ireturn, 1) := by decide +kernel
theorem dX10_falseOnes_26 : decode cX10_falseOnes 26 = .ok (.aload_n 0, 1) := by decide +kernel
theorem dX10_falseOnes_27 : decode cX10_falseOnes 27 = .ok (.getfield 60, 3) := by decide +kernel
theorem dX10_falseOnes_30 : decode cX10_falseOnes 30 = .ok (.getfield 155, 3) := by decide +kernel
theorem dX10_falseOnes_33 : decode cX10_falseOnes 33 = .ok (.istore_n 3, 1) := by decide +kernel
theorem dX10_falseOnes_34 : decode cX10_falseOnes 34 = .ok (.aload_n 0, 1) := by decide +kernel
theorem dX10_falseOnes_35 : decode cX10_falseOnes 35 = .ok (.getfield 73, 3) := by decide +kernel
theorem dX10_falseOnes_38 : decode cX10_falseOnes 38 = .ok (.aload_n 0, 1) := by decide +kernel
theorem dX10_falseOnes_39 : decode cX10_falseOnes 39 = .ok (.getfield 60, 3) := by decide +kernel
theorem dX10_falseOnes_42 : decode cX10_falseOnes 42 = .ok (.invokevirtual 186, 3) := by decide +kernel
theorem dX10_falseOnes_45 : decode cX10_falseOnes 45 = .ok (.aload_n 0, 1) := by decide +kernel
theorem dX10_falseOnes_46 : decode cX10_falseOnes 46 = .ok (.getfield 60, 3) := by decide +kernel
theorem dX10_falseOnes_49 : decode cX10_falseOnes 49 = .ok (.iload_n 1, 1) := by decide +kernel
theorem dX10_falseOnes_50 : decode cX10_falseOnes 50 = .ok (.putfield 155, 3) := by decide +kernel
theorem dX10_falseOnes_53 : decode cX10_falseOnes 53 = .ok (.aload_n 0, 1) := by decide +kernel
theorem dX10_falseOnes_54 : decode cX10_falseOnes 54 = .ok (.getfield 60, 3) := by decide +kernel
theorem dX10_falseOnes_57 : decode cX10_falseOnes 57 = .ok (.invokevirtual 214, 3) := by decide +kernel
theorem dX10_falseOnes_60 : decode cX10_falseOnes 60 = .ok (.iload_n 3, 1) := by decide +kernel
theorem dX10_falseOnes_61 : decode cX10_falseOnes 61 = .ok (.ireturn, 1) := by decide +kernel
theorem dX10_free_0 : decode cX10_free 0 = .ok (.aload_n 0, 1) := by decide +kernel
theorem dX10_free_1 : decode cX10_free 1 = .ok (.getfield 108, 3) := by decide +kernel
theorem dX10_free_4 : decode cX10_free 4 = .ok (.ifCond .eq 17, 3) := by decide +kernel
theorem dX10_free_7 : decode cX10_free 7 = .ok (.aload_n 0, 1) := by decide +kernel
theorem dX10_free_8 : decode cX10_free 8 = .ok (.aload_n 0, 1) := by decide +kernel
theorem dX10_free_9 : decode cX10_free 9 = .ok (.getfield 60, 3) := by decide +kernel
theorem dX10_free_12 : decode cX10_free 12 = .ok (.getfield 155, 3) := by decide +kernel
theorem dX10_free_15 : decode cX10_free 15 = .ok (.invokevirtual 306, 3) := by decide +kernel
theorem dX10_free_18 : decode cX10_free 18 = .ok (.goto 4, 3) := by decide +kernel
theorem dX10_free_21 : decode cX10_free 21 = .ok (.iconst (-1), 1) := by decide +kernel
theorem dX10_free_22 : decode cX10_free 22 = .ok (.ireturn, 1) := by decide +kernel
theorem dX10_greatest_0 : decode cX10_greatest 0 = .ok (.iload_n 1, 1) := by decide +kernel
theorem dX10_greatest_1 : decode cX10_greatest 1 = .ok (.ifCond .lt 19, 3) := by decide +kernel
theorem dX10_greatest_4 : decode cX10_greatest 4 = .ok (.iload_n 1, 1) := by decide +kernel
theorem dX10_greatest_5 : decode cX10_greatest 5 = .ok (.iconst 1, 1) := by decide +kernel
theorem dX10_greatest_6 : decode cX10_greatest 6 = .ok (.if_icmp .gt 14, 3) := by decide +kernel
theorem dX10_greatest_9 : decode cX10_greatest 9 = .ok (.iload_n 2, 1) := by decide +kernel
theorem dX10_greatest_10 : decode cX10_greatest 10 = .ok (.iconst 1, 1) := by decide +kernel
theorem dX10_greatest_11 : decode cX10_greatest 11 = .ok (.if_icmp .lt 9, 3) := by decide +kernel
theorem dX10_greatest_14 : decode cX10_greatest 14 = .ok (.iload_n 2, 1) := by decide +kernel
theorem dX10_greatest_15 : decode cX10_greatest 15 = .ok (.bipush 100, 2) := by decide +kernel
theorem dX10_greatest_17 : decode cX10_greatest 17 = .ok (.if_icmp .le 5, 3) := by decide +kernel
theorem dX10_greatest_20 : decode cX10_greatest 20 = .ok (.iconst (-1), 1) := by decide +kernel
theorem dX10_greatest_21 : decode cX10_greatest 21 = .ok (.ireturn, 1) := by decide +kernel
theorem dX10_greatest_22 : decode cX10_greatest 22 = .ok (.iload_n 1, 1) := by decide +kernel
theorem dX10_greatest_23 : decode cX10_greatest 23 = .ok (.iload_n 2, 1) := by decide +kernel
theorem dX10_greatest_24 : decode cX10_greatest 24 = .ok (.invokestatic 303, 3) := by decide +kernel
theorem dX10_greatest_27 : decode cX10_greatest 27 = .ok (.ireturn, 1) := by decide +kernel
theorem dX10_greatestBound_0 : decode cX10_greatestBound 0 = .ok (.iload_n 0, 1) := by decide +kernel
theorem dX10_greatestBound_1 : decode cX10_greatestBound 1 = .ok (.ifCond .ne 11, 3) := by decide +kernel
theorem dX10_greatestBound_4 : decode cX10_greatestBound 4 = .ok (.iload_n 1, 1) := by decide +kernel
theorem dX10_greatestBound_5 : decode cX10_greatestBound 5 = .ok (.iconst 1, 1) := by decide +kernel
theorem dX10_greatestBound_6 : decode cX10_greatestBound 6 = .ok (.isub, 1) := by decide +kernel
theorem dX10_greatestBound_7 : decode cX10_greatestBound 7 = .ok (.iconst 3, 1) := by decide +kernel
theorem dX10_greatestBound_8 : decode cX10_greatestBound 8 = .ok (.idiv, 1) := by decide +kernel
theorem dX10_greatestBound_9 : decode cX10_greatestBound 9 = .ok (.goto 8, 3) := by decide +kernel
theorem dX10_greatestBound_12 : decode cX10_greatestBound 12 = .ok (.iload_n 1, 1) := by decide +kernel
theorem dX10_greatestBound_13 : decode cX10_greatestBound 13 = .ok (.iconst 1, 1) := by decide +kernel
theorem dX10_greatestBound_14 : decode cX10_greatestBound 14 = .ok (.isub, 1) := by decide +kernel
theorem dX10_greatestBound_15 : decode cX10_greatestBound 15 = .ok (.iconst 4, 1) := by decide +kernel
theorem dX10_greatestBound_16 : decode cX10_greatestBound 16 = .ok (.idiv, 1) := by decide +kernel
theorem dX10_greatestBound_17 : decode cX10_greatestBound 17 = .ok (.ireturn, 1) := by decide +kernel
theorem dX10_heard_0 : decode cX10_heard 0 = .ok (.aload_n 0, 1) := by decide +kernel
theorem dX10_heard_1 : decode cX10_heard 1 = .ok (.iload_n 3, 1) := by decide +kernel
theorem dX10_heard_2 : decode cX10_heard 2 = .ok (.invokevirtual 217, 3) := by decide +kernel
theorem dX10_heard_5 : decode cX10_heard 5 = .ok (.ifCond .eq 21, 3) := by decide +kernel
theorem dX10_heard_8 : decode cX10_heard 8 = .ok (.aload_n 0, 1) := by decide +kernel
theorem dX10_heard_9 : decode cX10_heard 9 = .ok (.iload 4, 2) := by decide +kernel
theorem dX10_heard_11 : decode cX10_heard 11 = .ok (.invokevirtual 217, 3) := by decide +kernel
theorem dX10_heard_14 : decode cX10_heard 14 = .ok (.ifCond .eq 12, 3) := by decide +kernel
theorem dX10_heard_17 : decode cX10_heard 17 = .ok (.aload_n 0, 1) := by decide +kernel
theorem dX10_heard_18 : decode cX10_heard 18 = .ok (.iload_n 1, 1) := by decide +kernel
theorem dX10_heard_19 : decode cX10_heard 19 = .ok (.iload_n 2, 1) := by decide +kernel
theorem dX10_heard_20 : decode cX10_heard 20 = .ok (.invokevirtual 221, 3) := by decide +kernel
theorem dX10_heard_23 : decode cX10_heard 23 = .ok (.ifCond .ne 5, 3) := by decide +kernel
theorem dX10_heard_26 : decode cX10_heard 26 = .ok (.iconst (-1), 1) := by decide +kernel
theorem dX10_heard_27 : decode cX10_heard 27 = .ok (.ireturn, 1) := by decide +kernel
theorem dX10_heard_28 : decode cX10_heard 28 = .ok (.iload_n 2, 1) := by decide +kernel
theorem dX10_heard_29 : decode cX10_heard 29 = .ok (.aload_n 0, 1) := by decide +kernel
theorem dX10_heard_30 : decode cX10_heard 30 = .ok (.getfield 23, 3) := by decide +kernel
theorem dX10_heard_33 : decode cX10_heard 33 = .ok (.invokevirtual 169, 3) := by decide +kernel
theorem dX10_heard_36 : decode cX10_heard 36 = .ok (.iconst 1, 1) := by decide +kernel
theorem dX10_heard_37 : decode cX10_heard 37 = .ok (.isub, 1) := by decide +kernel
theorem dX10_heard_38 : decode cX10_heard 38 = .ok (.if_icmp .ne 19, 3) := by decide +kernel
theorem dX10_heard_41 : decode cX10_heard 41 = .ok (.iload_n 3, 1) := by decide +kernel
theorem dX10_heard_42 : decode cX10_heard 42 = .ok (.aload_n 0, 1) := by decide +kernel
theorem dX10_heard_43 : decode cX10_heard 43 = .ok (.getfield 23, 3) := by decide +kernel
theorem dX10_heard_46 : decode cX10_heard 46 = .ok (.iload_n 1, 1) := by decide +kernel
theorem dX10_heard_47 : decode cX10_heard 47 = .ok (.invokevirtual 225, 3) := by decide +kernel
theorem dX10_heard_50 : decode cX10_heard 50 = .ok (.if_icmp .eq 7, 3) := by decide +kernel
theorem dX10_heard_53 : decode cX10_heard 53 = .ok (.iconst 1, 1) := by decide +kernel
theorem dX10_heard_54 : decode cX10_heard 54 = .ok (.goto 4, 3) := by decide +kernel
theorem dX10_heard_57 : decode cX10_heard 57 = .ok (.iconst 0, 1) := by decide +kernel
theorem dX10_heard_58 : decode cX10_heard 58 = .ok (.istore 5, 2) := by decide +kernel
theorem dX10_heard_60 : decode cX10_heard 60 = .ok (.iload 5, 2) := by decide +kernel
theorem dX10_heard_62 : decode cX10_heard 62 = .ok (.ifCond .ne 12, 3) := by decide +kernel
theorem dX10_heard_65 : decode cX10_heard 65 = .ok (.aload_n 0, 1) := by decide +kernel
theorem dX10_heard_66 : decode cX10_heard 66 = .ok (.iload_n 1, 1) := by decide +kernel
theorem dX10_heard_67 : decode cX10_heard 67 = .ok (.iload_n 2, 1) := by decide +kernel
theorem dX10_heard_68 : decode cX10_heard 68 = .ok (.invokevirtual 228, 3) := by decide +kernel
theorem dX10_heard_71 : decode cX10_heard 71 = .ok (.ifCond .ne 7, 3) := by decide +kernel
theorem dX10_heard_74 : decode cX10_heard 74 = .ok (.iconst (-1), 1) := by decide +kernel
theorem dX10_heard_75 : decode cX10_heard 75 = .ok (.goto 15, 3) := by decide +kernel
theorem dX10_heard_78 : decode cX10_heard 78 = .ok (.aload_n 0, 1) := by decide +kernel
theorem dX10_heard_79 : decode cX10_heard 79 = .ok (.getfield 60, 3) := by decide +kernel
theorem dX10_heard_82 : decode cX10_heard 82 = .ok (.iload_n 1, 1) := by decide +kernel
theorem dX10_heard_83 : decode cX10_heard 83 = .ok (.iload_n 2, 1) := by decide +kernel
theorem dX10_heard_84 : decode cX10_heard 84 = .ok (.iload_n 3, 1) := by decide +kernel
theorem dX10_heard_85 : decode cX10_heard 85 = .ok (.iload 4, 2) := by decide +kernel
theorem dX10_heard_87 : decode cX10_heard 87 = .ok (.invokevirtual 231, 3) := by decide +kernel
theorem dX10_heard_90 : decode cX10_heard 90 = .ok (.ireturn, 1) := by decide +kernel
theorem dX10_held_0 : decode cX10_held 0 = .ok (.aload_n 0, 1) := by decide +kernel
theorem dX10_held_1 : decode cX10_held 1 = .ok (.aload_n 0, 1) := by decide +kernel
theorem dX10_held_2 : decode cX10_held 2 = .ok (.getfield 60, 3) := by decide +kernel
theorem dX10_held_5 : decode cX10_held 5 = .ok (.getfield 155, 3) := by decide +kernel
theorem dX10_held_8 : decode cX10_held 8 = .ok (.invokevirtual 309, 3) := by decide +kernel
theorem dX10_held_11 : decode cX10_held 11 = .ok (.ifCond .ne 6, 3) := by decide +kernel
theorem dX10_held_14 : decode cX10_held 14 = .ok (.bipush (-2), 2) := by decide +kernel
theorem dX10_held_16 : decode cX10_held 16 = .ok (.ireturn, 1) := by decide +kernel
theorem dX10_held_17 : decode cX10_held 17 = .ok (.aload_n 0, 1) := by decide +kernel
theorem dX10_held_18 : decode cX10_held 18 = .ok (.iload_n 2, 1) := by decide +kernel
theorem dX10_held_19 : decode cX10_held 19 = .ok (.invokevirtual 217, 3) := by decide +kernel
theorem dX10_held_22 : decode cX10_held 22 = .ok (.ifCond .eq 24, 3) := by decide +kernel
theorem dX10_held_25 : decode cX10_held 25 = .ok (.iload_n 1, 1) := by decide +kernel
theorem dX10_held_26 : decode cX10_held 26 = .ok (.ifCond .lt 20, 3) := by decide +kernel
theorem dX10_held_29 : decode cX10_held 29 = .ok (.iload_n 1, 1) := by decide +kernel
theorem dX10_held_30 : decode cX10_held 30 = .ok (.iconst 1, 1) := by decide +kernel
theorem dX10_held_31 : decode cX10_held 31 = .ok (.aload_n 0, 1) := by decide +kernel
theorem dX10_held_32 : decode cX10_held 32 = .ok (.aload_n 0, 1) := by decide +kernel
theorem dX10_held_33 : decode cX10_held 33 = .ok (.getfield 60, 3) := by decide +kernel
theorem dX10_held_36 : decode cX10_held 36 = .ok (.getfield 155, 3) := by decide +kernel
theorem dX10_held_39 : decode cX10_held 39 = .ok (.invokevirtual 306, 3) := by decide +kernel
theorem dX10_held_42 : decode cX10_held 42 = .ok (.ishl, 1) := by decide +kernel
theorem dX10_held_43 : decode cX10_held 43 = .ok (.if_icmp .lt 5, 3) := by decide +kernel
theorem dX10_held_46 : decode cX10_held 46 = .ok (.iconst (-1), 1) := by decide +kernel
theorem dX10_held_47 : decode cX10_held 47 = .ok (.ireturn, 1) := by decide +kernel
theorem dX10_held_48 : decode cX10_held 48 = .ok (.aload_n 0, 1) := by decide +kernel
theorem dX10_held_49 : decode cX10_held 49 = .ok (.getfield 53, 3) := by decide +kernel
theorem dX10_held_52 : decode cX10_held 52 = .ok (.iload_n 1, 1) := by decide +kernel
theorem dX10_held_53 : decode cX10_held 53 = .ok (.putfield 341, 3) := by decide +kernel
theorem dX10_held_56 : decode cX10_held 56 = .ok (.aload_n 0, 1) := by decide +kernel
theorem dX10_held_57 : decode cX10_held 57 = .ok (.getfield 53, 3) := by decide +kernel
theorem dX10_held_60 : decode cX10_held 60 = .ok (.iconst 0, 1) := by decide +kernel
theorem dX10_held_61 : decode cX10_held 61 = .ok (.putfield 344, 3) := by decide +kernel
theorem dX10_held_64 : decode cX10_held 64 = .ok (.aload_n 0, 1) := by decide +kernel
theorem dX10_held_65 : decode cX10_held 65 = .ok (.aload_n 0, 1) := by decide +kernel
theorem dX10_held_66 : decode cX10_held 66 = .ok (.getfield 23, 3) := by decide +kernel
theorem dX10_held_69 : decode cX10_held 69 = .ok (.aload_n 0, 1) := by decide +kernel
theorem dX10_held_70 : decode cX10_held 70 = .ok (.getfield 53, 3) := by decide +kernel
theorem dX10_held_73 : decode cX10_held 73 = .ok (.aload_n 0, 1) := by decide +kernel
theorem dX10_held_74 : decode cX10_held 74 = .ok (.getfield 115, 3) := by decide +kernel
theorem dX10_held_77 : decode cX10_held 77 = .ok (.invokevirtual 347, 3) := by decide +kernel
theorem dX10_held_80 : decode cX10_held 80 = .ok (.aload_n 0, 1) := by decide +kernel
theorem dX10_held_81 : decode cX10_held 81 = .ok (.getfield 67, 3) := by decide +kernel
theorem dX10_held_84 : decode cX10_held 84 = .ok (.getfield 211, 3) := by decide +kernel
theorem dX10_held_87 : decode cX10_held 87 = .ok (.iload_n 2, 1) := by decide +kernel
theorem dX10_held_88 : decode cX10_held 88 = .ok (.invokestatic 235, 3) := by decide +kernel
theorem dX10_held_91 : decode cX10_held 91 = .ok (.ireturn, 1) := by decide +kernel
theorem dX10_image_0 : decode cX10_image 0 = .ok (.aload_n 0, 1) := by decide +kernel
theorem dX10_image_1 : decode cX10_image 1 = .ok (.getfield 108, 3) := by decide +kernel
theorem dX10_image_4 : decode cX10_image 4 = .ok (.ifCond .ne 5, 3) := by decide +kernel
theorem dX10_image_7 : decode cX10_image 7 = .ok (.iconst (-1), 1) := by decide +kernel
theorem dX10_image_8 : decode cX10_image 8 = .ok (.ireturn, 1) := by decide +kernel
theorem dX10_image_9 : decode cX10_image 9 = .ok (.aload_n 0, 1) := by decide +kernel
theorem dX10_image_10 : decode cX10_image 10 = .ok (.getfield 64, 3) := by decide +kernel
theorem dX10_image_13 : decode cX10_image 13 = .ok (.aload_n 0, 1) := by decide +kernel
theorem dX10_image_14 : decode cX10_image 14 = .ok (.getfield 60, 3) := by decide +kernel
theorem dX10_image_17 : decode cX10_image 17 = .ok (.invokevirtual 384, 3) := by decide +kernel
theorem dX10_image_20 : decode cX10_image 20 = .ok (.aload_n 0, 1) := by decide +kernel
theorem dX10_image_21 : decode cX10_image 21 = .ok (.iconst 1, 1) := by decide +kernel
theorem dX10_image_22 : decode cX10_image 22 = .ok (.putfield 112, 3) := by decide +kernel
theorem dX10_image_25 : decode cX10_image 25 = .ok (.aload_n 0, 1) := by decide +kernel
theorem dX10_image_26 : decode cX10_image 26 = .ok (.getfield 60, 3) := by decide +kernel
theorem dX10_image_29 : decode cX10_image 29 = .ok (.getfield 159, 3) := by decide +kernel
theorem dX10_image_32 : decode cX10_image 32 = .ok (.ireturn, 1) := by decide +kernel
theorem dX10_isAsked_0 : decode cX10_isAsked 0 = .ok (.aload_n 0, 1) := by decide +kernel
theorem dX10_isAsked_1 : decode cX10_isAsked 1 = .ok (.getfield 108, 3) := by decide +kernel
theorem dX10_isAsked_4 : decode cX10_isAsked 4 = .ok (.ifCond .eq 17, 3) := by decide +kernel
theorem dX10_isAsked_7 : decode cX10_isAsked 7 = .ok (.aload_n 0, 1) := by decide +kernel
theorem dX10_isAsked_8 : decode cX10_isAsked 8 = .ok (.iload_n 1, 1) := by decide +kernel
theorem dX10_isAsked_9 : decode cX10_isAsked 9 = .ok (.invokevirtual 306, 3) := by decide +kernel
theorem dX10_isAsked_12 : decode cX10_isAsked 12 = .ok (.bipush 12, 2) := by decide +kernel
theorem dX10_isAsked_14 : decode cX10_isAsked 14 = .ok (.if_icmp .gt 7, 3) := by decide +kernel
theorem dX10_isAsked_17 : decode cX10_isAsked 17 = .ok (.iconst 1, 1) := by decide +kernel
theorem dX10_isAsked_18 : decode cX10_isAsked 18 = .ok (.goto 4, 3) := by decide +kernel
theorem dX10_isAsked_21 : decode cX10_isAsked 21 = .ok (.iconst 0, 1) := by decide +kernel
theorem dX10_isAsked_22 : decode cX10_isAsked 22 = .ok (.ireturn, 1) := by decide +kernel
theorem dX10_isOver_0 : decode cX10_isOver 0 = .ok (.iload_n 1, 1) := by decide +kernel
theorem dX10_isOver_1 : decode cX10_isOver 1 = .ok (.ifCond .lt 15, 3) := by decide +kernel
theorem dX10_isOver_4 : decode cX10_isOver 4 = .ok (.iload_n 1, 1) := by decide +kernel
theorem dX10_isOver_5 : decode cX10_isOver 5 = .ok (.aload_n 0, 1) := by decide +kernel
theorem dX10_isOver_6 : decode cX10_isOver 6 = .ok (.invokevirtual 273, 3) := by decide +kernel
theorem dX10_isOver_9 : decode cX10_isOver 9 = .ok (.if_icmp .ge 7, 3) := by decide +kernel
theorem dX10_isOver_12 : decode cX10_isOver 12 = .ok (.iconst 1, 1) := by decide +kernel
theorem dX10_isOver_13 : decode cX10_isOver 13 = .ok (.goto 4, 3) := by decide +kernel
theorem dX10_isOver_16 : decode cX10_isOver 16 = .ok (.iconst 0, 1) := by decide +kernel
theorem dX10_isOver_17 : decode cX10_isOver 17 = .ok (.ireturn, 1) := by decide +kernel
theorem dX10_isPeer_0 : decode cX10_isPeer 0 = .ok (.aload_n 0, 1) := by decide +kernel
theorem dX10_isPeer_1 : decode cX10_isPeer 1 = .ok (.getfield 108, 3) := by decide +kernel
theorem dX10_isPeer_4 : decode cX10_isPeer 4 = .ok (.ifCond .eq 22, 3) := by decide +kernel
theorem dX10_isPeer_7 : decode cX10_isPeer 7 = .ok (.iload_n 1, 1) := by decide +kernel
theorem dX10_isPeer_8 : decode cX10_isPeer 8 = .ok (.ifCond .lt 18, 3) := by decide +kernel
theorem dX10_isPeer_11 : decode cX10_isPeer 11 = .ok (.iload_n 1, 1) := by decide +kernel
theorem dX10_isPeer_12 : decode cX10_isPeer 12 = .ok (.aload_n 0, 1) := by decide +kernel
theorem dX10_isPeer_13 : decode cX10_isPeer 13 = .ok (.getfield 23, 3) := by decide +kernel
theorem dX10_isPeer_16 : decode cX10_isPeer 16 = .ok (.getfield 132, 3) := by decide +kernel
theorem dX10_isPeer_19 : decode cX10_isPeer 19 = .ok (.if_icmp .ge 7, 3) := by decide +kernel
theorem dX10_isPeer_22 : decode cX10_isPeer 22 = .ok (.iconst 1, 1) := by decide +kernel
theorem dX10_isPeer_23 : decode cX10_isPeer 23 = .ok (.goto 4, 3) := by decide +kernel
theorem dX10_isPeer_26 : decode cX10_isPeer 26 = .ok (.iconst 0, 1) := by decide +kernel
theorem dX10_isPeer_27 : decode cX10_isPeer 27 = .ok (.ireturn, 1) := by decide +kernel
theorem dX10_letters_0 : decode cX10_letters 0 = .ok (.aload_n 0, 1) := by decide +kernel
theorem dX10_letters_1 : decode cX10_letters 1 = .ok (.getfield 108, 3) := by decide +kernel
theorem dX10_letters_4 : decode cX10_letters 4 = .ok (.ifCond .ne 5, 3) := by decide +kernel
theorem dX10_letters_7 : decode cX10_letters 7 = .ok (.iconst (-1), 1) := by decide +kernel
theorem dX10_letters_8 : decode cX10_letters 8 = .ok (.ireturn, 1) := by decide +kernel
theorem dX10_letters_9 : decode cX10_letters 9 = .ok (.aload_n 0, 1) := by decide +kernel
theorem dX10_letters_10 : decode cX10_letters 10 = .ok (.invokevirtual 273, 3) := by decide +kernel
theorem dX10_letters_13 : decode cX10_letters 13 = .ok (.istore_n 2, 1) := by decide +kernel
theorem dX10_letters_14 : decode cX10_letters 14 = .ok (.iload_n 1, 1) := by decide +kernel
theorem dX10_letters_15 : decode cX10_letters 15 = .ok (.tableswitch 73 0 3 #[29, 37, 45, 53], 29) := by decide +kernel
theorem dX10_letters_44 : decode cX10_letters 44 = .ok (.aload_n 0, 1) := by decide +kernel
theorem dX10_letters_45 : decode cX10_letters 45 = .ok (.getfield 60, 3) := by decide +kernel
theorem dX10_letters_48 : decode cX10_letters 48 = .ok (.getfield 291, 3) := by decide +kernel
theorem dX10_letters_51 : decode cX10_letters 51 = .ok (.ireturn, 1) := by decide +kernel
theorem dX10_letters_52 : decode cX10_letters 52 = .ok (.aload_n 0, 1) := by decide +kernel
theorem dX10_letters_53 : decode cX10_letters 53 = .ok (.getfield 60, 3) := by decide +kernel
theorem dX10_letters_56 : decode cX10_letters 56 = .ok (.getfield 294, 3) := by decide +kernel
theorem dX10_letters_59 : decode cX10_letters 59 = .ok (.ireturn, 1) := by decide +kernel
theorem dX10_letters_60 : decode cX10_letters 60 = .ok (.aload_n 0, 1) := by decide +kernel
theorem dX10_letters_61 : decode cX10_letters 61 = .ok (.getfield 23, 3) := by decide +kernel
theorem dX10_letters_64 : decode cX10_letters 64 = .ok (.invokevirtual 297, 3) := by decide +kernel
theorem dX10_letters_67 : decode cX10_letters 67 = .ok (.ireturn, 1) := by decide +kernel
theorem dX10_letters_68 : decode cX10_letters 68 = .ok (.iload_n 2, 1) := by decide +kernel
theorem dX10_letters_69 : decode cX10_letters 69 = .ok (.ifCond .le 17, 3) := by decide +kernel
theorem dX10_letters_72 : decode cX10_letters 72 = .ok (.aload_n 0, 1) := by decide +kernel
theorem dX10_letters_73 : decode cX10_letters 73 = .ok (.getfield 60, 3) := by decide +kernel
theorem dX10_letters_76 : decode cX10_letters 76 = .ok (.getfield 300, 3) := by decide +kernel
theorem dX10_letters_79 : decode cX10_letters 79 = .ok (.iload_n 2, 1) := by decide +kernel
theorem dX10_letters_80 : decode cX10_letters 80 = .ok (.iconst 1, 1) := by decide +kernel
theorem dX10_letters_81 : decode cX10_letters 81 = .ok (.isub, 1) := by decide +kernel
theorem dX10_letters_82 : decode cX10_letters 82 = .ok (.iaload, 1) := by decide +kernel
theorem dX10_letters_83 : decode cX10_letters 83 = .ok (.goto 4, 3) := by decide +kernel
theorem dX10_letters_86 : decode cX10_letters 86 = .ok (.iconst 0, 1) := by decide +kernel
theorem dX10_letters_87 : decode cX10_letters 87 = .ok (.ireturn, 1) := by decide +kernel
theorem dX10_letters_88 : decode cX10_letters 88 = .ok (.iconst (-1), 1) := by decide +kernel
theorem dX10_letters_89 : decode cX10_letters 89 = .ok (.ireturn, 1) := by decide +kernel
theorem dX10_most_0 : decode cX10_most 0 = .ok (.aload_n 0, 1) := by decide +kernel
theorem dX10_most_1 : decode cX10_most 1 = .ok (.getfield 108, 3) := by decide +kernel
theorem dX10_most_4 : decode cX10_most 4 = .ok (.ifCond .ne 5, 3) := by decide +kernel
theorem dX10_most_7 : decode cX10_most 7 = .ok (.iconst (-1), 1) := by decide +kernel
theorem dX10_most_8 : decode cX10_most 8 = .ok (.ireturn, 1) := by decide +kernel
theorem dX10_most_9 : decode cX10_most 9 = .ok (.iload_n 1, 1) := by decide +kernel
theorem dX10_most_10 : decode cX10_most 10 = .ok (.tableswitch 59 0 4 #[34, 39, 44, 49, 54], 34) := by decide +kernel
theorem dX10_most_44 : decode cX10_most 44 = .ok (.aload_n 0, 1) := by decide +kernel
theorem dX10_most_45 : decode cX10_most 45 = .ok (.invokevirtual 386, 3) := by decide +kernel
theorem dX10_most_48 : decode cX10_most 48 = .ok (.ireturn, 1) := by decide +kernel
theorem dX10_most_49 : decode cX10_most 49 = .ok (.aload_n 0, 1) := by decide +kernel
theorem dX10_most_50 : decode cX10_most 50 = .ok (.invokevirtual 389, 3) := by decide +kernel
theorem dX10_most_53 : decode cX10_most 53 = .ok (.ireturn, 1) := by decide +kernel
theorem dX10_most_54 : decode cX10_most 54 = .ok (.aload_n 0, 1) := by decide +kernel
theorem dX10_most_55 : decode cX10_most 55 = .ok (.invokevirtual 392, 3) := by decide +kernel
theorem dX10_most_58 : decode cX10_most 58 = .ok (.ireturn, 1) := by decide +kernel
theorem dX10_most_59 : decode cX10_most 59 = .ok (.aload_n 0, 1) := by decide +kernel
theorem dX10_most_60 : decode cX10_most 60 = .ok (.invokevirtual 395, 3) := by decide +kernel
theorem dX10_most_63 : decode cX10_most 63 = .ok (.ireturn, 1) := by decide +kernel
theorem dX10_most_64 : decode cX10_most 64 = .ok (.aload_n 0, 1) := by decide +kernel
theorem dX10_most_65 : decode cX10_most 65 = .ok (.invokevirtual 398, 3) := by decide +kernel
theorem dX10_most_68 : decode cX10_most 68 = .ok (.ireturn, 1) := by decide +kernel
theorem dX10_most_69 : decode cX10_most 69 = .ok (.iconst (-1), 1) := by decide +kernel
theorem dX10_most_70 : decode cX10_most 70 = .ok (.ireturn, 1) := by decide +kernel
theorem dX10_needed_0 : decode cX10_needed 0 = .ok (.iconst 1, 1) := by decide +kernel
theorem dX10_needed_1 : decode cX10_needed 1 = .ok (.istore_n 1, 1) := by decide +kernel
theorem dX10_needed_2 : decode cX10_needed 2 = .ok (.aload_n 0, 1) := by decide +kernel
theorem dX10_needed_3 : decode cX10_needed 3 = .ok (.getfield 108, 3) := by decide +kernel
theorem dX10_needed_6 : decode cX10_needed 6 = .ok (.ifCond .eq 75, 3) := by decide +kernel
theorem dX10_needed_9 : decode cX10_needed 9 = .ok (.iload_n 1, 1) := by decide +kernel
theorem dX10_needed_10 : decode cX10_needed 10 = .ok (.bipush 6, 2) := by decide +kernel
theorem dX10_needed_12 : decode cX10_needed 12 = .ok (.if_icmp .gt 69, 3) := by decide +kernel
theorem dX10_needed_15 : decode cX10_needed 15 = .ok (.aload_n 0, 1) := by decide +kernel
theorem dX10_needed_16 : decode cX10_needed 16 = .ok (.getfield 23, 3) := by decide +kernel
theorem dX10_needed_19 : decode cX10_needed 19 = .ok (.aload_n 0, 1) := by decide +kernel
theorem dX10_needed_20 : decode cX10_needed 20 = .ok (.getfield 60, 3) := by decide +kernel
theorem dX10_needed_23 : decode cX10_needed 23 = .ok (.getfield 155, 3) := by decide +kernel
theorem dX10_needed_26 : decode cX10_needed 26 = .ok (.iload_n 1, 1) := by decide +kernel
theorem dX10_needed_27 : decode cX10_needed 27 = .ok (.invokevirtual 351, 3) := by decide +kernel
theorem dX10_needed_30 : decode cX10_needed 30 = .ok (.bipush 12, 2) := by decide +kernel
theorem dX10_needed_32 : decode cX10_needed 32 = .ok (.if_icmp .le 5, 3) := by decide +kernel
theorem dX10_needed_35 : decode cX10_needed 35 = .ok (.iconst (-1), 1) := by decide +kernel
theorem dX10_needed_36 : decode cX10_needed 36 = .ok (.ireturn, 1) := by decide +kernel
theorem dX10_needed_37 : decode cX10_needed 37 = .ok (.aload_n 0, 1) := by decide +kernel
theorem dX10_needed_38 : decode cX10_needed 38 = .ok (.getfield 80, 3) := by decide +kernel
theorem dX10_needed_41 : decode cX10_needed 41 = .ok (.aload_n 0, 1) := by decide +kernel
theorem dX10_needed_42 : decode cX10_needed 42 = .ok (.getfield 23, 3) := by decide +kernel
theorem dX10_needed_45 : decode cX10_needed 45 = .ok (.aload_n 0, 1) := by decide +kernel
theorem dX10_needed_46 : decode cX10_needed 46 = .ok (.getfield 60, 3) := by decide +kernel
theorem dX10_needed_49 : decode cX10_needed 49 = .ok (.getfield 155, 3) := by decide +kernel
theorem dX10_needed_52 : decode cX10_needed 52 = .ok (.iload_n 1, 1) := by decide +kernel
theorem dX10_needed_53 : decode cX10_needed 53 = .ok (.invokevirtual 312, 3) := by decide +kernel
theorem dX10_needed_56 : decode cX10_needed 56 = .ok (.aload_n 0, 1) := by decide +kernel
theorem dX10_needed_57 : decode cX10_needed 57 = .ok (.getfield 80, 3) := by decide +kernel
theorem dX10_needed_60 : decode cX10_needed 60 = .ok (.aload_n 0, 1) := by decide +kernel
theorem dX10_needed_61 : decode cX10_needed 61 = .ok (.getfield 60, 3) := by decide +kernel
theorem dX10_needed_64 : decode cX10_needed 64 = .ok (.getfield 154, 3) := by decide +kernel
theorem dX10_needed_67 : decode cX10_needed 67 = .ok (.invokevirtual 335, 3) := by decide +kernel
theorem dX10_needed_70 : decode cX10_needed 70 = .ok (.ifCond .ne 5, 3) := by decide +kernel
theorem dX10_needed_73 : decode cX10_needed 73 = .ok (.iload_n 1, 1) := by decide +kernel
theorem dX10_needed_74 : decode cX10_needed 74 = .ok (.ireturn, 1) := by decide +kernel
theorem dX10_needed_75 : decode cX10_needed 75 = .ok (.iinc 1 1, 3) := by decide +kernel
theorem dX10_needed_78 : decode cX10_needed 78 = .ok (.goto (-76), 3) := by decide +kernel
theorem dX10_needed_81 : decode cX10_needed 81 = .ok (.iconst (-1), 1) := by decide +kernel
theorem dX10_needed_82 : decode cX10_needed 82 = .ok (.ireturn, 1) := by decide +kernel
theorem dX10_peer_0 : decode cX10_peer 0 = .ok (.aload_n 0, 1) := by decide +kernel
theorem dX10_peer_1 : decode cX10_peer 1 = .ok (.iload_n 1, 1) := by decide +kernel
theorem dX10_peer_2 : decode cX10_peer 2 = .ok (.invokevirtual 217, 3) := by decide +kernel
theorem dX10_peer_5 : decode cX10_peer 5 = .ok (.ifCond .ne 5, 3) := by decide +kernel
theorem dX10_peer_8 : decode cX10_peer 8 = .ok (.iconst (-1), 1) := by decide +kernel
theorem dX10_peer_9 : decode cX10_peer 9 = .ok (.ireturn, 1) := by decide +kernel
theorem dX10_peer_10 : decode cX10_peer 10 = .ok (.iload_n 2, 1) := by decide +kernel
theorem dX10_peer_11 : decode cX10_peer 11 = .ok (.tableswitch 74 0 3 #[29, 41, 50, 62], 29) := by decide +kernel
theorem dX10_peer_40 : decode cX10_peer 40 = .ok (.aload_n 0, 1) := by decide +kernel
theorem dX10_peer_41 : decode cX10_peer 41 = .ok (.getfield 60, 3) := by decide +kernel
theorem dX10_peer_44 : decode cX10_peer 44 = .ok (.getfield 211, 3) := by decide +kernel
theorem dX10_peer_47 : decode cX10_peer 47 = .ok (.iload_n 1, 1) := by decide +kernel
theorem dX10_peer_48 : decode cX10_peer 48 = .ok (.invokestatic 235, 3) := by decide +kernel
theorem dX10_peer_51 : decode cX10_peer 51 = .ok (.ireturn, 1) := by decide +kernel
theorem dX10_peer_52 : decode cX10_peer 52 = .ok (.aload_n 0, 1) := by decide +kernel
theorem dX10_peer_53 : decode cX10_peer 53 = .ok (.getfield 60, 3) := by decide +kernel
theorem dX10_peer_56 : decode cX10_peer 56 = .ok (.iload_n 1, 1) := by decide +kernel
theorem dX10_peer_57 : decode cX10_peer 57 = .ok (.invokevirtual 238, 3) := by decide +kernel
theorem dX10_peer_60 : decode cX10_peer 60 = .ok (.ireturn, 1) := by decide +kernel
theorem dX10_peer_61 : decode cX10_peer 61 = .ok (.aload_n 0, 1) := by decide +kernel
theorem dX10_peer_62 : decode cX10_peer 62 = .ok (.getfield 60, 3) := by decide +kernel
theorem dX10_peer_65 : decode cX10_peer 65 = .ok (.getfield 155, 3) := by decide +kernel
theorem dX10_peer_68 : decode cX10_peer 68 = .ok (.iload_n 1, 1) := by decide +kernel
theorem dX10_peer_69 : decode cX10_peer 69 = .ok (.invokestatic 235, 3) := by decide +kernel
theorem dX10_peer_72 : decode cX10_peer 72 = .ok (.ireturn, 1) := by decide +kernel
theorem dX10_peer_73 : decode cX10_peer 73 = .ok (.aload_n 0, 1) := by decide +kernel
theorem dX10_peer_74 : decode cX10_peer 74 = .ok (.getfield 60, 3) := by decide +kernel
theorem dX10_peer_77 : decode cX10_peer 77 = .ok (.getfield 154, 3) := by decide +kernel
theorem dX10_peer_80 : decode cX10_peer 80 = .ok (.iload_n 1, 1) := by decide +kernel
theorem dX10_peer_81 : decode cX10_peer 81 = .ok (.invokestatic 235, 3) := by decide +kernel
theorem dX10_peer_84 : decode cX10_peer 84 = .ok (.ireturn, 1) := by decide +kernel
theorem dX10_peer_85 : decode cX10_peer 85 = .ok (.iconst (-1), 1) := by decide +kernel
theorem dX10_peer_86 : decode cX10_peer 86 = .ok (.ireturn, 1) := by decide +kernel
theorem dX10_phasesOver_0 : decode cX10_phasesOver 0 = .ok (.aload_n 0, 1) := by decide +kernel
theorem dX10_phasesOver_1 : decode cX10_phasesOver 1 = .ok (.getfield 108, 3) := by decide +kernel
theorem dX10_phasesOver_4 : decode cX10_phasesOver 4 = .ok (.ifCond .eq 25, 3) := by decide +kernel
theorem dX10_phasesOver_7 : decode cX10_phasesOver 7 = .ok (.aload_n 0, 1) := by decide +kernel
theorem dX10_phasesOver_8 : decode cX10_phasesOver 8 = .ok (.getfield 23, 3) := by decide +kernel
theorem dX10_phasesOver_11 : decode cX10_phasesOver 11 = .ok (.aload_n 0, 1) := by decide +kernel
theorem dX10_phasesOver_12 : decode cX10_phasesOver 12 = .ok (.getfield 60, 3) := by decide +kernel
theorem dX10_phasesOver_15 : decode cX10_phasesOver 15 = .ok (.getfield 159, 3) := by decide +kernel
theorem dX10_phasesOver_18 : decode cX10_phasesOver 18 = .ok (.invokevirtual 162, 3) := by decide +kernel
theorem dX10_phasesOver_21 : decode cX10_phasesOver 21 = .ok (.bipush 6, 2) := by decide +kernel
theorem dX10_phasesOver_23 : decode cX10_phasesOver 23 = .ok (.invokestatic 401, 3) := by decide +kernel
theorem dX10_phasesOver_26 : decode cX10_phasesOver 26 = .ok (.goto 4, 3) := by decide +kernel
theorem dX10_phasesOver_29 : decode cX10_phasesOver 29 = .ok (.iconst 0, 1) := by decide +kernel
theorem dX10_phasesOver_30 : decode cX10_phasesOver 30 = .ok (.ireturn, 1) := by decide +kernel
theorem dX10_refuse_0 : decode cX10_refuse 0 = .ok (.aload_n 0, 1) := by decide +kernel
theorem dX10_refuse_1 : decode cX10_refuse 1 = .ok (.getfield 87, 3) := by decide +kernel
theorem dX10_refuse_4 : decode cX10_refuse 4 = .ok (.iload_n 1, 1) := by decide +kernel
theorem dX10_refuse_5 : decode cX10_refuse 5 = .ok (.dup2, 1) := by decide +kernel
theorem dX10_refuse_6 : decode cX10_refuse 6 = .ok (.iaload, 1) := by decide +kernel
theorem dX10_refuse_7 : decode cX10_refuse 7 = .ok (.iconst 1, 1) := by decide +kernel
theorem dX10_refuse_8 : decode cX10_refuse 8 = .ok (.iadd, 1) := by decide +kernel
theorem dX10_refuse_9 : decode cX10_refuse 9 = .ok (.iastore, 1) := by decide +kernel
theorem dX10_refuse_10 : decode cX10_refuse 10 = .ok (.iconst (-1), 1) := by decide +kernel
theorem dX10_refuse_11 : decode cX10_refuse 11 = .ok (.ireturn, 1) := by decide +kernel
theorem dX10_round_0 : decode cX10_round 0 = .ok (.aload_n 0, 1) := by decide +kernel
theorem dX10_round_1 : decode cX10_round 1 = .ok (.invokevirtual 183, 3) := by decide +kernel
theorem dX10_round_4 : decode cX10_round 4 = .ok (.iconst 1, 1) := by decide +kernel
theorem dX10_round_5 : decode cX10_round 5 = .ok (.if_icmp .ge 5, 3) := by decide +kernel
theorem dX10_round_8 : decode cX10_round 8 = .ok (.iconst (-1), 1) := by decide +kernel
theorem dX10_round_9 : decode cX10_round 9 = .ok (.ireturn, 1) := by decide +kernel
theorem dX10_round_10 : decode cX10_round 10 = .ok (.aload_n 0, 1) := by decide +kernel
theorem dX10_round_11 : decode cX10_round 11 = .ok (.getfield 73, 3) := by decide +kernel
theorem dX10_round_14 : decode cX10_round 14 = .ok (.aload_n 0, 1) := by decide +kernel
theorem dX10_round_15 : decode cX10_round 15 = .ok (.getfield 60, 3) := by decide +kernel
theorem dX10_round_18 : decode cX10_round 18 = .ok (.invokevirtual 186, 3) := by decide +kernel
theorem dX10_round_21 : decode cX10_round 21 = .ok (.aload_n 0, 1) := by decide +kernel
theorem dX10_round_22 : decode cX10_round 22 = .ok (.getfield 60, 3) := by decide +kernel
theorem dX10_round_25 : decode cX10_round 25 = .ok (.aload_n 0, 1) := by decide +kernel
theorem dX10_round_26 : decode cX10_round 26 = .ok (.getfield 23, 3) := by decide +kernel
theorem dX10_round_29 : decode cX10_round 29 = .ok (.aload_n 0, 1) := by decide +kernel
theorem dX10_round_30 : decode cX10_round 30 = .ok (.getfield 39, 3) := by decide +kernel
theorem dX10_round_33 : decode cX10_round 33 = .ok (.invokevirtual 190, 3) := by decide +kernel
theorem dX10_round_36 : decode cX10_round 36 = .ok (.aload_n 0, 1) := by decide +kernel
theorem dX10_round_37 : decode cX10_round 37 = .ok (.getfield 60, 3) := by decide +kernel
theorem dX10_round_40 : decode cX10_round 40 = .ok (.getfield 159, 3) := by decide +kernel
theorem dX10_round_43 : decode cX10_round 43 = .ok (.ireturn, 1) := by decide +kernel
theorem dX10_roundsLeft_0 : decode cX10_roundsLeft 0 = .ok (.aload_n 0, 1) := by decide +kernel
theorem dX10_roundsLeft_1 : decode cX10_roundsLeft 1 = .ok (.getfield 108, 3) := by decide +kernel
theorem dX10_roundsLeft_4 : decode cX10_roundsLeft 4 = .ok (.ifCond .eq 21, 3) := by decide +kernel
theorem dX10_roundsLeft_7 : decode cX10_roundsLeft 7 = .ok (.aload_n 0, 1) := by decide +kernel
theorem dX10_roundsLeft_8 : decode cX10_roundsLeft 8 = .ok (.getfield 23, 3) := by decide +kernel
theorem dX10_roundsLeft_11 : decode cX10_roundsLeft 11 = .ok (.invokevirtual 406, 3) := by decide +kernel
theorem dX10_roundsLeft_14 : decode cX10_roundsLeft 14 = .ok (.aload_n 0, 1) := by decide +kernel
theorem dX10_roundsLeft_15 : decode cX10_roundsLeft 15 = .ok (.getfield 60, 3) := by decide +kernel
theorem dX10_roundsLeft_18 : decode cX10_roundsLeft 18 = .ok (.getfield 159, 3) := by decide +kernel
theorem dX10_roundsLeft_21 : decode cX10_roundsLeft 21 = .ok (.isub, 1) := by decide +kernel
theorem dX10_roundsLeft_22 : decode cX10_roundsLeft 22 = .ok (.goto 4, 3) := by decide +kernel
theorem dX10_roundsLeft_25 : decode cX10_roundsLeft 25 = .ok (.iconst 0, 1) := by decide +kernel
theorem dX10_roundsLeft_26 : decode cX10_roundsLeft 26 = .ok (.ireturn, 1) := by decide +kernel
theorem dX10_rule_0 : decode cX10_rule 0 = .ok (.iload_n 1, 1) := by decide +kernel
theorem dX10_rule_1 : decode cX10_rule 1 = .ok (.bipush 10, 2) := by decide +kernel
theorem dX10_rule_3 : decode cX10_rule 3 = .ok (.if_icmp .ne 14, 3) := by decide +kernel
theorem dX10_rule_6 : decode cX10_rule 6 = .ok (.aload_n 0, 1) := by decide +kernel
theorem dX10_rule_7 : decode cX10_rule 7 = .ok (.getfield 39, 3) := by decide +kernel
theorem dX10_rule_10 : decode cX10_rule 10 = .ok (.getfield 135, 3) := by decide +kernel
theorem dX10_rule_13 : decode cX10_rule 13 = .ok (.getfield 141, 3) := by decide +kernel
theorem dX10_rule_16 : decode cX10_rule 16 = .ok (.ireturn, 1) := by decide +kernel
theorem dX10_rule_17 : decode cX10_rule 17 = .ok (.aload_n 0, 1) := by decide +kernel
theorem dX10_rule_18 : decode cX10_rule 18 = .ok (.getfield 108, 3) := by decide +kernel
theorem dX10_rule_21 : decode cX10_rule 21 = .ok (.ifCond .ne 6, 3) := by decide +kernel
theorem dX10_rule_24 : decode cX10_rule 24 = .ok (.ldc 144, 2) := by decide +kernel
theorem dX10_rule_26 : decode cX10_rule 26 = .ok (.ireturn, 1) := by decide +kernel
theorem dX10_rule_27 : decode cX10_rule 27 = .ok (.iload_n 1, 1) := by decide +kernel
theorem dX10_rule_28 : decode cX10_rule 28 = .ok (.tableswitch 174 0 11 #[64, 72, 80, 88, 96, 104, 112, 128, 143, 158, 174, 166], 64) := by decide +kernel
theorem dX10_rule_92 : decode cX10_rule 92 = .ok (.aload_n 0, 1) := by decide +kernel
theorem dX10_rule_93 : decode cX10_rule 93 = .ok (.getfield 23, 3) := by decide +kernel
theorem dX10_rule_96 : decode cX10_rule 96 = .ok (.getfield 145, 3) := by decide +kernel
theorem dX10_rule_99 : decode cX10_rule 99 = .ok (.ireturn, 1) := by decide +kernel
theorem dX10_rule_100 : decode cX10_rule 100 = .ok (.aload_n 0, 1) := by decide +kernel
theorem dX10_rule_101 : decode cX10_rule 101 = .ok (.getfield 23, 3) := by decide +kernel
theorem dX10_rule_104 : decode cX10_rule 104 = .ok (.getfield 132, 3) := by decide +kernel
theorem dX10_rule_107 : decode cX10_rule 107 = .ok (.ireturn, 1) := by decide +kernel
theorem dX10_rule_108 : decode cX10_rule 108 = .ok (.aload_n 0, 1) := by decide +kernel
theorem dX10_rule_109 : decode cX10_rule 109 = .ok (.getfield 23, 3) := by decide +kernel
theorem dX10_rule_112 : decode cX10_rule 112 = .ok (.getfield 148, 3) := by decide +kernel
theorem dX10_rule_115 : decode cX10_rule 115 = .ok (.ireturn, 1) := by decide +kernel
theorem dX10_rule_116 : decode cX10_rule 116 = .ok (.aload_n 0, 1) := by decide +kernel
theorem dX10_rule_117 : decode cX10_rule 117 = .ok (.getfield 23, 3) := by decide +kernel
theorem dX10_rule_120 : decode cX10_rule 120 = .ok (.getfield 151, 3) := by decide +kernel
theorem dX10_rule_123 : decode cX10_rule 123 = .ok (.ireturn, 1) := by decide +kernel
theorem dX10_rule_124 : decode cX10_rule 124 = .ok (.aload_n 0, 1) := by decide +kernel
theorem dX10_rule_125 : decode cX10_rule 125 = .ok (.getfield 60, 3) := by decide +kernel
theorem dX10_rule_128 : decode cX10_rule 128 = .ok (.getfield 154, 3) := by decide +kernel
theorem dX10_rule_131 : decode cX10_rule 131 = .ok (.ireturn, 1) := by decide +kernel
theorem dX10_rule_132 : decode cX10_rule 132 = .ok (.aload_n 0, 1) := by decide +kernel
theorem dX10_rule_133 : decode cX10_rule 133 = .ok (.getfield 60, 3) := by decide +kernel
theorem dX10_rule_136 : decode cX10_rule 136 = .ok (.getfield 155, 3) := by decide +kernel
theorem dX10_rule_139 : decode cX10_rule 139 = .ok (.ireturn, 1) := by decide +kernel
theorem dX10_rule_140 : decode cX10_rule 140 = .ok (.aload_n 0, 1) := by decide +kernel
theorem dX10_rule_141 : decode cX10_rule 141 = .ok (.getfield 23, 3) := by decide +kernel
theorem dX10_rule_144 : decode cX10_rule 144 = .ok (.getfield 156, 3) := by decide +kernel
theorem dX10_rule_147 : decode cX10_rule 147 = .ok (.ifCond .eq 7, 3) := by decide +kernel
theorem dX10_rule_150 : decode cX10_rule 150 = .ok (.iconst 1, 1) := by decide +kernel
theorem dX10_rule_151 : decode cX10_rule 151 = .ok (.goto 4, 3) := by decide +kernel
theorem dX10_rule_154 : decode cX10_rule 154 = .ok (.iconst 0, 1) := by decide +kernel
theorem dX10_rule_155 : decode cX10_rule 155 = .ok (.ireturn, 1) := by decide +kernel
theorem dX10_rule_156 : decode cX10_rule 156 = .ok (.aload_n 0, 1) := by decide +kernel
theorem dX10_rule_157 : decode cX10_rule 157 = .ok (.getfield 23, 3) := by decide +kernel
theorem dX10_rule_160 : decode cX10_rule 160 = .ok (.aload_n 0, 1) := by decide +kernel
theorem dX10_rule_161 : decode cX10_rule 161 = .ok (.getfield 60, 3) := by decide +kernel
theorem dX10_rule_164 : decode cX10_rule 164 = .ok (.getfield 159, 3) := by decide +kernel
theorem dX10_rule_167 : decode cX10_rule 167 = .ok (.invokevirtual 162, 3) := by decide +kernel
theorem dX10_rule_170 : decode cX10_rule 170 = .ok (.ireturn, 1) := by decide +kernel
theorem dX10_rule_171 : decode cX10_rule 171 = .ok (.aload_n 0, 1) := by decide +kernel
theorem dX10_rule_172 : decode cX10_rule 172 = .ok (.getfield 23, 3) := by decide +kernel
theorem dX10_rule_175 : decode cX10_rule 175 = .ok (.aload_n 0, 1) := by decide +kernel
theorem dX10_rule_176 : decode cX10_rule 176 = .ok (.getfield 60, 3) := by decide +kernel
theorem dX10_rule_179 : decode cX10_rule 179 = .ok (.getfield 159, 3) := by decide +kernel
theorem dX10_rule_182 : decode cX10_rule 182 = .ok (.invokevirtual 166, 3) := by decide +kernel
theorem dX10_rule_185 : decode cX10_rule 185 = .ok (.ireturn, 1) := by decide +kernel
theorem dX10_rule_186 : decode cX10_rule 186 = .ok (.aload_n 0, 1) := by decide +kernel
theorem dX10_rule_187 : decode cX10_rule 187 = .ok (.getfield 23, 3) := by decide +kernel
theorem dX10_rule_190 : decode cX10_rule 190 = .ok (.invokevirtual 169, 3) := by decide +kernel
theorem dX10_rule_193 : decode cX10_rule 193 = .ok (.ireturn, 1) := by decide +kernel
theorem dX10_rule_194 : decode cX10_rule 194 = .ok (.aload_n 0, 1) := by decide +kernel
theorem dX10_rule_195 : decode cX10_rule 195 = .ok (.getfield 60, 3) := by decide +kernel
theorem dX10_rule_198 : decode cX10_rule 198 = .ok (.getfield 173, 3) := by decide +kernel
theorem dX10_rule_201 : decode cX10_rule 201 = .ok (.ireturn, 1) := by decide +kernel
theorem dX10_rule_202 : decode cX10_rule 202 = .ok (.ldc 144, 2) := by decide +kernel
theorem dX10_rule_204 : decode cX10_rule 204 = .ok (.ireturn, 1) := by decide +kernel
theorem dX10_ruled_0 : decode cX10_ruled 0 = .ok (.aload_n 0, 1) := by decide +kernel
theorem dX10_ruled_1 : decode cX10_ruled 1 = .ok (.iload_n 1, 1) := by decide +kernel
theorem dX10_ruled_2 : decode cX10_ruled 2 = .ok (.invokevirtual 217, 3) := by decide +kernel
theorem dX10_ruled_5 : decode cX10_ruled 5 = .ok (.ifCond .eq 12, 3) := by decide +kernel
theorem dX10_ruled_8 : decode cX10_ruled 8 = .ok (.iload_n 2, 1) := by decide +kernel
theorem dX10_ruled_9 : decode cX10_ruled 9 = .ok (.ifCond .lt 8, 3) := by decide +kernel
theorem dX10_ruled_12 : decode cX10_ruled 12 = .ok (.iload_n 2, 1) := by decide +kernel
theorem dX10_ruled_13 : decode cX10_ruled 13 = .ok (.iconst 3, 1) := by decide +kernel
theorem dX10_ruled_14 : decode cX10_ruled 14 = .ok (.if_icmp .le 5, 3) := by decide +kernel
theorem dX10_ruled_17 : decode cX10_ruled 17 = .ok (.iconst (-1), 1) := by decide +kernel
theorem dX10_ruled_18 : decode cX10_ruled 18 = .ok (.ireturn, 1) := by decide +kernel
theorem dX10_ruled_19 : decode cX10_ruled 19 = .ok (.iconst 0, 1) := by decide +kernel
theorem dX10_ruled_20 : decode cX10_ruled 20 = .ok (.istore_n 3, 1) := by decide +kernel
theorem dX10_ruled_21 : decode cX10_ruled 21 = .ok (.iconst 0, 1) := by decide +kernel
theorem dX10_ruled_22 : decode cX10_ruled 22 = .ok (.istore 4, 2) := by decide +kernel
theorem dX10_ruled_24 : decode cX10_ruled 24 = .ok (.iload 4, 2) := by decide +kernel
theorem dX10_ruled_26 : decode cX10_ruled 26 = .ok (.aload_n 0, 1) := by decide +kernel
theorem dX10_ruled_27 : decode cX10_ruled 27 = .ok (.invokevirtual 273, 3) := by decide +kernel
theorem dX10_ruled_30 : decode cX10_ruled 30 = .ok (.if_icmp .ge 33, 3) := by decide +kernel
theorem dX10_ruled_33 : decode cX10_ruled 33 = .ok (.aload_n 0, 1) := by decide +kernel
theorem dX10_ruled_34 : decode cX10_ruled 34 = .ok (.getfield 23, 3) := by decide +kernel
theorem dX10_ruled_37 : decode cX10_ruled 37 = .ok (.iload 4, 2) := by decide +kernel
theorem dX10_ruled_39 : decode cX10_ruled 39 = .ok (.invokevirtual 225, 3) := by decide +kernel
theorem dX10_ruled_42 : decode cX10_ruled 42 = .ok (.iload_n 1, 1) := by decide +kernel
theorem dX10_ruled_43 : decode cX10_ruled 43 = .ok (.if_icmp .ne 14, 3) := by decide +kernel
theorem dX10_ruled_46 : decode cX10_ruled 46 = .ok (.iload_n 3, 1) := by decide +kernel
theorem dX10_ruled_47 : decode cX10_ruled 47 = .ok (.aload_n 0, 1) := by decide +kernel
theorem dX10_ruled_48 : decode cX10_ruled 48 = .ok (.iload 4, 2) := by decide +kernel
theorem dX10_ruled_50 : decode cX10_ruled 50 = .ok (.iload_n 1, 1) := by decide +kernel
theorem dX10_ruled_51 : decode cX10_ruled 51 = .ok (.iload_n 2, 1) := by decide +kernel
theorem dX10_ruled_52 : decode cX10_ruled 52 = .ok (.invokevirtual 338, 3) := by decide +kernel
theorem dX10_ruled_55 : decode cX10_ruled 55 = .ok (.iadd, 1) := by decide +kernel
theorem dX10_ruled_56 : decode cX10_ruled 56 = .ok (.istore_n 3, 1) := by decide +kernel
theorem dX10_ruled_57 : decode cX10_ruled 57 = .ok (.iinc 4 1, 3) := by decide +kernel
theorem dX10_ruled_60 : decode cX10_ruled 60 = .ok (.goto (-36), 3) := by decide +kernel
theorem dX10_ruled_63 : decode cX10_ruled 63 = .ok (.iload_n 3, 1) := by decide +kernel
theorem dX10_ruled_64 : decode cX10_ruled 64 = .ok (.ireturn, 1) := by decide +kernel
theorem dX10_run_0 : decode cX10_run 0 = .ok (.aload_n 0, 1) := by decide +kernel
theorem dX10_run_1 : decode cX10_run 1 = .ok (.invokevirtual 183, 3) := by decide +kernel
theorem dX10_run_4 : decode cX10_run 4 = .ok (.istore_n 1, 1) := by decide +kernel
theorem dX10_run_5 : decode cX10_run 5 = .ok (.iload_n 1, 1) := by decide +kernel
theorem dX10_run_6 : decode cX10_run 6 = .ok (.iconst 1, 1) := by decide +kernel
theorem dX10_run_7 : decode cX10_run 7 = .ok (.if_icmp .ge 5, 3) := by decide +kernel
theorem dX10_run_10 : decode cX10_run 10 = .ok (.iconst (-1), 1) := by decide +kernel
theorem dX10_run_11 : decode cX10_run 11 = .ok (.ireturn, 1) := by decide +kernel
theorem dX10_run_12 : decode cX10_run 12 = .ok (.iconst 0, 1) := by decide +kernel
theorem dX10_run_13 : decode cX10_run 13 = .ok (.istore_n 2, 1) := by decide +kernel
theorem dX10_run_14 : decode cX10_run 14 = .ok (.iload_n 2, 1) := by decide +kernel
theorem dX10_run_15 : decode cX10_run 15 = .ok (.iload_n 1, 1) := by decide +kernel
theorem dX10_run_16 : decode cX10_run 16 = .ok (.if_icmp .ge 35, 3) := by decide +kernel
theorem dX10_run_19 : decode cX10_run 19 = .ok (.aload_n 0, 1) := by decide +kernel
theorem dX10_run_20 : decode cX10_run 20 = .ok (.getfield 73, 3) := by decide +kernel
theorem dX10_run_23 : decode cX10_run 23 = .ok (.aload_n 0, 1) := by decide +kernel
theorem dX10_run_24 : decode cX10_run 24 = .ok (.getfield 60, 3) := by decide +kernel
theorem dX10_run_27 : decode cX10_run 27 = .ok (.invokevirtual 186, 3) := by decide +kernel
theorem dX10_run_30 : decode cX10_run 30 = .ok (.aload_n 0, 1) := by decide +kernel
theorem dX10_run_31 : decode cX10_run 31 = .ok (.getfield 60, 3) := by decide +kernel
theorem dX10_run_34 : decode cX10_run 34 = .ok (.aload_n 0, 1) := by decide +kernel
theorem dX10_run_35 : decode cX10_run 35 = .ok (.getfield 23, 3) := by decide +kernel
theorem dX10_run_38 : decode cX10_run 38 = .ok (.aload_n 0, 1) := by decide +kernel
theorem dX10_run_39 : decode cX10_run 39 = .ok (.getfield 39, 3) := by decide +kernel
theorem dX10_run_42 : decode cX10_run 42 = .ok (.invokevirtual 190, 3) := by decide +kernel
theorem dX10_run_45 : decode cX10_run 45 = .ok (.iinc 2 1, 3) := by decide +kernel
theorem dX10_run_48 : decode cX10_run 48 = .ok (.goto (-34), 3) := by decide +kernel
theorem dX10_run_51 : decode cX10_run 51 = .ok (.iload_n 1, 1) := by decide +kernel
theorem dX10_run_52 : decode cX10_run 52 = .ok (.ireturn, 1) := by decide +kernel
theorem dX10_say_0 : decode cX10_say 0 = .ok (.aload_n 0, 1) := by decide +kernel
theorem dX10_say_1 : decode cX10_say 1 = .ok (.iload_n 1, 1) := by decide +kernel
theorem dX10_say_2 : decode cX10_say 2 = .ok (.iload_n 2, 1) := by decide +kernel
theorem dX10_say_3 : decode cX10_say 3 = .ok (.iload_n 3, 1) := by decide +kernel
theorem dX10_say_4 : decode cX10_say 4 = .ok (.iload 4, 2) := by decide +kernel
theorem dX10_say_6 : decode cX10_say 6 = .ok (.iload 5, 2) := by decide +kernel
theorem dX10_say_8 : decode cX10_say 8 = .ok (.invokevirtual 194, 3) := by decide +kernel
theorem dX10_say_11 : decode cX10_say 11 = .ok (.istore 6, 2) := by decide +kernel
theorem dX10_say_13 : decode cX10_say 13 = .ok (.iload 6, 2) := by decide +kernel
theorem dX10_say_15 : decode cX10_say 15 = .ok (.iconst (-1), 1) := by decide +kernel
theorem dX10_say_16 : decode cX10_say 16 = .ok (.if_icmp .eq 10, 3) := by decide +kernel
theorem dX10_say_19 : decode cX10_say 19 = .ok (.aload_n 0, 1) := by decide +kernel
theorem dX10_say_20 : decode cX10_say 20 = .ok (.iload 6, 2) := by decide +kernel
theorem dX10_say_22 : decode cX10_say 22 = .ok (.invokevirtual 198, 3) := by decide +kernel
theorem dX10_say_25 : decode cX10_say 25 = .ok (.ireturn, 1) := by decide +kernel
theorem dX10_say_26 : decode cX10_say 26 = .ok (.aload_n 0, 1) := by decide +kernel
theorem dX10_say_27 : decode cX10_say 27 = .ok (.getfield 73, 3) := by decide +kernel
theorem dX10_say_30 : decode cX10_say 30 = .ok (.aload_n 0, 1) := by decide +kernel
theorem dX10_say_31 : decode cX10_say 31 = .ok (.getfield 60, 3) := by decide +kernel
theorem dX10_say_34 : decode cX10_say 34 = .ok (.invokevirtual 186, 3) := by decide +kernel
theorem dX10_say_37 : decode cX10_say 37 = .ok (.aload_n 0, 1) := by decide +kernel
theorem dX10_say_38 : decode cX10_say 38 = .ok (.getfield 60, 3) := by decide +kernel
theorem dX10_say_41 : decode cX10_say 41 = .ok (.iload_n 1, 1) := by decide +kernel
theorem dX10_say_42 : decode cX10_say 42 = .ok (.iload_n 2, 1) := by decide +kernel
theorem dX10_say_43 : decode cX10_say 43 = .ok (.iload_n 3, 1) := by decide +kernel
theorem dX10_say_44 : decode cX10_say 44 = .ok (.iload 4, 2) := by decide +kernel
theorem dX10_say_46 : decode cX10_say 46 = .ok (.iload 5, 2) := by decide +kernel
theorem dX10_say_48 : decode cX10_say 48 = .ok (.invokevirtual 201, 3) := by decide +kernel
theorem dX10_say_51 : decode cX10_say 51 = .ok (.aload_n 0, 1) := by decide +kernel
theorem dX10_say_52 : decode cX10_say 52 = .ok (.getfield 60, 3) := by decide +kernel
theorem dX10_say_55 : decode cX10_say 55 = .ok (.getfield 173, 3) := by decide +kernel
theorem dX10_say_58 : decode cX10_say 58 = .ok (.ireturn, 1) := by decide +kernel
theorem dX10_shown_0 : decode cX10_shown 0 = .ok (.aload_n 0, 1) := by decide +kernel
theorem dX10_shown_1 : decode cX10_shown 1 = .ok (.iload_n 1, 1) := by decide +kernel
theorem dX10_shown_2 : decode cX10_shown 2 = .ok (.invokevirtual 241, 3) := by decide +kernel
theorem dX10_shown_5 : decode cX10_shown 5 = .ok (.ifCond .ne 5, 3) := by decide +kernel
theorem dX10_shown_8 : decode cX10_shown 8 = .ok (.iconst (-1), 1) := by decide +kernel
theorem dX10_shown_9 : decode cX10_shown 9 = .ok (.ireturn, 1) := by decide +kernel
theorem dX10_shown_10 : decode cX10_shown 10 = .ok (.aload_n 0, 1) := by decide +kernel
theorem dX10_shown_11 : decode cX10_shown 11 = .ok (.getfield 23, 3) := by decide +kernel
theorem dX10_shown_14 : decode cX10_shown 14 = .ok (.iload_n 1, 1) := by decide +kernel
theorem dX10_shown_15 : decode cX10_shown 15 = .ok (.invokevirtual 225, 3) := by decide +kernel
theorem dX10_shown_18 : decode cX10_shown 18 = .ok (.istore_n 3, 1) := by decide +kernel
theorem dX10_shown_19 : decode cX10_shown 19 = .ok (.aload_n 0, 1) := by decide +kernel
theorem dX10_shown_20 : decode cX10_shown 20 = .ok (.getfield 84, 3) := by decide +kernel
theorem dX10_shown_23 : decode cX10_shown 23 = .ok (.iconst 0, 1) := by decide +kernel
theorem dX10_shown_24 : decode cX10_shown 24 = .ok (.putfield 91, 3) := by decide +kernel
theorem dX10_shown_27 : decode cX10_shown 27 = .ok (.aload_n 0, 1) := by decide +kernel
theorem dX10_shown_28 : decode cX10_shown 28 = .ok (.getfield 84, 3) := by decide +kernel
theorem dX10_shown_31 : decode cX10_shown 31 = .ok (.ldc_w 354, 3) := by decide +kernel
theorem dX10_shown_34 : decode cX10_shown 34 = .ok (.iload_n 1, 1) := by decide +kernel
theorem dX10_shown_35 : decode cX10_shown 35 = .ok (.invokevirtual 356, 3) := by decide +kernel
theorem dX10_shown_38 : decode cX10_shown 38 = .ok (.aload_n 0, 1) := by decide +kernel
theorem dX10_shown_39 : decode cX10_shown 39 = .ok (.getfield 84, 3) := by decide +kernel
theorem dX10_shown_42 : decode cX10_shown 42 = .ok (.ldc_w 360, 3) := by decide +kernel
theorem dX10_shown_45 : decode cX10_shown 45 = .ok (.iload_n 3, 1) := by decide +kernel
theorem dX10_shown_46 : decode cX10_shown 46 = .ok (.invokevirtual 356, 3) := by decide +kernel
theorem dX10_shown_49 : decode cX10_shown 49 = .ok (.iconst 0, 1) := by decide +kernel
theorem dX10_shown_50 : decode cX10_shown 50 = .ok (.istore 4, 2) := by decide +kernel
theorem dX10_shown_52 : decode cX10_shown 52 = .ok (.iload 4, 2) := by decide +kernel
theorem dX10_shown_54 : decode cX10_shown 54 = .ok (.aload_n 0, 1) := by decide +kernel
theorem dX10_shown_55 : decode cX10_shown 55 = .ok (.getfield 23, 3) := by decide +kernel
theorem dX10_shown_58 : decode cX10_shown 58 = .ok (.getfield 132, 3) := by decide +kernel
theorem dX10_shown_61 : decode cX10_shown 61 = .ok (.if_icmp .ge 168, 3) := by decide +kernel
theorem dX10_shown_64 : decode cX10_shown 64 = .ok (.aload_n 0, 1) := by decide +kernel
theorem dX10_shown_65 : decode cX10_shown 65 = .ok (.getfield 84, 3) := by decide +kernel
theorem dX10_shown_68 : decode cX10_shown 68 = .ok (.aload_n 0, 1) := by decide +kernel
theorem dX10_shown_69 : decode cX10_shown 69 = .ok (.getfield 60, 3) := by decide +kernel
theorem dX10_shown_72 : decode cX10_shown 72 = .ok (.getfield 155, 3) := by decide +kernel
theorem dX10_shown_75 : decode cX10_shown 75 = .ok (.iload 4, 2) := by decide +kernel
theorem dX10_shown_77 : decode cX10_shown 77 = .ok (.invokestatic 235, 3) := by decide +kernel
theorem dX10_shown_80 : decode cX10_shown 80 = .ok (.iconst 1, 1) := by decide +kernel
theorem dX10_shown_81 : decode cX10_shown 81 = .ok (.if_icmp .ne 9, 3) := by decide +kernel
theorem dX10_shown_84 : decode cX10_shown 84 = .ok (.ldc_w 362, 3) := by decide +kernel
theorem dX10_shown_87 : decode cX10_shown 87 = .ok (.goto 6, 3) := by decide +kernel
theorem dX10_shown_90 : decode cX10_shown 90 = .ok (.ldc_w 364, 3) := by decide +kernel
theorem dX10_shown_93 : decode cX10_shown 93 = .ok (.iload 4, 2) := by decide +kernel
theorem dX10_shown_95 : decode cX10_shown 95 = .ok (.invokevirtual 356, 3) := by decide +kernel
theorem dX10_shown_98 : decode cX10_shown 98 = .ok (.aload_n 0, 1) := by decide +kernel
theorem dX10_shown_99 : decode cX10_shown 99 = .ok (.getfield 84, 3) := by decide +kernel
theorem dX10_shown_102 : decode cX10_shown 102 = .ok (.ldc_w 366, 3) := by decide +kernel
theorem dX10_shown_105 : decode cX10_shown 105 = .ok (.aload_n 0, 1) := by decide +kernel
theorem dX10_shown_106 : decode cX10_shown 106 = .ok (.getfield 60, 3) := by decide +kernel
theorem dX10_shown_109 : decode cX10_shown 109 = .ok (.getfield 244, 3) := by decide +kernel
theorem dX10_shown_112 : decode cX10_shown 112 = .ok (.iload_n 1, 1) := by decide +kernel
theorem dX10_shown_113 : decode cX10_shown 113 = .ok (.iaload, 1) := by decide +kernel
theorem dX10_shown_114 : decode cX10_shown 114 = .ok (.iload 4, 2) := by decide +kernel
theorem dX10_shown_116 : decode cX10_shown 116 = .ok (.invokestatic 235, 3) := by decide +kernel
theorem dX10_shown_119 : decode cX10_shown 119 = .ok (.invokevirtual 356, 3) := by decide +kernel
theorem dX10_shown_122 : decode cX10_shown 122 = .ok (.aload_n 0, 1) := by decide +kernel
theorem dX10_shown_123 : decode cX10_shown 123 = .ok (.getfield 84, 3) := by decide +kernel
theorem dX10_shown_126 : decode cX10_shown 126 = .ok (.aload_n 0, 1) := by decide +kernel
theorem dX10_shown_127 : decode cX10_shown 127 = .ok (.getfield 60, 3) := by decide +kernel
theorem dX10_shown_130 : decode cX10_shown 130 = .ok (.getfield 247, 3) := by decide +kernel
theorem dX10_shown_133 : decode cX10_shown 133 = .ok (.iload_n 1, 1) := by decide +kernel
theorem dX10_shown_134 : decode cX10_shown 134 = .ok (.iaload, 1) := by decide +kernel
theorem dX10_shown_135 : decode cX10_shown 135 = .ok (.iload 4, 2) := by decide +kernel
theorem dX10_shown_137 : decode cX10_shown 137 = .ok (.invokestatic 235, 3) := by decide +kernel
theorem dX10_shown_140 : decode cX10_shown 140 = .ok (.iconst 1, 1) := by decide +kernel
theorem dX10_shown_141 : decode cX10_shown 141 = .ok (.if_icmp .ne 9, 3) := by decide +kernel
theorem dX10_shown_144 : decode cX10_shown 144 = .ok (.ldc_w 368, 3) := by decide +kernel
theorem dX10_shown_147 : decode cX10_shown 147 = .ok (.goto 6, 3) := by decide +kernel
theorem dX10_shown_150 : decode cX10_shown 150 = .ok (.ldc_w 370, 3) := by decide +kernel
theorem dX10_shown_153 : decode cX10_shown 153 = .ok (.invokevirtual 372, 3) := by decide +kernel
theorem dX10_shown_156 : decode cX10_shown 156 = .ok (.aload_n 0, 1) := by decide +kernel
theorem dX10_shown_157 : decode cX10_shown 157 = .ok (.getfield 84, 3) := by decide +kernel
theorem dX10_shown_160 : decode cX10_shown 160 = .ok (.aload_n 0, 1) := by decide +kernel
theorem dX10_shown_161 : decode cX10_shown 161 = .ok (.getfield 60, 3) := by decide +kernel
theorem dX10_shown_164 : decode cX10_shown 164 = .ok (.getfield 266, 3) := by decide +kernel
theorem dX10_shown_167 : decode cX10_shown 167 = .ok (.iload_n 1, 1) := by decide +kernel
theorem dX10_shown_168 : decode cX10_shown 168 = .ok (.iaload, 1) := by decide +kernel
theorem dX10_shown_169 : decode cX10_shown 169 = .ok (.iload 4, 2) := by decide +kernel
theorem dX10_shown_171 : decode cX10_shown 171 = .ok (.invokestatic 235, 3) := by decide +kernel
theorem dX10_shown_174 : decode cX10_shown 174 = .ok (.iconst 1, 1) := by decide +kernel
theorem dX10_shown_175 : decode cX10_shown 175 = .ok (.if_icmp .ne 9, 3) := by decide +kernel
theorem dX10_shown_178 : decode cX10_shown 178 = .ok (.ldc_w 376, 3) := by decide +kernel
theorem dX10_shown_181 : decode cX10_shown 181 = .ok (.goto 6, 3) := by decide +kernel
theorem dX10_shown_184 : decode cX10_shown 184 = .ok (.ldc_w 370, 3) := by decide +kernel
theorem dX10_shown_187 : decode cX10_shown 187 = .ok (.invokevirtual 372, 3) := by decide +kernel
theorem dX10_shown_190 : decode cX10_shown 190 = .ok (.aload_n 0, 1) := by decide +kernel
theorem dX10_shown_191 : decode cX10_shown 191 = .ok (.getfield 84, 3) := by decide +kernel
theorem dX10_shown_194 : decode cX10_shown 194 = .ok (.aload_n 0, 1) := by decide +kernel
theorem dX10_shown_195 : decode cX10_shown 195 = .ok (.getfield 60, 3) := by decide +kernel
theorem dX10_shown_198 : decode cX10_shown 198 = .ok (.iload 4, 2) := by decide +kernel
theorem dX10_shown_200 : decode cX10_shown 200 = .ok (.invokevirtual 238, 3) := by decide +kernel
theorem dX10_shown_203 : decode cX10_shown 203 = .ok (.iload_n 3, 1) := by decide +kernel
theorem dX10_shown_204 : decode cX10_shown 204 = .ok (.invokestatic 235, 3) := by decide +kernel
theorem dX10_shown_207 : decode cX10_shown 207 = .ok (.iconst 1, 1) := by decide +kernel
theorem dX10_shown_208 : decode cX10_shown 208 = .ok (.if_icmp .ne 9, 3) := by decide +kernel
theorem dX10_shown_211 : decode cX10_shown 211 = .ok (.ldc_w 378, 3) := by decide +kernel
theorem dX10_shown_214 : decode cX10_shown 214 = .ok (.goto 6, 3) := by decide +kernel
theorem dX10_shown_217 : decode cX10_shown 217 = .ok (.ldc_w 370, 3) := by decide +kernel
theorem dX10_shown_220 : decode cX10_shown 220 = .ok (.invokevirtual 372, 3) := by decide +kernel
theorem dX10_shown_223 : decode cX10_shown 223 = .ok (.iinc 4 1, 3) := by decide +kernel
theorem dX10_shown_226 : decode cX10_shown 226 = .ok (.goto (-174), 3) := by decide +kernel
theorem dX10_shown_229 : decode cX10_shown 229 = .ok (.aload_n 0, 1) := by decide +kernel
theorem dX10_shown_230 : decode cX10_shown 230 = .ok (.iload_n 2, 1) := by decide +kernel
theorem dX10_shown_231 : decode cX10_shown 231 = .ok (.invokevirtual 332, 3) := by decide +kernel
theorem dX10_shown_234 : decode cX10_shown 234 = .ok (.ireturn, 1) := by decide +kernel
theorem dX10_starts_0 : decode cX10_starts 0 = .ok (.aload_n 0, 1) := by decide +kernel
theorem dX10_starts_1 : decode cX10_starts 1 = .ok (.iload_n 1, 1) := by decide +kernel
theorem dX10_starts_2 : decode cX10_starts 2 = .ok (.aload_n 0, 1) := by decide +kernel
theorem dX10_starts_3 : decode cX10_starts 3 = .ok (.getfield 23, 3) := by decide +kernel
theorem dX10_starts_6 : decode cX10_starts 6 = .ok (.invokevirtual 205, 3) := by decide +kernel
theorem dX10_starts_9 : decode cX10_starts 9 = .ok (.invokevirtual 208, 3) := by decide +kernel
theorem dX10_starts_12 : decode cX10_starts 12 = .ok (.istore_n 2, 1) := by decide +kernel
theorem dX10_starts_13 : decode cX10_starts 13 = .ok (.iload_n 2, 1) := by decide +kernel
theorem dX10_starts_14 : decode cX10_starts 14 = .ok (.iconst (-1), 1) := by decide +kernel
theorem dX10_starts_15 : decode cX10_starts 15 = .ok (.if_icmp .eq 9, 3) := by decide +kernel
theorem dX10_starts_18 : decode cX10_starts 18 = .ok (.aload_n 0, 1) := by decide +kernel
theorem dX10_starts_19 : decode cX10_starts 19 = .ok (.iload_n 2, 1) := by decide +kernel
theorem dX10_starts_20 : decode cX10_starts 20 = .ok (.invokevirtual 198, 3) := by decide +kernel
theorem dX10_starts_23 : decode cX10_starts 23 = .ok (.ireturn, 1) := by decide +kernel
theorem dX10_starts_24 : decode cX10_starts 24 = .ok (.aload_n 0, 1) := by decide +kernel
theorem dX10_starts_25 : decode cX10_starts 25 = .ok (.getfield 60, 3) := by decide +kernel
theorem dX10_starts_28 : decode cX10_starts 28 = .ok (.getfield 154, 3) := by decide +kernel
theorem dX10_starts_31 : decode cX10_starts 31 = .ok (.istore_n 3, 1) := by decide +kernel
theorem dX10_starts_32 : decode cX10_starts 32 = .ok (.aload_n 0, 1) := by decide +kernel
theorem dX10_starts_33 : decode cX10_starts 33 = .ok (.getfield 73, 3) := by decide +kernel
theorem dX10_starts_36 : decode cX10_starts 36 = .ok (.aload_n 0, 1) := by decide +kernel
theorem dX10_starts_37 : decode cX10_starts 37 = .ok (.getfield 60, 3) := by decide +kernel
theorem dX10_starts_40 : decode cX10_starts 40 = .ok (.invokevirtual 186, 3) := by decide +kernel
theorem dX10_starts_43 : decode cX10_starts 43 = .ok (.aload_n 0, 1) := by decide +kernel
theorem dX10_starts_44 : decode cX10_starts 44 = .ok (.getfield 60, 3) := by decide +kernel
theorem dX10_starts_47 : decode cX10_starts 47 = .ok (.iload_n 1, 1) := by decide +kernel
theorem dX10_starts_48 : decode cX10_starts 48 = .ok (.putfield 154, 3) := by decide +kernel
theorem dX10_starts_51 : decode cX10_starts 51 = .ok (.aload_n 0, 1) := by decide +kernel
theorem dX10_starts_52 : decode cX10_starts 52 = .ok (.getfield 60, 3) := by decide +kernel
theorem dX10_starts_55 : decode cX10_starts 55 = .ok (.iload_n 1, 1) := by decide +kernel
theorem dX10_starts_56 : decode cX10_starts 56 = .ok (.putfield 211, 3) := by decide +kernel
theorem dX10_starts_59 : decode cX10_starts 59 = .ok (.iload_n 3, 1) := by decide +kernel
theorem dX10_starts_60 : decode cX10_starts 60 = .ok (.ireturn, 1) := by decide +kernel
theorem dX10_state_0 : decode cX10_state 0 = .ok (.aload_n 0, 1) := by decide +kernel
theorem dX10_state_1 : decode cX10_state 1 = .ok (.getfield 108, 3) := by decide +kernel
theorem dX10_state_4 : decode cX10_state 4 = .ok (.ifCond .ne 5, 3) := by decide +kernel
theorem dX10_state_7 : decode cX10_state 7 = .ok (.iconst (-1), 1) := by decide +kernel
theorem dX10_state_8 : decode cX10_state 8 = .ok (.ireturn, 1) := by decide +kernel
theorem dX10_state_9 : decode cX10_state 9 = .ok (.aload_n 0, 1) := by decide +kernel
theorem dX10_state_10 : decode cX10_state 10 = .ok (.invokevirtual 273, 3) := by decide +kernel
theorem dX10_state_13 : decode cX10_state 13 = .ok (.istore_n 2, 1) := by decide +kernel
theorem dX10_state_14 : decode cX10_state 14 = .ok (.iload_n 2, 1) := by decide +kernel
theorem dX10_state_15 : decode cX10_state 15 = .ok (.ifCond .le 17, 3) := by decide +kernel
theorem dX10_state_18 : decode cX10_state 18 = .ok (.aload_n 0, 1) := by decide +kernel
theorem dX10_state_19 : decode cX10_state 19 = .ok (.getfield 60, 3) := by decide +kernel
theorem dX10_state_22 : decode cX10_state 22 = .ok (.getfield 244, 3) := by decide +kernel
theorem dX10_state_25 : decode cX10_state 25 = .ok (.iload_n 2, 1) := by decide +kernel
theorem dX10_state_26 : decode cX10_state 26 = .ok (.iconst 1, 1) := by decide +kernel
theorem dX10_state_27 : decode cX10_state 27 = .ok (.isub, 1) := by decide +kernel
theorem dX10_state_28 : decode cX10_state 28 = .ok (.iaload, 1) := by decide +kernel
theorem dX10_state_29 : decode cX10_state 29 = .ok (.goto 10, 3) := by decide +kernel
theorem dX10_state_32 : decode cX10_state 32 = .ok (.aload_n 0, 1) := by decide +kernel
theorem dX10_state_33 : decode cX10_state 33 = .ok (.getfield 60, 3) := by decide +kernel
theorem dX10_state_36 : decode cX10_state 36 = .ok (.getfield 154, 3) := by decide +kernel
theorem dX10_state_39 : decode cX10_state 39 = .ok (.istore_n 3, 1) := by decide +kernel
theorem dX10_state_40 : decode cX10_state 40 = .ok (.iload_n 1, 1) := by decide +kernel
theorem dX10_state_41 : decode cX10_state 41 = .ok (.tableswitch 125 0 3 #[31, 52, 69, 98], 31) := by decide +kernel
theorem dX10_state_72 : decode cX10_state 72 = .ok (.aload_n 0, 1) := by decide +kernel
theorem dX10_state_73 : decode cX10_state 73 = .ok (.getfield 60, 3) := by decide +kernel
theorem dX10_state_76 : decode cX10_state 76 = .ok (.aload_n 0, 1) := by decide +kernel
theorem dX10_state_77 : decode cX10_state 77 = .ok (.getfield 23, 3) := by decide +kernel
theorem dX10_state_80 : decode cX10_state 80 = .ok (.iload_n 3, 1) := by decide +kernel
theorem dX10_state_81 : decode cX10_state 81 = .ok (.invokevirtual 276, 3) := by decide +kernel
theorem dX10_state_84 : decode cX10_state 84 = .ok (.ifCond .eq 7, 3) := by decide +kernel
theorem dX10_state_87 : decode cX10_state 87 = .ok (.iconst 1, 1) := by decide +kernel
theorem dX10_state_88 : decode cX10_state 88 = .ok (.goto 4, 3) := by decide +kernel
theorem dX10_state_91 : decode cX10_state 91 = .ok (.iconst 0, 1) := by decide +kernel
theorem dX10_state_92 : decode cX10_state 92 = .ok (.ireturn, 1) := by decide +kernel
theorem dX10_state_93 : decode cX10_state 93 = .ok (.iload_n 3, 1) := by decide +kernel
theorem dX10_state_94 : decode cX10_state 94 = .ok (.aload_n 0, 1) := by decide +kernel
theorem dX10_state_95 : decode cX10_state 95 = .ok (.getfield 60, 3) := by decide +kernel
theorem dX10_state_98 : decode cX10_state 98 = .ok (.aload_n 0, 1) := by decide +kernel
theorem dX10_state_99 : decode cX10_state 99 = .ok (.getfield 23, 3) := by decide +kernel
theorem dX10_state_102 : decode cX10_state 102 = .ok (.invokevirtual 280, 3) := by decide +kernel
theorem dX10_state_105 : decode cX10_state 105 = .ok (.iand, 1) := by decide +kernel
theorem dX10_state_106 : decode cX10_state 106 = .ok (.invokestatic 283, 3) := by decide +kernel
theorem dX10_state_109 : decode cX10_state 109 = .ok (.ireturn, 1) := by decide +kernel
theorem dX10_state_110 : decode cX10_state 110 = .ok (.aload_n 0, 1) := by decide +kernel
theorem dX10_state_111 : decode cX10_state 111 = .ok (.getfield 60, 3) := by decide +kernel
theorem dX10_state_114 : decode cX10_state 114 = .ok (.aload_n 0, 1) := by decide +kernel
theorem dX10_state_115 : decode cX10_state 115 = .ok (.getfield 23, 3) := by decide +kernel
theorem dX10_state_118 : decode cX10_state 118 = .ok (.iload_n 3, 1) := by decide +kernel
theorem dX10_state_119 : decode cX10_state 119 = .ok (.invokevirtual 276, 3) := by decide +kernel
theorem dX10_state_122 : decode cX10_state 122 = .ok (.ifCond .eq 15, 3) := by decide +kernel
theorem dX10_state_125 : decode cX10_state 125 = .ok (.aload_n 0, 1) := by decide +kernel
theorem dX10_state_126 : decode cX10_state 126 = .ok (.iload_n 3, 1) := by decide +kernel
theorem dX10_state_127 : decode cX10_state 127 = .ok (.invokevirtual 288, 3) := by decide +kernel
theorem dX10_state_130 : decode cX10_state 130 = .ok (.ifCond .eq 7, 3) := by decide +kernel
theorem dX10_state_133 : decode cX10_state 133 = .ok (.iconst 1, 1) := by decide +kernel
theorem dX10_state_134 : decode cX10_state 134 = .ok (.goto 4, 3) := by decide +kernel
theorem dX10_state_137 : decode cX10_state 137 = .ok (.iconst 0, 1) := by decide +kernel
theorem dX10_state_138 : decode cX10_state 138 = .ok (.ireturn, 1) := by decide +kernel
theorem dX10_state_139 : decode cX10_state 139 = .ok (.aload_n 0, 1) := by decide +kernel
theorem dX10_state_140 : decode cX10_state 140 = .ok (.getfield 60, 3) := by decide +kernel
theorem dX10_state_143 : decode cX10_state 143 = .ok (.aload_n 0, 1) := by decide +kernel
theorem dX10_state_144 : decode cX10_state 144 = .ok (.getfield 23, 3) := by decide +kernel
theorem dX10_state_147 : decode cX10_state 147 = .ok (.aload_n 0, 1) := by decide +kernel
theorem dX10_state_148 : decode cX10_state 148 = .ok (.getfield 60, 3) := by decide +kernel
theorem dX10_state_151 : decode cX10_state 151 = .ok (.getfield 154, 3) := by decide +kernel
theorem dX10_state_154 : decode cX10_state 154 = .ok (.invokevirtual 276, 3) := by decide +kernel
theorem dX10_state_157 : decode cX10_state 157 = .ok (.ifCond .eq 7, 3) := by decide +kernel
theorem dX10_state_160 : decode cX10_state 160 = .ok (.iconst 1, 1) := by decide +kernel
theorem dX10_state_161 : decode cX10_state 161 = .ok (.goto 4, 3) := by decide +kernel
theorem dX10_state_164 : decode cX10_state 164 = .ok (.iconst 0, 1) := by decide +kernel
theorem dX10_state_165 : decode cX10_state 165 = .ok (.ireturn, 1) := by decide +kernel
theorem dX10_state_166 : decode cX10_state 166 = .ok (.iconst (-1), 1) := by decide +kernel
theorem dX10_state_167 : decode cX10_state 167 = .ok (.ireturn, 1) := by decide +kernel
theorem dX10_status_0 : decode cX10_status 0 = .ok (.iload_n 1, 1) := by decide +kernel
theorem dX10_status_1 : decode cX10_status 1 = .ok (.ifCond .lt 12, 3) := by decide +kernel
theorem dX10_status_4 : decode cX10_status 4 = .ok (.iload_n 1, 1) := by decide +kernel
theorem dX10_status_5 : decode cX10_status 5 = .ok (.aload_n 0, 1) := by decide +kernel
theorem dX10_status_6 : decode cX10_status 6 = .ok (.getfield 87, 3) := by decide +kernel
theorem dX10_status_9 : decode cX10_status 9 = .ok (.arraylength, 1) := by decide +kernel
theorem dX10_status_10 : decode cX10_status 10 = .ok (.if_icmp .lt 7, 3) := by decide +kernel
theorem dX10_status_13 : decode cX10_status 13 = .ok (.iconst (-1), 1) := by decide +kernel
theorem dX10_status_14 : decode cX10_status 14 = .ok (.goto 9, 3) := by decide +kernel
theorem dX10_status_17 : decode cX10_status 17 = .ok (.aload_n 0, 1) := by decide +kernel
theorem dX10_status_18 : decode cX10_status 18 = .ok (.getfield 87, 3) := by decide +kernel
theorem dX10_status_21 : decode cX10_status 21 = .ok (.iload_n 1, 1) := by decide +kernel
theorem dX10_status_22 : decode cX10_status 22 = .ok (.iaload, 1) := by decide +kernel
theorem dX10_status_23 : decode cX10_status 23 = .ok (.ireturn, 1) := by decide +kernel
theorem dX10_told_0 : decode cX10_told 0 = .ok (.aload_n 0, 1) := by decide +kernel
theorem dX10_told_1 : decode cX10_told 1 = .ok (.iload_n 1, 1) := by decide +kernel
theorem dX10_told_2 : decode cX10_told 2 = .ok (.invokevirtual 217, 3) := by decide +kernel
theorem dX10_told_5 : decode cX10_told 5 = .ok (.ifCond .eq 11, 3) := by decide +kernel
theorem dX10_told_8 : decode cX10_told 8 = .ok (.aload_n 0, 1) := by decide +kernel
theorem dX10_told_9 : decode cX10_told 9 = .ok (.iload_n 2, 1) := by decide +kernel
theorem dX10_told_10 : decode cX10_told 10 = .ok (.invokevirtual 241, 3) := by decide +kernel
theorem dX10_told_13 : decode cX10_told 13 = .ok (.ifCond .ne 5, 3) := by decide +kernel
theorem dX10_told_16 : decode cX10_told 16 = .ok (.iconst (-1), 1) := by decide +kernel
theorem dX10_told_17 : decode cX10_told 17 = .ok (.ireturn, 1) := by decide +kernel
theorem dX10_told_18 : decode cX10_told 18 = .ok (.aload_n 0, 1) := by decide +kernel
theorem dX10_told_19 : decode cX10_told 19 = .ok (.getfield 23, 3) := by decide +kernel
theorem dX10_told_22 : decode cX10_told 22 = .ok (.getfield 145, 3) := by decide +kernel
theorem dX10_told_25 : decode cX10_told 25 = .ok (.iconst 1, 1) := by decide +kernel
theorem dX10_told_26 : decode cX10_told 26 = .ok (.if_icmp .ne 7, 3) := by decide +kernel
theorem dX10_told_29 : decode cX10_told 29 = .ok (.iconst 1, 1) := by decide +kernel
theorem dX10_told_30 : decode cX10_told 30 = .ok (.goto 4, 3) := by decide +kernel
theorem dX10_told_33 : decode cX10_told 33 = .ok (.iconst 0, 1) := by decide +kernel
theorem dX10_told_34 : decode cX10_told 34 = .ok (.istore 4, 2) := by decide +kernel
theorem dX10_told_36 : decode cX10_told 36 = .ok (.iload_n 3, 1) := by decide +kernel
theorem dX10_told_37 : decode cX10_told 37 = .ok (.tableswitch 173 0 7 #[47, 61, 75, 90, 101, 115, 139, 159], 47) := by decide +kernel
theorem dX10_told_84 : decode cX10_told 84 = .ok (.aload_n 0, 1) := by decide +kernel
theorem dX10_told_85 : decode cX10_told 85 = .ok (.getfield 60, 3) := by decide +kernel
theorem dX10_told_88 : decode cX10_told 88 = .ok (.getfield 244, 3) := by decide +kernel
theorem dX10_told_91 : decode cX10_told 91 = .ok (.iload_n 2, 1) := by decide +kernel
theorem dX10_told_92 : decode cX10_told 92 = .ok (.iaload, 1) := by decide +kernel
theorem dX10_told_93 : decode cX10_told 93 = .ok (.iload_n 1, 1) := by decide +kernel
theorem dX10_told_94 : decode cX10_told 94 = .ok (.invokestatic 235, 3) := by decide +kernel
theorem dX10_told_97 : decode cX10_told 97 = .ok (.ireturn, 1) := by decide +kernel
theorem dX10_told_98 : decode cX10_told 98 = .ok (.aload_n 0, 1) := by decide +kernel
theorem dX10_told_99 : decode cX10_told 99 = .ok (.getfield 60, 3) := by decide +kernel
theorem dX10_told_102 : decode cX10_told 102 = .ok (.getfield 247, 3) := by decide +kernel
theorem dX10_told_105 : decode cX10_told 105 = .ok (.iload_n 2, 1) := by decide +kernel
theorem dX10_told_106 : decode cX10_told 106 = .ok (.iaload, 1) := by decide +kernel
theorem dX10_told_107 : decode cX10_told 107 = .ok (.iload_n 1, 1) := by decide +kernel
theorem dX10_told_108 : decode cX10_told 108 = .ok (.invokestatic 235, 3) := by decide +kernel
theorem dX10_told_111 : decode cX10_told 111 = .ok (.ireturn, 1) := by decide +kernel
theorem dX10_told_112 : decode cX10_told 112 = .ok (.aload_n 0, 1) := by decide +kernel
theorem dX10_told_113 : decode cX10_told 113 = .ok (.getfield 60, 3) := by decide +kernel
theorem dX10_told_116 : decode cX10_told 116 = .ok (.aload_n 0, 1) := by decide +kernel
theorem dX10_told_117 : decode cX10_told 117 = .ok (.getfield 23, 3) := by decide +kernel
theorem dX10_told_120 : decode cX10_told 120 = .ok (.iload_n 2, 1) := by decide +kernel
theorem dX10_told_121 : decode cX10_told 121 = .ok (.iconst 0, 1) := by decide +kernel
theorem dX10_told_122 : decode cX10_told 122 = .ok (.iload_n 1, 1) := by decide +kernel
theorem dX10_told_123 : decode cX10_told 123 = .ok (.invokevirtual 250, 3) := by decide +kernel
theorem dX10_told_126 : decode cX10_told 126 = .ok (.ireturn, 1) := by decide +kernel
theorem dX10_told_127 : decode cX10_told 127 = .ok (.aload_n 0, 1) := by decide +kernel
theorem dX10_told_128 : decode cX10_told 128 = .ok (.getfield 60, 3) := by decide +kernel
theorem dX10_told_131 : decode cX10_told 131 = .ok (.iload_n 2, 1) := by decide +kernel
theorem dX10_told_132 : decode cX10_told 132 = .ok (.iconst 0, 1) := by decide +kernel
theorem dX10_told_133 : decode cX10_told 133 = .ok (.iload_n 1, 1) := by decide +kernel
theorem dX10_told_134 : decode cX10_told 134 = .ok (.invokevirtual 254, 3) := by decide +kernel
theorem dX10_told_137 : decode cX10_told 137 = .ok (.ireturn, 1) := by decide +kernel
theorem dX10_told_138 : decode cX10_told 138 = .ok (.aload_n 0, 1) := by decide +kernel
theorem dX10_told_139 : decode cX10_told 139 = .ok (.getfield 60, 3) := by decide +kernel
theorem dX10_told_142 : decode cX10_told 142 = .ok (.getfield 258, 3) := by decide +kernel
theorem dX10_told_145 : decode cX10_told 145 = .ok (.iload_n 2, 1) := by decide +kernel
theorem dX10_told_146 : decode cX10_told 146 = .ok (.laload, 1) := by decide +kernel
theorem dX10_told_147 : decode cX10_told 147 = .ok (.iload_n 1, 1) := by decide +kernel
theorem dX10_told_148 : decode cX10_told 148 = .ok (.invokestatic 262, 3) := by decide +kernel
theorem dX10_told_151 : decode cX10_told 151 = .ok (.ireturn, 1) := by decide +kernel
theorem dX10_told_152 : decode cX10_told 152 = .ok (.iload 4, 2) := by decide +kernel
theorem dX10_told_154 : decode cX10_told 154 = .ok (.ifCond .eq 7, 3) := by decide +kernel
theorem dX10_told_157 : decode cX10_told 157 = .ok (.iconst (-1), 1) := by decide +kernel
theorem dX10_told_158 : decode cX10_told 158 = .ok (.goto 17, 3) := by decide +kernel
theorem dX10_told_161 : decode cX10_told 161 = .ok (.aload_n 0, 1) := by decide +kernel
theorem dX10_told_162 : decode cX10_told 162 = .ok (.getfield 60, 3) := by decide +kernel
theorem dX10_told_165 : decode cX10_told 165 = .ok (.aload_n 0, 1) := by decide +kernel
theorem dX10_told_166 : decode cX10_told 166 = .ok (.getfield 23, 3) := by decide +kernel
theorem dX10_told_169 : decode cX10_told 169 = .ok (.iload_n 2, 1) := by decide +kernel
theorem dX10_told_170 : decode cX10_told 170 = .ok (.iconst 1, 1) := by decide +kernel
theorem dX10_told_171 : decode cX10_told 171 = .ok (.iload_n 1, 1) := by decide +kernel
theorem dX10_told_172 : decode cX10_told 172 = .ok (.invokevirtual 250, 3) := by decide +kernel
theorem dX10_told_175 : decode cX10_told 175 = .ok (.ireturn, 1) := by decide +kernel
theorem dX10_told_176 : decode cX10_told 176 = .ok (.iload 4, 2) := by decide +kernel
theorem dX10_told_178 : decode cX10_told 178 = .ok (.ifCond .eq 7, 3) := by decide +kernel
theorem dX10_told_181 : decode cX10_told 181 = .ok (.iconst (-1), 1) := by decide +kernel
theorem dX10_told_182 : decode cX10_told 182 = .ok (.goto 13, 3) := by decide +kernel
theorem dX10_told_185 : decode cX10_told 185 = .ok (.aload_n 0, 1) := by decide +kernel
theorem dX10_told_186 : decode cX10_told 186 = .ok (.getfield 60, 3) := by decide +kernel
theorem dX10_told_189 : decode cX10_told 189 = .ok (.iload_n 2, 1) := by decide +kernel
theorem dX10_told_190 : decode cX10_told 190 = .ok (.iconst 1, 1) := by decide +kernel
theorem dX10_told_191 : decode cX10_told 191 = .ok (.iload_n 1, 1) := by decide +kernel
theorem dX10_told_192 : decode cX10_told 192 = .ok (.invokevirtual 254, 3) := by decide +kernel
theorem dX10_told_195 : decode cX10_told 195 = .ok (.ireturn, 1) := by decide +kernel
theorem dX10_told_196 : decode cX10_told 196 = .ok (.aload_n 0, 1) := by decide +kernel
theorem dX10_told_197 : decode cX10_told 197 = .ok (.getfield 60, 3) := by decide +kernel
theorem dX10_told_200 : decode cX10_told 200 = .ok (.getfield 266, 3) := by decide +kernel
theorem dX10_told_203 : decode cX10_told 203 = .ok (.iload_n 2, 1) := by decide +kernel
theorem dX10_told_204 : decode cX10_told 204 = .ok (.iaload, 1) := by decide +kernel
theorem dX10_told_205 : decode cX10_told 205 = .ok (.iload_n 1, 1) := by decide +kernel
theorem dX10_told_206 : decode cX10_told 206 = .ok (.invokestatic 235, 3) := by decide +kernel
theorem dX10_told_209 : decode cX10_told 209 = .ok (.ireturn, 1) := by decide +kernel
theorem dX10_told_210 : decode cX10_told 210 = .ok (.iconst (-1), 1) := by decide +kernel
theorem dX10_told_211 : decode cX10_told 211 = .ok (.ireturn, 1) := by decide +kernel
theorem dX10_trueRuler_0 : decode cX10_trueRuler 0 = .ok (.iconst 0, 1) := by decide +kernel
theorem dX10_trueRuler_1 : decode cX10_trueRuler 1 = .ok (.istore_n 1, 1) := by decide +kernel
theorem dX10_trueRuler_2 : decode cX10_trueRuler 2 = .ok (.aload_n 0, 1) := by decide +kernel
theorem dX10_trueRuler_3 : decode cX10_trueRuler 3 = .ok (.getfield 108, 3) := by decide +kernel
theorem dX10_trueRuler_6 : decode cX10_trueRuler 6 = .ok (.ifCond .eq 43, 3) := by decide +kernel
theorem dX10_trueRuler_9 : decode cX10_trueRuler 9 = .ok (.iload_n 1, 1) := by decide +kernel
theorem dX10_trueRuler_10 : decode cX10_trueRuler 10 = .ok (.aload_n 0, 1) := by decide +kernel
theorem dX10_trueRuler_11 : decode cX10_trueRuler 11 = .ok (.getfield 23, 3) := by decide +kernel
theorem dX10_trueRuler_14 : decode cX10_trueRuler 14 = .ok (.getfield 151, 3) := by decide +kernel
theorem dX10_trueRuler_17 : decode cX10_trueRuler 17 = .ok (.if_icmp .ge 32, 3) := by decide +kernel
theorem dX10_trueRuler_20 : decode cX10_trueRuler 20 = .ok (.aload_n 0, 1) := by decide +kernel
theorem dX10_trueRuler_21 : decode cX10_trueRuler 21 = .ok (.getfield 60, 3) := by decide +kernel
theorem dX10_trueRuler_24 : decode cX10_trueRuler 24 = .ok (.getfield 155, 3) := by decide +kernel
theorem dX10_trueRuler_27 : decode cX10_trueRuler 27 = .ok (.aload_n 0, 1) := by decide +kernel
theorem dX10_trueRuler_28 : decode cX10_trueRuler 28 = .ok (.getfield 23, 3) := by decide +kernel
theorem dX10_trueRuler_31 : decode cX10_trueRuler 31 = .ok (.iload_n 1, 1) := by decide +kernel
theorem dX10_trueRuler_32 : decode cX10_trueRuler 32 = .ok (.invokevirtual 225, 3) := by decide +kernel
theorem dX10_trueRuler_35 : decode cX10_trueRuler 35 = .ok (.invokestatic 235, 3) := by decide +kernel
theorem dX10_trueRuler_38 : decode cX10_trueRuler 38 = .ok (.ifCond .ne 5, 3) := by decide +kernel
theorem dX10_trueRuler_41 : decode cX10_trueRuler 41 = .ok (.iload_n 1, 1) := by decide +kernel
theorem dX10_trueRuler_42 : decode cX10_trueRuler 42 = .ok (.ireturn, 1) := by decide +kernel
theorem dX10_trueRuler_43 : decode cX10_trueRuler 43 = .ok (.iinc 1 1, 3) := by decide +kernel
theorem dX10_trueRuler_46 : decode cX10_trueRuler 46 = .ok (.goto (-44), 3) := by decide +kernel
theorem dX10_trueRuler_49 : decode cX10_trueRuler 49 = .ok (.iconst (-1), 1) := by decide +kernel
theorem dX10_trueRuler_50 : decode cX10_trueRuler 50 = .ok (.ireturn, 1) := by decide +kernel
theorem dX10_undo_0 : decode cX10_undo 0 = .ok (.aload_n 0, 1) := by decide +kernel
theorem dX10_undo_1 : decode cX10_undo 1 = .ok (.getfield 73, 3) := by decide +kernel
theorem dX10_undo_4 : decode cX10_undo 4 = .ok (.aload_n 0, 1) := by decide +kernel
theorem dX10_undo_5 : decode cX10_undo 5 = .ok (.getfield 60, 3) := by decide +kernel
theorem dX10_undo_8 : decode cX10_undo 8 = .ok (.invokevirtual 380, 3) := by decide +kernel
theorem dX10_undo_11 : decode cX10_undo 11 = .ok (.ifCond .eq 13, 3) := by decide +kernel
theorem dX10_undo_14 : decode cX10_undo 14 = .ok (.aload_n 0, 1) := by decide +kernel
theorem dX10_undo_15 : decode cX10_undo 15 = .ok (.getfield 73, 3) := by decide +kernel
theorem dX10_undo_18 : decode cX10_undo 18 = .ok (.getfield 119, 3) := by decide +kernel
theorem dX10_undo_21 : decode cX10_undo 21 = .ok (.goto 4, 3) := by decide +kernel
theorem dX10_undo_24 : decode cX10_undo 24 = .ok (.iconst (-1), 1) := by decide +kernel
theorem dX10_undo_25 : decode cX10_undo 25 = .ok (.ireturn, 1) := by decide +kernel
theorem dX10_weakest_0 : decode cX10_weakest 0 = .ok (.aload_n 0, 1) := by decide +kernel
theorem dX10_weakest_1 : decode cX10_weakest 1 = .ok (.getfield 108, 3) := by decide +kernel
theorem dX10_weakest_4 : decode cX10_weakest 4 = .ok (.ifCond .ne 6, 3) := by decide +kernel
theorem dX10_weakest_7 : decode cX10_weakest 7 = .ok (.bipush (-2), 2) := by decide +kernel
theorem dX10_weakest_9 : decode cX10_weakest 9 = .ok (.ireturn, 1) := by decide +kernel
theorem dX10_weakest_10 : decode cX10_weakest 10 = .ok (.iconst (-1), 1) := by decide +kernel
theorem dX10_weakest_11 : decode cX10_weakest 11 = .ok (.istore_n 1, 1) := by decide +kernel
theorem dX10_weakest_12 : decode cX10_weakest 12 = .ok (.aload_n 0, 1) := by decide +kernel
theorem dX10_weakest_13 : decode cX10_weakest 13 = .ok (.getfield 23, 3) := by decide +kernel
theorem dX10_weakest_16 : decode cX10_weakest 16 = .ok (.getfield 132, 3) := by decide +kernel
theorem dX10_weakest_19 : decode cX10_weakest 19 = .ok (.iconst 1, 1) := by decide +kernel
theorem dX10_weakest_20 : decode cX10_weakest 20 = .ok (.isub, 1) := by decide +kernel
theorem dX10_weakest_21 : decode cX10_weakest 21 = .ok (.istore_n 2, 1) := by decide +kernel
theorem dX10_weakest_22 : decode cX10_weakest 22 = .ok (.iload_n 2, 1) := by decide +kernel
theorem dX10_weakest_23 : decode cX10_weakest 23 = .ok (.ifCond .lt 99, 3) := by decide +kernel
theorem dX10_weakest_26 : decode cX10_weakest 26 = .ok (.aload_n 0, 1) := by decide +kernel
theorem dX10_weakest_27 : decode cX10_weakest 27 = .ok (.getfield 60, 3) := by decide +kernel
theorem dX10_weakest_30 : decode cX10_weakest 30 = .ok (.getfield 155, 3) := by decide +kernel
theorem dX10_weakest_33 : decode cX10_weakest 33 = .ok (.iconst 1, 1) := by decide +kernel
theorem dX10_weakest_34 : decode cX10_weakest 34 = .ok (.iload_n 2, 1) := by decide +kernel
theorem dX10_weakest_35 : decode cX10_weakest 35 = .ok (.ishl, 1) := by decide +kernel
theorem dX10_weakest_36 : decode cX10_weakest 36 = .ok (.ior, 1) := by decide +kernel
theorem dX10_weakest_37 : decode cX10_weakest 37 = .ok (.istore_n 3, 1) := by decide +kernel
theorem dX10_weakest_38 : decode cX10_weakest 38 = .ok (.iload_n 3, 1) := by decide +kernel
theorem dX10_weakest_39 : decode cX10_weakest 39 = .ok (.aload_n 0, 1) := by decide +kernel
theorem dX10_weakest_40 : decode cX10_weakest 40 = .ok (.getfield 60, 3) := by decide +kernel
theorem dX10_weakest_43 : decode cX10_weakest 43 = .ok (.getfield 155, 3) := by decide +kernel
theorem dX10_weakest_46 : decode cX10_weakest 46 = .ok (.if_icmp .eq 70, 3) := by decide +kernel
theorem dX10_weakest_49 : decode cX10_weakest 49 = .ok (.iload_n 3, 1) := by decide +kernel
theorem dX10_weakest_50 : decode cX10_weakest 50 = .ok (.aload_n 0, 1) := by decide +kernel
theorem dX10_weakest_51 : decode cX10_weakest 51 = .ok (.getfield 23, 3) := by decide +kernel
theorem dX10_weakest_54 : decode cX10_weakest 54 = .ok (.invokevirtual 205, 3) := by decide +kernel
theorem dX10_weakest_57 : decode cX10_weakest 57 = .ok (.if_icmp .ne 6, 3) := by decide +kernel
theorem dX10_weakest_60 : decode cX10_weakest 60 = .ok (.goto 56, 3) := by decide +kernel
theorem dX10_weakest_63 : decode cX10_weakest 63 = .ok (.aload_n 0, 1) := by decide +kernel
theorem dX10_weakest_64 : decode cX10_weakest 64 = .ok (.iload_n 3, 1) := by decide +kernel
theorem dX10_weakest_65 : decode cX10_weakest 65 = .ok (.invokevirtual 309, 3) := by decide +kernel
theorem dX10_weakest_68 : decode cX10_weakest 68 = .ok (.ifCond .ne 6, 3) := by decide +kernel
theorem dX10_weakest_71 : decode cX10_weakest 71 = .ok (.bipush (-2), 2) := by decide +kernel
theorem dX10_weakest_73 : decode cX10_weakest 73 = .ok (.ireturn, 1) := by decide +kernel
theorem dX10_weakest_74 : decode cX10_weakest 74 = .ok (.aload_n 0, 1) := by decide +kernel
theorem dX10_weakest_75 : decode cX10_weakest 75 = .ok (.getfield 80, 3) := by decide +kernel
theorem dX10_weakest_78 : decode cX10_weakest 78 = .ok (.aload_n 0, 1) := by decide +kernel
theorem dX10_weakest_79 : decode cX10_weakest 79 = .ok (.getfield 23, 3) := by decide +kernel
theorem dX10_weakest_82 : decode cX10_weakest 82 = .ok (.iload_n 3, 1) := by decide +kernel
theorem dX10_weakest_83 : decode cX10_weakest 83 = .ok (.aload_n 0, 1) := by decide +kernel
theorem dX10_weakest_84 : decode cX10_weakest 84 = .ok (.getfield 23, 3) := by decide +kernel
theorem dX10_weakest_87 : decode cX10_weakest 87 = .ok (.getfield 151, 3) := by decide +kernel
theorem dX10_weakest_90 : decode cX10_weakest 90 = .ok (.invokevirtual 312, 3) := by decide +kernel
theorem dX10_weakest_93 : decode cX10_weakest 93 = .ok (.aload_n 0, 1) := by decide +kernel
theorem dX10_weakest_94 : decode cX10_weakest 94 = .ok (.getfield 80, 3) := by decide +kernel
theorem dX10_weakest_97 : decode cX10_weakest 97 = .ok (.aload_n 0, 1) := by decide +kernel
theorem dX10_weakest_98 : decode cX10_weakest 98 = .ok (.getfield 60, 3) := by decide +kernel
theorem dX10_weakest_101 : decode cX10_weakest 101 = .ok (.getfield 154, 3) := by decide +kernel
theorem dX10_weakest_104 : decode cX10_weakest 104 = .ok (.invokevirtual 335, 3) := by decide +kernel
theorem dX10_weakest_107 : decode cX10_weakest 107 = .ok (.ifCond .eq 7, 3) := by decide +kernel
theorem dX10_weakest_110 : decode cX10_weakest 110 = .ok (.iload_n 2, 1) := by decide +kernel
theorem dX10_weakest_111 : decode cX10_weakest 111 = .ok (.goto 4, 3) := by decide +kernel
theorem dX10_weakest_114 : decode cX10_weakest 114 = .ok (.iload_n 1, 1) := by decide +kernel
theorem dX10_weakest_115 : decode cX10_weakest 115 = .ok (.istore_n 1, 1) := by decide +kernel
theorem dX10_weakest_116 : decode cX10_weakest 116 = .ok (.iinc 2 (-1), 3) := by decide +kernel
theorem dX10_weakest_119 : decode cX10_weakest 119 = .ok (.goto (-97), 3) := by decide +kernel
theorem dX10_weakest_122 : decode cX10_weakest 122 = .ok (.iload_n 1, 1) := by decide +kernel
theorem dX10_weakest_123 : decode cX10_weakest 123 = .ok (.ireturn, 1) := by decide +kernel
theorem dX10_whyNotSaid_0 : decode cX10_whyNotSaid 0 = .ok (.aload_n 0, 1) := by decide +kernel
theorem dX10_whyNotSaid_1 : decode cX10_whyNotSaid 1 = .ok (.getfield 108, 3) := by decide +kernel
theorem dX10_whyNotSaid_4 : decode cX10_whyNotSaid 4 = .ok (.ifCond .ne 5, 3) := by decide +kernel
theorem dX10_whyNotSaid_7 : decode cX10_whyNotSaid 7 = .ok (.iconst 0, 1) := by decide +kernel
theorem dX10_whyNotSaid_8 : decode cX10_whyNotSaid 8 = .ok (.ireturn, 1) := by decide +kernel
theorem dX10_whyNotSaid_9 : decode cX10_whyNotSaid 9 = .ok (.aload_n 0, 1) := by decide +kernel
theorem dX10_whyNotSaid_10 : decode cX10_whyNotSaid 10 = .ok (.iload_n 1, 1) := by decide +kernel
theorem dX10_whyNotSaid_11 : decode cX10_whyNotSaid 11 = .ok (.iload_n 2, 1) := by decide +kernel
theorem dX10_whyNotSaid_12 : decode cX10_whyNotSaid 12 = .ok (.invokevirtual 221, 3) := by decide +kernel
theorem dX10_whyNotSaid_15 : decode cX10_whyNotSaid 15 = .ok (.ifCond .eq 31, 3) := by decide +kernel
theorem dX10_whyNotSaid_18 : decode cX10_whyNotSaid 18 = .ok (.aload_n 0, 1) := by decide +kernel
theorem dX10_whyNotSaid_19 : decode cX10_whyNotSaid 19 = .ok (.iload_n 3, 1) := by decide +kernel
theorem dX10_whyNotSaid_20 : decode cX10_whyNotSaid 20 = .ok (.invokevirtual 217, 3) := by decide +kernel
theorem dX10_whyNotSaid_23 : decode cX10_whyNotSaid 23 = .ok (.ifCond .eq 23, 3) := by decide +kernel
theorem dX10_whyNotSaid_26 : decode cX10_whyNotSaid 26 = .ok (.aload_n 0, 1) := by decide +kernel
theorem dX10_whyNotSaid_27 : decode cX10_whyNotSaid 27 = .ok (.iload 4, 2) := by decide +kernel
theorem dX10_whyNotSaid_29 : decode cX10_whyNotSaid 29 = .ok (.invokevirtual 217, 3) := by decide +kernel
theorem dX10_whyNotSaid_32 : decode cX10_whyNotSaid 32 = .ok (.ifCond .eq 14, 3) := by decide +kernel
theorem dX10_whyNotSaid_35 : decode cX10_whyNotSaid 35 = .ok (.iload 5, 2) := by decide +kernel
theorem dX10_whyNotSaid_37 : decode cX10_whyNotSaid 37 = .ok (.ifCond .lt 9, 3) := by decide +kernel
theorem dX10_whyNotSaid_40 : decode cX10_whyNotSaid 40 = .ok (.iload 5, 2) := by decide +kernel
theorem dX10_whyNotSaid_42 : decode cX10_whyNotSaid 42 = .ok (.iconst 2, 1) := by decide +kernel
theorem dX10_whyNotSaid_43 : decode cX10_whyNotSaid 43 = .ok (.if_icmp .le 5, 3) := by decide +kernel
theorem dX10_whyNotSaid_46 : decode cX10_whyNotSaid 46 = .ok (.iconst 1, 1) := by decide +kernel
theorem dX10_whyNotSaid_47 : decode cX10_whyNotSaid 47 = .ok (.ireturn, 1) := by decide +kernel
theorem dX10_whyNotSaid_48 : decode cX10_whyNotSaid 48 = .ok (.aload_n 0, 1) := by decide +kernel
theorem dX10_whyNotSaid_49 : decode cX10_whyNotSaid 49 = .ok (.getfield 60, 3) := by decide +kernel
theorem dX10_whyNotSaid_52 : decode cX10_whyNotSaid 52 = .ok (.getfield 155, 3) := by decide +kernel
theorem dX10_whyNotSaid_55 : decode cX10_whyNotSaid 55 = .ok (.iload_n 3, 1) := by decide +kernel
theorem dX10_whyNotSaid_56 : decode cX10_whyNotSaid 56 = .ok (.invokestatic 235, 3) := by decide +kernel
theorem dX10_whyNotSaid_59 : decode cX10_whyNotSaid 59 = .ok (.ifCond .ne 5, 3) := by decide +kernel
theorem dX10_whyNotSaid_62 : decode cX10_whyNotSaid 62 = .ok (.iconst 2, 1) := by decide +kernel
theorem dX10_whyNotSaid_63 : decode cX10_whyNotSaid 63 = .ok (.ireturn, 1) := by decide +kernel
theorem dX10_whyNotSaid_64 : decode cX10_whyNotSaid 64 = .ok (.aload_n 0, 1) := by decide +kernel
theorem dX10_whyNotSaid_65 : decode cX10_whyNotSaid 65 = .ok (.iload_n 1, 1) := by decide +kernel
theorem dX10_whyNotSaid_66 : decode cX10_whyNotSaid 66 = .ok (.iload_n 2, 1) := by decide +kernel
theorem dX10_whyNotSaid_67 : decode cX10_whyNotSaid 67 = .ok (.invokevirtual 228, 3) := by decide +kernel
theorem dX10_whyNotSaid_70 : decode cX10_whyNotSaid 70 = .ok (.ifCond .eq 5, 3) := by decide +kernel
theorem dX10_whyNotSaid_73 : decode cX10_whyNotSaid 73 = .ok (.iconst 3, 1) := by decide +kernel
theorem dX10_whyNotSaid_74 : decode cX10_whyNotSaid 74 = .ok (.ireturn, 1) := by decide +kernel
theorem dX10_whyNotSaid_75 : decode cX10_whyNotSaid 75 = .ok (.aload_n 0, 1) := by decide +kernel
theorem dX10_whyNotSaid_76 : decode cX10_whyNotSaid 76 = .ok (.getfield 60, 3) := by decide +kernel
theorem dX10_whyNotSaid_79 : decode cX10_whyNotSaid 79 = .ok (.getfield 173, 3) := by decide +kernel
theorem dX10_whyNotSaid_82 : decode cX10_whyNotSaid 82 = .ok (.bipush 30, 2) := by decide +kernel
theorem dX10_whyNotSaid_84 : decode cX10_whyNotSaid 84 = .ok (.if_icmp .lt 7, 3) := by decide +kernel
theorem dX10_whyNotSaid_87 : decode cX10_whyNotSaid 87 = .ok (.iconst 4, 1) := by decide +kernel
theorem dX10_whyNotSaid_88 : decode cX10_whyNotSaid 88 = .ok (.goto 4, 3) := by decide +kernel
theorem dX10_whyNotSaid_91 : decode cX10_whyNotSaid 91 = .ok (.iconst (-1), 1) := by decide +kernel
theorem dX10_whyNotSaid_92 : decode cX10_whyNotSaid 92 = .ok (.ireturn, 1) := by decide +kernel
theorem dX10_whyNotTold_0 : decode cX10_whyNotTold 0 = .ok (.aload_n 0, 1) := by decide +kernel
theorem dX10_whyNotTold_1 : decode cX10_whyNotTold 1 = .ok (.getfield 108, 3) := by decide +kernel
theorem dX10_whyNotTold_4 : decode cX10_whyNotTold 4 = .ok (.ifCond .ne 5, 3) := by decide +kernel
theorem dX10_whyNotTold_7 : decode cX10_whyNotTold 7 = .ok (.iconst 0, 1) := by decide +kernel
theorem dX10_whyNotTold_8 : decode cX10_whyNotTold 8 = .ok (.ireturn, 1) := by decide +kernel
theorem dX10_whyNotTold_9 : decode cX10_whyNotTold 9 = .ok (.iload_n 1, 1) := by decide +kernel
theorem dX10_whyNotTold_10 : decode cX10_whyNotTold 10 = .ok (.ifCond .lt 8, 3) := by decide +kernel
theorem dX10_whyNotTold_13 : decode cX10_whyNotTold 13 = .ok (.iload_n 1, 1) := by decide +kernel
theorem dX10_whyNotTold_14 : decode cX10_whyNotTold 14 = .ok (.iload_n 2, 1) := by decide +kernel
theorem dX10_whyNotTold_15 : decode cX10_whyNotTold 15 = .ok (.if_icmp .le 5, 3) := by decide +kernel
theorem dX10_whyNotTold_18 : decode cX10_whyNotTold 18 = .ok (.iconst 1, 1) := by decide +kernel
theorem dX10_whyNotTold_19 : decode cX10_whyNotTold 19 = .ok (.ireturn, 1) := by decide +kernel
theorem dX10_whyNotTold_20 : decode cX10_whyNotTold 20 = .ok (.aload_n 0, 1) := by decide +kernel
theorem dX10_whyNotTold_21 : decode cX10_whyNotTold 21 = .ok (.getfield 60, 3) := by decide +kernel
theorem dX10_whyNotTold_24 : decode cX10_whyNotTold 24 = .ok (.getfield 159, 3) := by decide +kernel
theorem dX10_whyNotTold_27 : decode cX10_whyNotTold 27 = .ok (.ifCond .le 7, 3) := by decide +kernel
theorem dX10_whyNotTold_30 : decode cX10_whyNotTold 30 = .ok (.iconst 3, 1) := by decide +kernel
theorem dX10_whyNotTold_31 : decode cX10_whyNotTold 31 = .ok (.goto 4, 3) := by decide +kernel
theorem dX10_whyNotTold_34 : decode cX10_whyNotTold 34 = .ok (.iconst (-1), 1) := by decide +kernel
theorem dX10_whyNotTold_35 : decode cX10_whyNotTold 35 = .ok (.ireturn, 1) := by decide +kernel
theorem dX2_everybody_0 : decode cX2_everybody 0 = .ok (.iconst 1, 1) := by decide +kernel
theorem dX2_everybody_1 : decode cX2_everybody 1 = .ok (.aload_n 0, 1) := by decide +kernel
theorem dX2_everybody_2 : decode cX2_everybody 2 = .ok (.getfield 15, 3) := by decide +kernel
theorem dX2_everybody_5 : decode cX2_everybody 5 = .ok (.ishl, 1) := by decide +kernel
theorem dX2_everybody_6 : decode cX2_everybody 6 = .ok (.iconst 1, 1) := by decide +kernel
theorem dX2_everybody_7 : decode cX2_everybody 7 = .ok (.isub, 1) := by decide +kernel
theorem dX2_everybody_8 : decode cX2_everybody 8 = .ok (.ireturn, 1) := by decide +kernel
theorem dX2_phaseAt_0 : decode cX2_phaseAt 0 = .ok (.iload_n 1, 1) := by decide +kernel
theorem dX2_phaseAt_1 : decode cX2_phaseAt 1 = .ok (.aload_n 0, 1) := by decide +kernel
theorem dX2_phaseAt_2 : decode cX2_phaseAt 2 = .ok (.invokevirtual 112, 3) := by decide +kernel
theorem dX2_phaseAt_5 : decode cX2_phaseAt 5 = .ok (.idiv, 1) := by decide +kernel
theorem dX2_phaseAt_6 : decode cX2_phaseAt 6 = .ok (.ireturn, 1) := by decide +kernel
theorem dX2_rounds_0 : decode cX2_rounds 0 = .ok (.aload_n 0, 1) := by decide +kernel
theorem dX2_rounds_1 : decode cX2_rounds 1 = .ok (.getfield 9, 3) := by decide +kernel
theorem dX2_rounds_4 : decode cX2_rounds 4 = .ok (.ifCond .ne 7, 3) := by decide +kernel
theorem dX2_rounds_7 : decode cX2_rounds 7 = .ok (.iconst 3, 1) := by decide +kernel
theorem dX2_rounds_8 : decode cX2_rounds 8 = .ok (.goto 4, 3) := by decide +kernel
theorem dX2_rounds_11 : decode cX2_rounds 11 = .ok (.iconst 2, 1) := by decide +kernel
theorem dX2_rounds_12 : decode cX2_rounds 12 = .ok (.ireturn, 1) := by decide +kernel
theorem dX3_agreedFrom_0 : decode cX3_agreedFrom 0 = .ok (.iconst (-1), 1) := by decide +kernel
theorem dX3_agreedFrom_1 : decode cX3_agreedFrom 1 = .ok (.istore_n 2, 1) := by decide +kernel
theorem dX3_agreedFrom_2 : decode cX3_agreedFrom 2 = .ok (.aload_n 1, 1) := by decide +kernel
theorem dX3_agreedFrom_3 : decode cX3_agreedFrom 3 = .ok (.aload_n 0, 1) := by decide +kernel
theorem dX3_agreedFrom_4 : decode cX3_agreedFrom 4 = .ok (.getfield 47, 3) := by decide +kernel
theorem dX3_agreedFrom_7 : decode cX3_agreedFrom 7 = .ok (.invokevirtual 89, 3) := by decide +kernel
theorem dX3_agreedFrom_10 : decode cX3_agreedFrom 10 = .ok (.iconst 1, 1) := by decide +kernel
theorem dX3_agreedFrom_11 : decode cX3_agreedFrom 11 = .ok (.isub, 1) := by decide +kernel
theorem dX3_agreedFrom_12 : decode cX3_agreedFrom 12 = .ok (.istore_n 3, 1) := by decide +kernel
theorem dX3_agreedFrom_13 : decode cX3_agreedFrom 13 = .ok (.iload_n 3, 1) := by decide +kernel
theorem dX3_agreedFrom_14 : decode cX3_agreedFrom 14 = .ok (.ifCond .lt 25, 3) := by decide +kernel
theorem dX3_agreedFrom_17 : decode cX3_agreedFrom 17 = .ok (.aload_n 0, 1) := by decide +kernel
theorem dX3_agreedFrom_18 : decode cX3_agreedFrom 18 = .ok (.aload_n 1, 1) := by decide +kernel
theorem dX3_agreedFrom_19 : decode cX3_agreedFrom 19 = .ok (.aload_n 0, 1) := by decide +kernel
theorem dX3_agreedFrom_20 : decode cX3_agreedFrom 20 = .ok (.getfield 28, 3) := by decide +kernel
theorem dX3_agreedFrom_23 : decode cX3_agreedFrom 23 = .ok (.iload_n 3, 1) := by decide +kernel
theorem dX3_agreedFrom_24 : decode cX3_agreedFrom 24 = .ok (.iaload, 1) := by decide +kernel
theorem dX3_agreedFrom_25 : decode cX3_agreedFrom 25 = .ok (.invokevirtual 200, 3) := by decide +kernel
theorem dX3_agreedFrom_28 : decode cX3_agreedFrom 28 = .ok (.ifCond .eq 11, 3) := by decide +kernel
theorem dX3_agreedFrom_31 : decode cX3_agreedFrom 31 = .ok (.iload_n 3, 1) := by decide +kernel
theorem dX3_agreedFrom_32 : decode cX3_agreedFrom 32 = .ok (.istore_n 2, 1) := by decide +kernel
theorem dX3_agreedFrom_33 : decode cX3_agreedFrom 33 = .ok (.iinc 3 (-1), 3) := by decide +kernel
theorem dX3_agreedFrom_36 : decode cX3_agreedFrom 36 = .ok (.goto (-23), 3) := by decide +kernel
theorem dX3_agreedFrom_39 : decode cX3_agreedFrom 39 = .ok (.iload_n 2, 1) := by decide +kernel
theorem dX3_agreedFrom_40 : decode cX3_agreedFrom 40 = .ok (.ireturn, 1) := by decide +kernel
