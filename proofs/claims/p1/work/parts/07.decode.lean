theorem dJ0_coder_7d493_0 : decode cJ0_coder_7d493 0 = .ok (.getstatic 38, 3) := by decide +kernel
theorem dJ0_coder_7d493_3 : decode cJ0_coder_7d493 3 = .ok (.ifCond .eq 10, 3) := by decide +kernel
theorem dJ0_coder_7d493_6 : decode cJ0_coder_7d493 6 = .ok (.aload_n 0, 1) := by decide +kernel
theorem dJ0_coder_7d493_7 : decode cJ0_coder_7d493 7 = .ok (.getfield 15, 3) := by decide +kernel
theorem dJ0_coder_7d493_10 : decode cJ0_coder_7d493 10 = .ok (.goto 4, 3) := by decide +kernel
theorem dJ0_coder_7d493_13 : decode cJ0_coder_7d493 13 = .ok (.iconst 1, 1) := by decide +kernel
theorem dJ0_coder_7d493_14 : decode cJ0_coder_7d493 14 = .ok (.ireturn, 1) := by decide +kernel
theorem dJ0_length_8abf5_0 : decode cJ0_length_8abf5 0 = .ok (.aload_n 0, 1) := by decide +kernel
theorem dJ0_length_8abf5_1 : decode cJ0_length_8abf5 1 = .ok (.getfield 9, 3) := by decide +kernel
theorem dJ0_length_8abf5_4 : decode cJ0_length_8abf5 4 = .ok (.arraylength, 1) := by decide +kernel
theorem dJ0_length_8abf5_5 : decode cJ0_length_8abf5 5 = .ok (.aload_n 0, 1) := by decide +kernel
theorem dJ0_length_8abf5_6 : decode cJ0_length_8abf5 6 = .ok (.invokevirtual 335, 3) := by decide +kernel
theorem dJ0_length_8abf5_9 : decode cJ0_length_8abf5 9 = .ok (.ishr, 1) := by decide +kernel
theorem dJ0_length_8abf5_10 : decode cJ0_length_8abf5 10 = .ok (.ireturn, 1) := by decide +kernel
theorem dX0_init_0 : decode cX0_init 0 = .ok (.aload_n 0, 1) := by decide +kernel
theorem dX0_init_1 : decode cX0_init 1 = .ok (.invokespecial 1, 3) := by decide +kernel
theorem dX0_init_4 : decode cX0_init 4 = .ok (.aload_n 0, 1) := by decide +kernel
theorem dX0_init_5 : decode cX0_init 5 = .ok (.bipush 20, 2) := by decide +kernel
theorem dX0_init_7 : decode cX0_init 7 = .ok (.anewarray 9, 3) := by decide +kernel
theorem dX0_init_10 : decode cX0_init 10 = .ok (.putfield 11, 3) := by decide +kernel
theorem dX0_init_13 : decode cX0_init 13 = .ok (.iconst 0, 1) := by decide +kernel
theorem dX0_init_14 : decode cX0_init 14 = .ok (.istore_n 1, 1) := by decide +kernel
theorem dX0_init_15 : decode cX0_init 15 = .ok (.iload_n 1, 1) := by decide +kernel
theorem dX0_init_16 : decode cX0_init 16 = .ok (.bipush 20, 2) := by decide +kernel
theorem dX0_init_18 : decode cX0_init 18 = .ok (.if_icmp .ge 22, 3) := by decide +kernel
theorem dX0_init_21 : decode cX0_init 21 = .ok (.aload_n 0, 1) := by decide +kernel
theorem dX0_init_22 : decode cX0_init 22 = .ok (.getfield 11, 3) := by decide +kernel
theorem dX0_init_25 : decode cX0_init 25 = .ok (.iload_n 1, 1) := by decide +kernel
theorem dX0_init_26 : decode cX0_init 26 = .ok (.new 9, 3) := by decide +kernel
theorem dX0_init_29 : decode cX0_init 29 = .ok (.dup, 1) := by decide +kernel
theorem dX0_init_30 : decode cX0_init 30 = .ok (.invokespecial 15, 3) := by decide +kernel
theorem dX0_init_33 : decode cX0_init 33 = .ok (.aastore, 1) := by decide +kernel
theorem dX0_init_34 : decode cX0_init 34 = .ok (.iinc 1 1, 3) := by decide +kernel
theorem dX0_init_37 : decode cX0_init 37 = .ok (.goto (-22), 3) := by decide +kernel
theorem dX0_init_40 : decode cX0_init 40 = .ok (.return_, 1) := by decide +kernel
theorem dX0_takeBack_0 : decode cX0_takeBack 0 = .ok (.aload_n 0, 1) := by decide +kernel
theorem dX0_takeBack_1 : decode cX0_takeBack 1 = .ok (.getfield 24, 3) := by decide +kernel
theorem dX0_takeBack_4 : decode cX0_takeBack 4 = .ok (.iconst 1, 1) := by decide +kernel
theorem dX0_takeBack_5 : decode cX0_takeBack 5 = .ok (.if_icmp .ge 5, 3) := by decide +kernel
theorem dX0_takeBack_8 : decode cX0_takeBack 8 = .ok (.iconst 0, 1) := by decide +kernel
theorem dX0_takeBack_9 : decode cX0_takeBack 9 = .ok (.ireturn, 1) := by decide +kernel
theorem dX0_takeBack_10 : decode cX0_takeBack 10 = .ok (.aload_n 1, 1) := by decide +kernel
theorem dX0_takeBack_11 : decode cX0_takeBack 11 = .ok (.aload_n 0, 1) := by decide +kernel
theorem dX0_takeBack_12 : decode cX0_takeBack 12 = .ok (.getfield 11, 3) := by decide +kernel
theorem dX0_takeBack_15 : decode cX0_takeBack 15 = .ok (.aload_n 0, 1) := by decide +kernel
theorem dX0_takeBack_16 : decode cX0_takeBack 16 = .ok (.getfield 16, 3) := by decide +kernel
theorem dX0_takeBack_19 : decode cX0_takeBack 19 = .ok (.aaload, 1) := by decide +kernel
theorem dX0_takeBack_20 : decode cX0_takeBack 20 = .ok (.invokevirtual 20, 3) := by decide +kernel
theorem dX0_takeBack_23 : decode cX0_takeBack 23 = .ok (.aload_n 0, 1) := by decide +kernel
theorem dX0_takeBack_24 : decode cX0_takeBack 24 = .ok (.aload_n 0, 1) := by decide +kernel
theorem dX0_takeBack_25 : decode cX0_takeBack 25 = .ok (.getfield 16, 3) := by decide +kernel
theorem dX0_takeBack_28 : decode cX0_takeBack 28 = .ok (.bipush 20, 2) := by decide +kernel
theorem dX0_takeBack_30 : decode cX0_takeBack 30 = .ok (.iadd, 1) := by decide +kernel
theorem dX0_takeBack_31 : decode cX0_takeBack 31 = .ok (.iconst 1, 1) := by decide +kernel
theorem dX0_takeBack_32 : decode cX0_takeBack 32 = .ok (.isub, 1) := by decide +kernel
theorem dX0_takeBack_33 : decode cX0_takeBack 33 = .ok (.bipush 20, 2) := by decide +kernel
theorem dX0_takeBack_35 : decode cX0_takeBack 35 = .ok (.irem, 1) := by decide +kernel
theorem dX0_takeBack_36 : decode cX0_takeBack 36 = .ok (.putfield 16, 3) := by decide +kernel
theorem dX0_takeBack_39 : decode cX0_takeBack 39 = .ok (.aload_n 0, 1) := by decide +kernel
theorem dX0_takeBack_40 : decode cX0_takeBack 40 = .ok (.dup, 1) := by decide +kernel
theorem dX0_takeBack_41 : decode cX0_takeBack 41 = .ok (.getfield 24, 3) := by decide +kernel
theorem dX0_takeBack_44 : decode cX0_takeBack 44 = .ok (.iconst 1, 1) := by decide +kernel
theorem dX0_takeBack_45 : decode cX0_takeBack 45 = .ok (.isub, 1) := by decide +kernel
theorem dX0_takeBack_46 : decode cX0_takeBack 46 = .ok (.putfield 24, 3) := by decide +kernel
theorem dX0_takeBack_49 : decode cX0_takeBack 49 = .ok (.iconst 1, 1) := by decide +kernel
theorem dX0_takeBack_50 : decode cX0_takeBack 50 = .ok (.ireturn, 1) := by decide +kernel
theorem dX10_agreed_0 : decode cX10_agreed 0 = .ok (.aload_n 0, 1) := by decide +kernel
theorem dX10_agreed_1 : decode cX10_agreed 1 = .ok (.getfield 60, 3) := by decide +kernel
theorem dX10_agreed_4 : decode cX10_agreed 4 = .ok (.aload_n 0, 1) := by decide +kernel
theorem dX10_agreed_5 : decode cX10_agreed 5 = .ok (.getfield 23, 3) := by decide +kernel
theorem dX10_agreed_8 : decode cX10_agreed 8 = .ok (.invokevirtual 269, 3) := by decide +kernel
theorem dX10_agreed_11 : decode cX10_agreed 11 = .ok (.ireturn, 1) := by decide +kernel
theorem dX10_asOthers_0 : decode cX10_asOthers 0 = .ok (.aload_n 0, 1) := by decide +kernel
theorem dX10_asOthers_1 : decode cX10_asOthers 1 = .ok (.getfield 108, 3) := by decide +kernel
theorem dX10_asOthers_4 : decode cX10_asOthers 4 = .ok (.ifCond .eq 12, 3) := by decide +kernel
theorem dX10_asOthers_7 : decode cX10_asOthers 7 = .ok (.iload_n 1, 1) := by decide +kernel
theorem dX10_asOthers_8 : decode cX10_asOthers 8 = .ok (.ifCond .lt 8, 3) := by decide +kernel
theorem dX10_asOthers_11 : decode cX10_asOthers 11 = .ok (.iload_n 1, 1) := by decide +kernel
theorem dX10_asOthers_12 : decode cX10_asOthers 12 = .ok (.iconst 3, 1) := by decide +kernel
theorem dX10_asOthers_13 : decode cX10_asOthers 13 = .ok (.if_icmp .le 6, 3) := by decide +kernel
theorem dX10_asOthers_16 : decode cX10_asOthers 16 = .ok (.bipush (-2), 2) := by decide +kernel
theorem dX10_asOthers_18 : decode cX10_asOthers 18 = .ok (.ireturn, 1) := by decide +kernel
theorem dX10_asOthers_19 : decode cX10_asOthers 19 = .ok (.aload_n 0, 1) := by decide +kernel
theorem dX10_asOthers_20 : decode cX10_asOthers 20 = .ok (.getfield 26, 3) := by decide +kernel
theorem dX10_asOthers_23 : decode cX10_asOthers 23 = .ok (.aload_n 0, 1) := by decide +kernel
theorem dX10_asOthers_24 : decode cX10_asOthers 24 = .ok (.getfield 23, 3) := by decide +kernel
theorem dX10_asOthers_27 : decode cX10_asOthers 27 = .ok (.invokevirtual 104, 3) := by decide +kernel
theorem dX10_asOthers_30 : decode cX10_asOthers 30 = .ok (.aload_n 0, 1) := by decide +kernel
theorem dX10_asOthers_31 : decode cX10_asOthers 31 = .ok (.getfield 26, 3) := by decide +kernel
theorem dX10_asOthers_34 : decode cX10_asOthers 34 = .ok (.aload_n 0, 1) := by decide +kernel
theorem dX10_asOthers_35 : decode cX10_asOthers 35 = .ok (.getfield 23, 3) := by decide +kernel
theorem dX10_asOthers_38 : decode cX10_asOthers 38 = .ok (.getfield 145, 3) := by decide +kernel
theorem dX10_asOthers_41 : decode cX10_asOthers 41 = .ok (.ifCond .ne 7, 3) := by decide +kernel
theorem dX10_asOthers_44 : decode cX10_asOthers 44 = .ok (.iconst 1, 1) := by decide +kernel
theorem dX10_asOthers_45 : decode cX10_asOthers 45 = .ok (.goto 4, 3) := by decide +kernel
theorem dX10_asOthers_48 : decode cX10_asOthers 48 = .ok (.iconst 0, 1) := by decide +kernel
theorem dX10_asOthers_49 : decode cX10_asOthers 49 = .ok (.putfield 145, 3) := by decide +kernel
theorem dX10_asOthers_52 : decode cX10_asOthers 52 = .ok (.iload_n 1, 1) := by decide +kernel
theorem dX10_asOthers_53 : decode cX10_asOthers 53 = .ok (.iconst 3, 1) := by decide +kernel
theorem dX10_asOthers_54 : decode cX10_asOthers 54 = .ok (.if_icmp .ne 11, 3) := by decide +kernel
theorem dX10_asOthers_57 : decode cX10_asOthers 57 = .ok (.aload_n 0, 1) := by decide +kernel
theorem dX10_asOthers_58 : decode cX10_asOthers 58 = .ok (.getfield 26, 3) := by decide +kernel
theorem dX10_asOthers_61 : decode cX10_asOthers 61 = .ok (.invokevirtual 297, 3) := by decide +kernel
theorem dX10_asOthers_64 : decode cX10_asOthers 64 = .ok (.ireturn, 1) := by decide +kernel
theorem dX10_asOthers_65 : decode cX10_asOthers 65 = .ok (.aload_n 0, 1) := by decide +kernel
theorem dX10_asOthers_66 : decode cX10_asOthers 66 = .ok (.aload_n 0, 1) := by decide +kernel
theorem dX10_asOthers_67 : decode cX10_asOthers 67 = .ok (.getfield 26, 3) := by decide +kernel
theorem dX10_asOthers_70 : decode cX10_asOthers 70 = .ok (.aload_n 0, 1) := by decide +kernel
theorem dX10_asOthers_71 : decode cX10_asOthers 71 = .ok (.getfield 39, 3) := by decide +kernel
theorem dX10_asOthers_74 : decode cX10_asOthers 74 = .ok (.aload_n 0, 1) := by decide +kernel
theorem dX10_asOthers_75 : decode cX10_asOthers 75 = .ok (.getfield 115, 3) := by decide +kernel
theorem dX10_asOthers_78 : decode cX10_asOthers 78 = .ok (.invokevirtual 347, 3) := by decide +kernel
theorem dX10_asOthers_81 : decode cX10_asOthers 81 = .ok (.iload_n 1, 1) := by decide +kernel
theorem dX10_asOthers_82 : decode cX10_asOthers 82 = .ok (.lookupswitch 46 #[(0, 26), (1, 38)], 26) := by decide +kernel
theorem dX10_asOthers_108 : decode cX10_asOthers 108 = .ok (.aload_n 0, 1) := by decide +kernel
theorem dX10_asOthers_109 : decode cX10_asOthers 109 = .ok (.getfield 67, 3) := by decide +kernel
theorem dX10_asOthers_112 : decode cX10_asOthers 112 = .ok (.aload_n 0, 1) := by decide +kernel
theorem dX10_asOthers_113 : decode cX10_asOthers 113 = .ok (.getfield 26, 3) := by decide +kernel
theorem dX10_asOthers_116 : decode cX10_asOthers 116 = .ok (.invokevirtual 269, 3) := by decide +kernel
theorem dX10_asOthers_119 : decode cX10_asOthers 119 = .ok (.ireturn, 1) := by decide +kernel
theorem dX10_asOthers_120 : decode cX10_asOthers 120 = .ok (.aload_n 0, 1) := by decide +kernel
theorem dX10_asOthers_121 : decode cX10_asOthers 121 = .ok (.getfield 67, 3) := by decide +kernel
theorem dX10_asOthers_124 : decode cX10_asOthers 124 = .ok (.getfield 291, 3) := by decide +kernel
theorem dX10_asOthers_127 : decode cX10_asOthers 127 = .ok (.ireturn, 1) := by decide +kernel
theorem dX10_asOthers_128 : decode cX10_asOthers 128 = .ok (.aload_n 0, 1) := by decide +kernel
theorem dX10_asOthers_129 : decode cX10_asOthers 129 = .ok (.getfield 67, 3) := by decide +kernel
theorem dX10_asOthers_132 : decode cX10_asOthers 132 = .ok (.getfield 211, 3) := by decide +kernel
theorem dX10_asOthers_135 : decode cX10_asOthers 135 = .ok (.ireturn, 1) := by decide +kernel
theorem dX10_back_0 : decode cX10_back 0 = .ok (.aload_n 0, 1) := by decide +kernel
theorem dX10_back_1 : decode cX10_back 1 = .ok (.getfield 112, 3) := by decide +kernel
theorem dX10_back_4 : decode cX10_back 4 = .ok (.ifCond .ne 5, 3) := by decide +kernel
theorem dX10_back_7 : decode cX10_back 7 = .ok (.iconst (-1), 1) := by decide +kernel
theorem dX10_back_8 : decode cX10_back 8 = .ok (.ireturn, 1) := by decide +kernel
theorem dX10_back_9 : decode cX10_back 9 = .ok (.aload_n 0, 1) := by decide +kernel
theorem dX10_back_10 : decode cX10_back 10 = .ok (.getfield 60, 3) := by decide +kernel
theorem dX10_back_13 : decode cX10_back 13 = .ok (.aload_n 0, 1) := by decide +kernel
theorem dX10_back_14 : decode cX10_back 14 = .ok (.getfield 64, 3) := by decide +kernel
theorem dX10_back_17 : decode cX10_back 17 = .ok (.invokevirtual 384, 3) := by decide +kernel
theorem dX10_back_20 : decode cX10_back 20 = .ok (.aload_n 0, 1) := by decide +kernel
theorem dX10_back_21 : decode cX10_back 21 = .ok (.getfield 73, 3) := by decide +kernel
theorem dX10_back_24 : decode cX10_back 24 = .ok (.iconst 0, 1) := by decide +kernel
theorem dX10_back_25 : decode cX10_back 25 = .ok (.putfield 119, 3) := by decide +kernel
theorem dX10_back_28 : decode cX10_back 28 = .ok (.aload_n 0, 1) := by decide +kernel
theorem dX10_back_29 : decode cX10_back 29 = .ok (.getfield 60, 3) := by decide +kernel
theorem dX10_back_32 : decode cX10_back 32 = .ok (.getfield 159, 3) := by decide +kernel
theorem dX10_back_35 : decode cX10_back 35 = .ok (.ireturn, 1) := by decide +kernel
theorem dX10_broken_0 : decode cX10_broken 0 = .ok (.aload_n 0, 1) := by decide +kernel
theorem dX10_broken_1 : decode cX10_broken 1 = .ok (.aload_n 0, 1) := by decide +kernel
theorem dX10_broken_2 : decode cX10_broken 2 = .ok (.getfield 60, 3) := by decide +kernel
theorem dX10_broken_5 : decode cX10_broken 5 = .ok (.getfield 155, 3) := by decide +kernel
theorem dX10_broken_8 : decode cX10_broken 8 = .ok (.invokevirtual 309, 3) := by decide +kernel
theorem dX10_broken_11 : decode cX10_broken 11 = .ok (.ifCond .ne 6, 3) := by decide +kernel
theorem dX10_broken_14 : decode cX10_broken 14 = .ok (.bipush (-2), 2) := by decide +kernel
theorem dX10_broken_16 : decode cX10_broken 16 = .ok (.ireturn, 1) := by decide +kernel
theorem dX10_broken_17 : decode cX10_broken 17 = .ok (.aload_n 0, 1) := by decide +kernel
theorem dX10_broken_18 : decode cX10_broken 18 = .ok (.getfield 80, 3) := by decide +kernel
theorem dX10_broken_21 : decode cX10_broken 21 = .ok (.aload_n 0, 1) := by decide +kernel
theorem dX10_broken_22 : decode cX10_broken 22 = .ok (.getfield 23, 3) := by decide +kernel
theorem dX10_broken_25 : decode cX10_broken 25 = .ok (.aload_n 0, 1) := by decide +kernel
theorem dX10_broken_26 : decode cX10_broken 26 = .ok (.getfield 60, 3) := by decide +kernel
theorem dX10_broken_29 : decode cX10_broken 29 = .ok (.getfield 155, 3) := by decide +kernel
theorem dX10_broken_32 : decode cX10_broken 32 = .ok (.aload_n 0, 1) := by decide +kernel
theorem dX10_broken_33 : decode cX10_broken 33 = .ok (.getfield 23, 3) := by decide +kernel
theorem dX10_broken_36 : decode cX10_broken 36 = .ok (.getfield 151, 3) := by decide +kernel
theorem dX10_broken_39 : decode cX10_broken 39 = .ok (.invokevirtual 312, 3) := by decide +kernel
theorem dX10_broken_42 : decode cX10_broken 42 = .ok (.aload_n 0, 1) := by decide +kernel
theorem dX10_broken_43 : decode cX10_broken 43 = .ok (.getfield 80, 3) := by decide +kernel
theorem dX10_broken_46 : decode cX10_broken 46 = .ok (.aload_n 0, 1) := by decide +kernel
theorem dX10_broken_47 : decode cX10_broken 47 = .ok (.getfield 60, 3) := by decide +kernel
theorem dX10_broken_50 : decode cX10_broken 50 = .ok (.getfield 154, 3) := by decide +kernel
theorem dX10_broken_53 : decode cX10_broken 53 = .ok (.invokevirtual 316, 3) := by decide +kernel
theorem dX10_broken_56 : decode cX10_broken 56 = .ok (.ireturn, 1) := by decide +kernel
theorem dX10_brokenPlan_0 : decode cX10_brokenPlan 0 = .ok (.aload_n 0, 1) := by decide +kernel
theorem dX10_brokenPlan_1 : decode cX10_brokenPlan 1 = .ok (.invokevirtual 325, 3) := by decide +kernel
theorem dX10_brokenPlan_4 : decode cX10_brokenPlan 4 = .ok (.istore_n 2, 1) := by decide +kernel
theorem dX10_brokenPlan_5 : decode cX10_brokenPlan 5 = .ok (.iload_n 2, 1) := by decide +kernel
theorem dX10_brokenPlan_6 : decode cX10_brokenPlan 6 = .ok (.ifCond .ge 5, 3) := by decide +kernel
theorem dX10_brokenPlan_9 : decode cX10_brokenPlan 9 = .ok (.iload_n 2, 1) := by decide +kernel
theorem dX10_brokenPlan_10 : decode cX10_brokenPlan 10 = .ok (.ireturn, 1) := by decide +kernel
theorem dX10_brokenPlan_11 : decode cX10_brokenPlan 11 = .ok (.aload_n 0, 1) := by decide +kernel
theorem dX10_brokenPlan_12 : decode cX10_brokenPlan 12 = .ok (.getfield 84, 3) := by decide +kernel
theorem dX10_brokenPlan_15 : decode cX10_brokenPlan 15 = .ok (.iconst 0, 1) := by decide +kernel
theorem dX10_brokenPlan_16 : decode cX10_brokenPlan 16 = .ok (.putfield 91, 3) := by decide +kernel
theorem dX10_brokenPlan_19 : decode cX10_brokenPlan 19 = .ok (.iconst 0, 1) := by decide +kernel
theorem dX10_brokenPlan_20 : decode cX10_brokenPlan 20 = .ok (.istore_n 3, 1) := by decide +kernel
theorem dX10_brokenPlan_21 : decode cX10_brokenPlan 21 = .ok (.iload_n 3, 1) := by decide +kernel
theorem dX10_brokenPlan_22 : decode cX10_brokenPlan 22 = .ok (.aload_n 0, 1) := by decide +kernel
theorem dX10_brokenPlan_23 : decode cX10_brokenPlan 23 = .ok (.getfield 23, 3) := by decide +kernel
theorem dX10_brokenPlan_26 : decode cX10_brokenPlan 26 = .ok (.getfield 151, 3) := by decide +kernel
theorem dX10_brokenPlan_29 : decode cX10_brokenPlan 29 = .ok (.if_icmp .ge 38, 3) := by decide +kernel
theorem dX10_brokenPlan_32 : decode cX10_brokenPlan 32 = .ok (.iconst 0, 1) := by decide +kernel
theorem dX10_brokenPlan_33 : decode cX10_brokenPlan 33 = .ok (.istore 4, 2) := by decide +kernel
theorem dX10_brokenPlan_35 : decode cX10_brokenPlan 35 = .ok (.iload 4, 2) := by decide +kernel
theorem dX10_brokenPlan_37 : decode cX10_brokenPlan 37 = .ok (.aload_n 0, 1) := by decide +kernel
theorem dX10_brokenPlan_38 : decode cX10_brokenPlan 38 = .ok (.getfield 23, 3) := by decide +kernel
theorem dX10_brokenPlan_41 : decode cX10_brokenPlan 41 = .ok (.invokevirtual 169, 3) := by decide +kernel
theorem dX10_brokenPlan_44 : decode cX10_brokenPlan 44 = .ok (.if_icmp .ge 17, 3) := by decide +kernel
theorem dX10_brokenPlan_47 : decode cX10_brokenPlan 47 = .ok (.aload_n 0, 1) := by decide +kernel
theorem dX10_brokenPlan_48 : decode cX10_brokenPlan 48 = .ok (.iload_n 3, 1) := by decide +kernel
theorem dX10_brokenPlan_49 : decode cX10_brokenPlan 49 = .ok (.iload 4, 2) := by decide +kernel
theorem dX10_brokenPlan_51 : decode cX10_brokenPlan 51 = .ok (.iload_n 2, 1) := by decide +kernel
theorem dX10_brokenPlan_52 : decode cX10_brokenPlan 52 = .ok (.invokevirtual 328, 3) := by decide +kernel
theorem dX10_brokenPlan_55 : decode cX10_brokenPlan 55 = .ok (.iinc 4 1, 3) := by decide +kernel
theorem dX10_brokenPlan_58 : decode cX10_brokenPlan 58 = .ok (.goto (-23), 3) := by decide +kernel
theorem dX10_brokenPlan_61 : decode cX10_brokenPlan 61 = .ok (.iinc 3 1, 3) := by decide +kernel
theorem dX10_brokenPlan_64 : decode cX10_brokenPlan 64 = .ok (.goto (-43), 3) := by decide +kernel
theorem dX10_brokenPlan_67 : decode cX10_brokenPlan 67 = .ok (.aload_n 0, 1) := by decide +kernel
theorem dX10_brokenPlan_68 : decode cX10_brokenPlan 68 = .ok (.iload_n 1, 1) := by decide +kernel
theorem dX10_brokenPlan_69 : decode cX10_brokenPlan 69 = .ok (.invokevirtual 332, 3) := by decide +kernel
theorem dX10_brokenPlan_72 : decode cX10_brokenPlan 72 = .ok (.ireturn, 1) := by decide +kernel
theorem dX10_brokenStarts_0 : decode cX10_brokenStarts 0 = .ok (.iload_n 1, 1) := by decide +kernel
theorem dX10_brokenStarts_1 : decode cX10_brokenStarts 1 = .ok (.ifCond .lt 22, 3) := by decide +kernel
theorem dX10_brokenStarts_4 : decode cX10_brokenStarts 4 = .ok (.iload_n 1, 1) := by decide +kernel
theorem dX10_brokenStarts_5 : decode cX10_brokenStarts 5 = .ok (.iconst 1, 1) := by decide +kernel
theorem dX10_brokenStarts_6 : decode cX10_brokenStarts 6 = .ok (.if_icmp .gt 17, 3) := by decide +kernel
theorem dX10_brokenStarts_9 : decode cX10_brokenStarts 9 = .ok (.aload_n 0, 1) := by decide +kernel
theorem dX10_brokenStarts_10 : decode cX10_brokenStarts 10 = .ok (.aload_n 0, 1) := by decide +kernel
theorem dX10_brokenStarts_11 : decode cX10_brokenStarts 11 = .ok (.getfield 60, 3) := by decide +kernel
theorem dX10_brokenStarts_14 : decode cX10_brokenStarts 14 = .ok (.getfield 155, 3) := by decide +kernel
theorem dX10_brokenStarts_17 : decode cX10_brokenStarts 17 = .ok (.invokevirtual 309, 3) := by decide +kernel
theorem dX10_brokenStarts_20 : decode cX10_brokenStarts 20 = .ok (.ifCond .ne 6, 3) := by decide +kernel
theorem dX10_brokenStarts_23 : decode cX10_brokenStarts 23 = .ok (.bipush (-2), 2) := by decide +kernel
theorem dX10_brokenStarts_25 : decode cX10_brokenStarts 25 = .ok (.ireturn, 1) := by decide +kernel
theorem dX10_brokenStarts_26 : decode cX10_brokenStarts 26 = .ok (.iload_n 1, 1) := by decide +kernel
theorem dX10_brokenStarts_27 : decode cX10_brokenStarts 27 = .ok (.ifCond .ne 17, 3) := by decide +kernel
theorem dX10_brokenStarts_30 : decode cX10_brokenStarts 30 = .ok (.aload_n 0, 1) := by decide +kernel
theorem dX10_brokenStarts_31 : decode cX10_brokenStarts 31 = .ok (.aload_n 0, 1) := by decide +kernel
theorem dX10_brokenStarts_32 : decode cX10_brokenStarts 32 = .ok (.getfield 60, 3) := by decide +kernel
theorem dX10_brokenStarts_35 : decode cX10_brokenStarts 35 = .ok (.getfield 155, 3) := by decide +kernel
theorem dX10_brokenStarts_38 : decode cX10_brokenStarts 38 = .ok (.invokevirtual 319, 3) := by decide +kernel
theorem dX10_brokenStarts_41 : decode cX10_brokenStarts 41 = .ok (.goto 14, 3) := by decide +kernel
theorem dX10_brokenStarts_44 : decode cX10_brokenStarts 44 = .ok (.aload_n 0, 1) := by decide +kernel
theorem dX10_brokenStarts_45 : decode cX10_brokenStarts 45 = .ok (.aload_n 0, 1) := by decide +kernel
theorem dX10_brokenStarts_46 : decode cX10_brokenStarts 46 = .ok (.getfield 60, 3) := by decide +kernel
theorem dX10_brokenStarts_49 : decode cX10_brokenStarts 49 = .ok (.getfield 155, 3) := by decide +kernel
theorem dX10_brokenStarts_52 : decode cX10_brokenStarts 52 = .ok (.invokevirtual 322, 3) := by decide +kernel
theorem dX10_brokenStarts_55 : decode cX10_brokenStarts 55 = .ok (.ireturn, 1) := by decide +kernel
theorem dX10_byChance_0 : decode cX10_byChance 0 = .ok (.aload_n 0, 1) := by decide +kernel
theorem dX10_byChance_1 : decode cX10_byChance 1 = .ok (.getfield 108, 3) := by decide +kernel
theorem dX10_byChance_4 : decode cX10_byChance 4 = .ok (.ifCond .eq 26, 3) := by decide +kernel
theorem dX10_byChance_7 : decode cX10_byChance 7 = .ok (.iload_n 1, 1) := by decide +kernel
theorem dX10_byChance_8 : decode cX10_byChance 8 = .ok (.iconst 1, 1) := by decide +kernel
theorem dX10_byChance_9 : decode cX10_byChance 9 = .ok (.if_icmp .lt 21, 3) := by decide +kernel
theorem dX10_byChance_12 : decode cX10_byChance 12 = .ok (.iload_n 1, 1) := by decide +kernel
theorem dX10_byChance_13 : decode cX10_byChance 13 = .ok (.sipush 200, 3) := by decide +kernel
theorem dX10_byChance_16 : decode cX10_byChance 16 = .ok (.if_icmp .gt 14, 3) := by decide +kernel
theorem dX10_byChance_19 : decode cX10_byChance 19 = .ok (.iload 4, 2) := by decide +kernel
theorem dX10_byChance_21 : decode cX10_byChance 21 = .ok (.ifCond .lt 9, 3) := by decide +kernel
theorem dX10_byChance_24 : decode cX10_byChance 24 = .ok (.iload 4, 2) := by decide +kernel
theorem dX10_byChance_26 : decode cX10_byChance 26 = .ok (.iconst 3, 1) := by decide +kernel
theorem dX10_byChance_27 : decode cX10_byChance 27 = .ok (.if_icmp .le 6, 3) := by decide +kernel
theorem dX10_byChance_30 : decode cX10_byChance 30 = .ok (.bipush (-2), 2) := by decide +kernel
theorem dX10_byChance_32 : decode cX10_byChance 32 = .ok (.ireturn, 1) := by decide +kernel
theorem dX10_byChance_33 : decode cX10_byChance 33 = .ok (.iconst 0, 1) := by decide +kernel
theorem dX10_byChance_34 : decode cX10_byChance 34 = .ok (.istore 5, 2) := by decide +kernel
theorem dX10_byChance_36 : decode cX10_byChance 36 = .ok (.iconst 0, 1) := by decide +kernel
theorem dX10_byChance_37 : decode cX10_byChance 37 = .ok (.istore 6, 2) := by decide +kernel
theorem dX10_byChance_39 : decode cX10_byChance 39 = .ok (.iconst (-1), 1) := by decide +kernel
theorem dX10_byChance_40 : decode cX10_byChance 40 = .ok (.istore 7, 2) := by decide +kernel
theorem dX10_byChance_42 : decode cX10_byChance 42 = .ok (.iconst 0, 1) := by decide +kernel
theorem dX10_byChance_43 : decode cX10_byChance 43 = .ok (.istore 8, 2) := by decide +kernel
theorem dX10_byChance_45 : decode cX10_byChance 45 = .ok (.iconst 0, 1) := by decide +kernel
theorem dX10_byChance_46 : decode cX10_byChance 46 = .ok (.istore 9, 2) := by decide +kernel
theorem dX10_byChance_48 : decode cX10_byChance 48 = .ok (.iload 9, 2) := by decide +kernel
theorem dX10_byChance_50 : decode cX10_byChance 50 = .ok (.iload_n 1, 1) := by decide +kernel
theorem dX10_byChance_51 : decode cX10_byChance 51 = .ok (.if_icmp .ge 107, 3) := by decide +kernel
theorem dX10_byChance_54 : decode cX10_byChance 54 = .ok (.aload_n 0, 1) := by decide +kernel
theorem dX10_byChance_55 : decode cX10_byChance 55 = .ok (.aload_n 0, 1) := by decide +kernel
theorem dX10_byChance_56 : decode cX10_byChance 56 = .ok (.getfield 23, 3) := by decide +kernel
theorem dX10_byChance_59 : decode cX10_byChance 59 = .ok (.aload_n 0, 1) := by decide +kernel
theorem dX10_byChance_60 : decode cX10_byChance 60 = .ok (.getfield 46, 3) := by decide +kernel
theorem dX10_byChance_63 : decode cX10_byChance 63 = .ok (.lload_n 2, 1) := by decide +kernel
theorem dX10_byChance_64 : decode cX10_byChance 64 = .ok (.iload 9, 2) := by decide +kernel
theorem dX10_byChance_66 : decode cX10_byChance 66 = .ok (.i2l, 1) := by decide +kernel
theorem dX10_byChance_67 : decode cX10_byChance 67 = .ok (.ladd, 1) := by decide +kernel
theorem dX10_byChance_68 : decode cX10_byChance 68 = .ok (.invokevirtual 347, 3) := by decide +kernel
theorem dX10_byChance_71 : decode cX10_byChance 71 = .ok (.iload 6, 2) := by decide +kernel
theorem dX10_byChance_73 : decode cX10_byChance 73 = .ok (.aload_n 0, 1) := by decide +kernel
theorem dX10_byChance_74 : decode cX10_byChance 74 = .ok (.getfield 67, 3) := by decide +kernel
theorem dX10_byChance_77 : decode cX10_byChance 77 = .ok (.getfield 291, 3) := by decide +kernel
theorem dX10_byChance_80 : decode cX10_byChance 80 = .ok (.iadd, 1) := by decide +kernel
theorem dX10_byChance_81 : decode cX10_byChance 81 = .ok (.istore 6, 2) := by decide +kernel
theorem dX10_byChance_83 : decode cX10_byChance 83 = .ok (.aload_n 0, 1) := by decide +kernel
theorem dX10_byChance_84 : decode cX10_byChance 84 = .ok (.getfield 67, 3) := by decide +kernel
theorem dX10_byChance_87 : decode cX10_byChance 87 = .ok (.aload_n 0, 1) := by decide +kernel
theorem dX10_byChance_88 : decode cX10_byChance 88 = .ok (.getfield 23, 3) := by decide +kernel
theorem dX10_byChance_91 : decode cX10_byChance 91 = .ok (.aload_n 0, 1) := by decide +kernel
theorem dX10_byChance_92 : decode cX10_byChance 92 = .ok (.getfield 67, 3) := by decide +kernel
theorem dX10_byChance_95 : decode cX10_byChance 95 = .ok (.getfield 211, 3) := by decide +kernel
theorem dX10_byChance_98 : decode cX10_byChance 98 = .ok (.invokevirtual 276, 3) := by decide +kernel
theorem dX10_byChance_101 : decode cX10_byChance 101 = .ok (.ifCond .eq 41, 3) := by decide +kernel
theorem dX10_byChance_104 : decode cX10_byChance 104 = .ok (.iinc 5 1, 3) := by decide +kernel
theorem dX10_byChance_107 : decode cX10_byChance 107 = .ok (.iload 8, 2) := by decide +kernel
theorem dX10_byChance_109 : decode cX10_byChance 109 = .ok (.aload_n 0, 1) := by decide +kernel
theorem dX10_byChance_110 : decode cX10_byChance 110 = .ok (.getfield 67, 3) := by decide +kernel
theorem dX10_byChance_113 : decode cX10_byChance 113 = .ok (.getfield 211, 3) := by decide +kernel
theorem dX10_byChance_116 : decode cX10_byChance 116 = .ok (.aload_n 0, 1) := by decide +kernel
theorem dX10_byChance_117 : decode cX10_byChance 117 = .ok (.getfield 67, 3) := by decide +kernel
theorem dX10_byChance_120 : decode cX10_byChance 120 = .ok (.aload_n 0, 1) := by decide +kernel
theorem dX10_byChance_121 : decode cX10_byChance 121 = .ok (.getfield 23, 3) := by decide +kernel
theorem dX10_byChance_124 : decode cX10_byChance 124 = .ok (.invokevirtual 280, 3) := by decide +kernel
theorem dX10_byChance_127 : decode cX10_byChance 127 = .ok (.iand, 1) := by decide +kernel
theorem dX10_byChance_128 : decode cX10_byChance 128 = .ok (.ifCond .eq 7, 3) := by decide +kernel
theorem dX10_byChance_131 : decode cX10_byChance 131 = .ok (.iconst 1, 1) := by decide +kernel
theorem dX10_byChance_132 : decode cX10_byChance 132 = .ok (.goto 4, 3) := by decide +kernel
theorem dX10_byChance_135 : decode cX10_byChance 135 = .ok (.iconst 0, 1) := by decide +kernel
theorem dX10_byChance_136 : decode cX10_byChance 136 = .ok (.iadd, 1) := by decide +kernel
theorem dX10_byChance_137 : decode cX10_byChance 137 = .ok (.istore 8, 2) := by decide +kernel
theorem dX10_byChance_139 : decode cX10_byChance 139 = .ok (.goto 13, 3) := by decide +kernel
theorem dX10_byChance_142 : decode cX10_byChance 142 = .ok (.iload 7, 2) := by decide +kernel
theorem dX10_byChance_144 : decode cX10_byChance 144 = .ok (.iconst (-1), 1) := by decide +kernel
theorem dX10_byChance_145 : decode cX10_byChance 145 = .ok (.if_icmp .ne 7, 3) := by decide +kernel
theorem dX10_byChance_148 : decode cX10_byChance 148 = .ok (.iload 9, 2) := by decide +kernel
theorem dX10_byChance_150 : decode cX10_byChance 150 = .ok (.istore 7, 2) := by decide +kernel
theorem dX10_byChance_152 : decode cX10_byChance 152 = .ok (.iinc 9 1, 3) := by decide +kernel
theorem dX10_byChance_155 : decode cX10_byChance 155 = .ok (.goto (-107), 3) := by decide +kernel
theorem dX10_byChance_158 : decode cX10_byChance 158 = .ok (.iload 4, 2) := by decide +kernel
theorem dX10_byChance_160 : decode cX10_byChance 160 = .ok (.tableswitch 37 0 2 #[28, 31, 34], 28) := by decide +kernel
theorem dX10_byChance_188 : decode cX10_byChance 188 = .ok (.iload 5, 2) := by decide +kernel
theorem dX10_byChance_190 : decode cX10_byChance 190 = .ok (.ireturn, 1) := by decide +kernel
theorem dX10_byChance_191 : decode cX10_byChance 191 = .ok (.iload 6, 2) := by decide +kernel
theorem dX10_byChance_193 : decode cX10_byChance 193 = .ok (.ireturn, 1) := by decide +kernel
theorem dX10_byChance_194 : decode cX10_byChance 194 = .ok (.iload 7, 2) := by decide +kernel
theorem dX10_byChance_196 : decode cX10_byChance 196 = .ok (.ireturn, 1) := by decide +kernel
theorem dX10_byChance_197 : decode cX10_byChance 197 = .ok (.iload 8, 2) := by decide +kernel
theorem dX10_byChance_199 : decode cX10_byChance 199 = .ok (.ireturn, 1) := by decide +kernel
theorem dX10_canBreak_0 : decode cX10_canBreak 0 = .ok (.iload_n 1, 1) := by decide +kernel
theorem dX10_canBreak_1 : decode cX10_canBreak 1 = .ok (.ifCond .lt 26, 3) := by decide +kernel
theorem dX10_canBreak_4 : decode cX10_canBreak 4 = .ok (.iload_n 1, 1) := by decide +kernel
theorem dX10_canBreak_5 : decode cX10_canBreak 5 = .ok (.iconst 1, 1) := by decide +kernel
theorem dX10_canBreak_6 : decode cX10_canBreak 6 = .ok (.if_icmp .gt 21, 3) := by decide +kernel
theorem dX10_canBreak_9 : decode cX10_canBreak 9 = .ok (.aload_n 0, 1) := by decide +kernel
theorem dX10_canBreak_10 : decode cX10_canBreak 10 = .ok (.getfield 108, 3) := by decide +kernel
theorem dX10_canBreak_13 : decode cX10_canBreak 13 = .ok (.ifCond .eq 14, 3) := by decide +kernel
theorem dX10_canBreak_16 : decode cX10_canBreak 16 = .ok (.aload_n 0, 1) := by decide +kernel
theorem dX10_canBreak_17 : decode cX10_canBreak 17 = .ok (.getfield 23, 3) := by decide +kernel
theorem dX10_canBreak_20 : decode cX10_canBreak 20 = .ok (.getfield 132, 3) := by decide +kernel
theorem dX10_canBreak_23 : decode cX10_canBreak 23 = .ok (.iconst 5, 1) := by decide +kernel
theorem dX10_canBreak_24 : decode cX10_canBreak 24 = .ok (.if_icmp .le 6, 3) := by decide +kernel
theorem dX10_canBreak_27 : decode cX10_canBreak 27 = .ok (.bipush (-2), 2) := by decide +kernel
theorem dX10_canBreak_29 : decode cX10_canBreak 29 = .ok (.ireturn, 1) := by decide +kernel
theorem dX10_canBreak_30 : decode cX10_canBreak 30 = .ok (.iconst 0, 1) := by decide +kernel
theorem dX10_canBreak_31 : decode cX10_canBreak 31 = .ok (.istore_n 2, 1) := by decide +kernel
theorem dX10_canBreak_32 : decode cX10_canBreak 32 = .ok (.iconst (-1), 1) := by decide +kernel
theorem dX10_canBreak_33 : decode cX10_canBreak 33 = .ok (.istore_n 3, 1) := by decide +kernel
theorem dX10_canBreak_34 : decode cX10_canBreak 34 = .ok (.iconst 0, 1) := by decide +kernel
theorem dX10_canBreak_35 : decode cX10_canBreak 35 = .ok (.istore 4, 2) := by decide +kernel
theorem dX10_canBreak_37 : decode cX10_canBreak 37 = .ok (.iload 4, 2) := by decide +kernel
theorem dX10_canBreak_39 : decode cX10_canBreak 39 = .ok (.aload_n 0, 1) := by decide +kernel
theorem dX10_canBreak_40 : decode cX10_canBreak 40 = .ok (.getfield 23, 3) := by decide +kernel
theorem dX10_canBreak_43 : decode cX10_canBreak 43 = .ok (.invokevirtual 205, 3) := by decide +kernel
theorem dX10_canBreak_46 : decode cX10_canBreak 46 = .ok (.if_icmp .ge 67, 3) := by decide +kernel
theorem dX10_canBreak_49 : decode cX10_canBreak 49 = .ok (.iload 4, 2) := by decide +kernel
theorem dX10_canBreak_51 : decode cX10_canBreak 51 = .ok (.invokestatic 283, 3) := by decide +kernel
theorem dX10_canBreak_54 : decode cX10_canBreak 54 = .ok (.aload_n 0, 1) := by decide +kernel
theorem dX10_canBreak_55 : decode cX10_canBreak 55 = .ok (.getfield 60, 3) := by decide +kernel
theorem dX10_canBreak_58 : decode cX10_canBreak 58 = .ok (.getfield 155, 3) := by decide +kernel
theorem dX10_canBreak_61 : decode cX10_canBreak 61 = .ok (.invokestatic 283, 3) := by decide +kernel
theorem dX10_canBreak_64 : decode cX10_canBreak 64 = .ok (.if_icmp .eq 6, 3) := by decide +kernel
theorem dX10_canBreak_67 : decode cX10_canBreak 67 = .ok (.goto 40, 3) := by decide +kernel
theorem dX10_canBreak_70 : decode cX10_canBreak 70 = .ok (.aload_n 0, 1) := by decide +kernel
theorem dX10_canBreak_71 : decode cX10_canBreak 71 = .ok (.iload 4, 2) := by decide +kernel
theorem dX10_canBreak_73 : decode cX10_canBreak 73 = .ok (.invokevirtual 309, 3) := by decide +kernel
theorem dX10_canBreak_76 : decode cX10_canBreak 76 = .ok (.ifCond .ne 6, 3) := by decide +kernel
theorem dX10_canBreak_79 : decode cX10_canBreak 79 = .ok (.bipush (-2), 2) := by decide +kernel
theorem dX10_canBreak_81 : decode cX10_canBreak 81 = .ok (.ireturn, 1) := by decide +kernel
theorem dX10_canBreak_82 : decode cX10_canBreak 82 = .ok (.aload_n 0, 1) := by decide +kernel
theorem dX10_canBreak_83 : decode cX10_canBreak 83 = .ok (.iload 4, 2) := by decide +kernel
theorem dX10_canBreak_85 : decode cX10_canBreak 85 = .ok (.invokevirtual 322, 3) := by decide +kernel
theorem dX10_canBreak_88 : decode cX10_canBreak 88 = .ok (.iconst (-1), 1) := by decide +kernel
theorem dX10_canBreak_89 : decode cX10_canBreak 89 = .ok (.if_icmp .eq 18, 3) := by decide +kernel
theorem dX10_canBreak_92 : decode cX10_canBreak 92 = .ok (.iinc 2 1, 3) := by decide +kernel
theorem dX10_canBreak_95 : decode cX10_canBreak 95 = .ok (.iload_n 3, 1) := by decide +kernel
theorem dX10_canBreak_96 : decode cX10_canBreak 96 = .ok (.iconst (-1), 1) := by decide +kernel
theorem dX10_canBreak_97 : decode cX10_canBreak 97 = .ok (.if_icmp .ne 8, 3) := by decide +kernel
theorem dX10_canBreak_100 : decode cX10_canBreak 100 = .ok (.iload 4, 2) := by decide +kernel
theorem dX10_canBreak_102 : decode cX10_canBreak 102 = .ok (.goto 4, 3) := by decide +kernel
theorem dX10_canBreak_105 : decode cX10_canBreak 105 = .ok (.iload_n 3, 1) := by decide +kernel
theorem dX10_canBreak_106 : decode cX10_canBreak 106 = .ok (.istore_n 3, 1) := by decide +kernel
theorem dX10_canBreak_107 : decode cX10_canBreak 107 = .ok (.iinc 4 1, 3) := by decide +kernel
theorem dX10_canBreak_110 : decode cX10_canBreak 110 = .ok (.goto (-73), 3) := by decide +kernel
theorem dX10_canBreak_113 : decode cX10_canBreak 113 = .ok (.iload_n 1, 1) := by decide +kernel
theorem dX10_canBreak_114 : decode cX10_canBreak 114 = .ok (.ifCond .ne 7, 3) := by decide +kernel
theorem dX10_canBreak_117 : decode cX10_canBreak 117 = .ok (.iload_n 2, 1) := by decide +kernel
theorem dX10_canBreak_118 : decode cX10_canBreak 118 = .ok (.goto 4, 3) := by decide +kernel
theorem dX10_canBreak_121 : decode cX10_canBreak 121 = .ok (.iload_n 3, 1) := by decide +kernel
theorem dX10_canBreak_122 : decode cX10_canBreak 122 = .ok (.ireturn, 1) := by decide +kernel
theorem dX10_council_0 : decode cX10_council 0 = .ok (.aload_n 0, 1) := by decide +kernel
theorem dX10_council_1 : decode cX10_council 1 = .ok (.getfield 19, 3) := by decide +kernel
theorem dX10_council_4 : decode cX10_council 4 = .ok (.aload_n 0, 1) := by decide +kernel
theorem dX10_council_5 : decode cX10_council 5 = .ok (.getfield 10, 3) := by decide +kernel
theorem dX10_council_8 : decode cX10_council 8 = .ok (.invokevirtual 99, 3) := by decide +kernel
theorem dX10_council_11 : decode cX10_council 11 = .ok (.iconst (-1), 1) := by decide +kernel
theorem dX10_council_12 : decode cX10_council 12 = .ok (.if_icmp .eq 5, 3) := by decide +kernel
theorem dX10_council_15 : decode cX10_council 15 = .ok (.iconst (-1), 1) := by decide +kernel
theorem dX10_council_16 : decode cX10_council 16 = .ok (.ireturn, 1) := by decide +kernel
theorem dX10_council_17 : decode cX10_council 17 = .ok (.aload_n 0, 1) := by decide +kernel
theorem dX10_council_18 : decode cX10_council 18 = .ok (.getfield 10, 3) := by decide +kernel
theorem dX10_council_21 : decode cX10_council 21 = .ok (.iconst 0, 1) := by decide +kernel
theorem dX10_council_22 : decode cX10_council 22 = .ok (.putfield 91, 3) := by decide +kernel
theorem dX10_council_25 : decode cX10_council 25 = .ok (.aload_n 0, 1) := by decide +kernel
theorem dX10_council_26 : decode cX10_council 26 = .ok (.getfield 23, 3) := by decide +kernel
theorem dX10_council_29 : decode cX10_council 29 = .ok (.aload_n 0, 1) := by decide +kernel
theorem dX10_council_30 : decode cX10_council 30 = .ok (.getfield 19, 3) := by decide +kernel
theorem dX10_council_33 : decode cX10_council 33 = .ok (.invokevirtual 104, 3) := by decide +kernel
theorem dX10_council_36 : decode cX10_council 36 = .ok (.aload_n 0, 1) := by decide +kernel
theorem dX10_council_37 : decode cX10_council 37 = .ok (.iconst 1, 1) := by decide +kernel
theorem dX10_council_38 : decode cX10_council 38 = .ok (.putfield 108, 3) := by decide +kernel
theorem dX10_council_41 : decode cX10_council 41 = .ok (.aload_n 0, 1) := by decide +kernel
theorem dX10_council_42 : decode cX10_council 42 = .ok (.iconst 0, 1) := by decide +kernel
theorem dX10_council_43 : decode cX10_council 43 = .ok (.putfield 112, 3) := by decide +kernel
theorem dX10_council_46 : decode cX10_council 46 = .ok (.aload_n 0, 1) := by decide +kernel
theorem dX10_council_47 : decode cX10_council 47 = .ok (.lload_n 1, 1) := by decide +kernel
theorem dX10_council_48 : decode cX10_council 48 = .ok (.putfield 115, 3) := by decide +kernel
theorem dX10_council_51 : decode cX10_council 51 = .ok (.aload_n 0, 1) := by decide +kernel
theorem dX10_council_52 : decode cX10_council 52 = .ok (.getfield 73, 3) := by decide +kernel
theorem dX10_council_55 : decode cX10_council 55 = .ok (.iconst 0, 1) := by decide +kernel
theorem dX10_council_56 : decode cX10_council 56 = .ok (.putfield 119, 3) := by decide +kernel
theorem dX10_council_59 : decode cX10_council 59 = .ok (.aload_n 0, 1) := by decide +kernel
theorem dX10_council_60 : decode cX10_council 60 = .ok (.getfield 60, 3) := by decide +kernel
theorem dX10_council_63 : decode cX10_council 63 = .ok (.aload_n 0, 1) := by decide +kernel
theorem dX10_council_64 : decode cX10_council 64 = .ok (.getfield 23, 3) := by decide +kernel
theorem dX10_council_67 : decode cX10_council 67 = .ok (.getfield 122, 3) := by decide +kernel
theorem dX10_council_70 : decode cX10_council 70 = .ok (.aload_n 0, 1) := by decide +kernel
theorem dX10_council_71 : decode cX10_council 71 = .ok (.getfield 23, 3) := by decide +kernel
theorem dX10_council_74 : decode cX10_council 74 = .ok (.getfield 125, 3) := by decide +kernel
theorem dX10_council_77 : decode cX10_council 77 = .ok (.lload_n 1, 1) := by decide +kernel
theorem dX10_council_78 : decode cX10_council 78 = .ok (.invokevirtual 128, 3) := by decide +kernel
theorem dX10_council_81 : decode cX10_council 81 = .ok (.aload_n 0, 1) := by decide +kernel
theorem dX10_council_82 : decode cX10_council 82 = .ok (.getfield 23, 3) := by decide +kernel
theorem dX10_council_85 : decode cX10_council 85 = .ok (.getfield 132, 3) := by decide +kernel
theorem dX10_council_88 : decode cX10_council 88 = .ok (.ireturn, 1) := by decide +kernel
theorem dX10_count_0 : decode cX10_count 0 = .ok (.iload_n 1, 1) := by decide +kernel
theorem dX10_count_1 : decode cX10_count 1 = .ok (.tableswitch 51 0 2 #[27, 35, 43], 27) := by decide +kernel
theorem dX10_count_28 : decode cX10_count 28 = .ok (.aload_n 0, 1) := by decide +kernel
theorem dX10_count_29 : decode cX10_count 29 = .ok (.getfield 10, 3) := by decide +kernel
theorem dX10_count_32 : decode cX10_count 32 = .ok (.getfield 91, 3) := by decide +kernel
theorem dX10_count_35 : decode cX10_count 35 = .ok (.ireturn, 1) := by decide +kernel
theorem dX10_count_36 : decode cX10_count 36 = .ok (.aload_n 0, 1) := by decide +kernel
theorem dX10_count_37 : decode cX10_count 37 = .ok (.getfield 73, 3) := by decide +kernel
theorem dX10_count_40 : decode cX10_count 40 = .ok (.getfield 119, 3) := by decide +kernel
theorem dX10_count_43 : decode cX10_count 43 = .ok (.ireturn, 1) := by decide +kernel
theorem dX10_count_44 : decode cX10_count 44 = .ok (.aload_n 0, 1) := by decide +kernel
theorem dX10_count_45 : decode cX10_count 45 = .ok (.getfield 60, 3) := by decide +kernel
theorem dX10_count_48 : decode cX10_count 48 = .ok (.getfield 159, 3) := by decide +kernel
theorem dX10_count_51 : decode cX10_count 51 = .ok (.ireturn, 1) := by decide +kernel
theorem dX10_count_52 : decode cX10_count 52 = .ok (.iconst (-1), 1) := by decide +kernel
theorem dX10_count_53 : decode cX10_count 53 = .ok (.ireturn, 1) := by decide +kernel
theorem dX10_end_0 : decode cX10_end 0 = .ok (.iload_n 1, 1) := by decide +kernel
theorem dX10_end_1 : decode cX10_end 1 = .ok (.ifCond .lt 14, 3) := by decide +kernel
theorem dX10_end_4 : decode cX10_end 4 = .ok (.iload_n 1, 1) := by decide +kernel
theorem dX10_end_5 : decode cX10_end 5 = .ok (.aload_n 0, 1) := by decide +kernel
theorem dX10_end_6 : decode cX10_end 6 = .ok (.getfield 10, 3) := by decide +kernel
theorem dX10_end_9 : decode cX10_end 9 = .ok (.getfield 91, 3) := by decide +kernel
theorem dX10_end_12 : decode cX10_end 12 = .ok (.if_icmp .le 5, 3) := by decide +kernel
theorem dX10_end_15 : decode cX10_end 15 = .ok (.iconst 0, 1) := by decide +kernel
theorem dX10_end_16 : decode cX10_end 16 = .ok (.ireturn, 1) := by decide +kernel
theorem dX10_end_17 : decode cX10_end 17 = .ok (.aload_n 0, 1) := by decide +kernel
theorem dX10_end_18 : decode cX10_end 18 = .ok (.getfield 10, 3) := by decide +kernel
theorem dX10_end_21 : decode cX10_end 21 = .ok (.iload_n 1, 1) := by decide +kernel
theorem dX10_end_22 : decode cX10_end 22 = .ok (.putfield 91, 3) := by decide +kernel
theorem dX10_end_25 : decode cX10_end 25 = .ok (.iconst 1, 1) := by decide +kernel
theorem dX10_end_26 : decode cX10_end 26 = .ok (.ireturn, 1) := by decide +kernel
theorem dX10_falseOnes_0 : decode cX10_falseOnes 0 = .ok (.aload_n 0, 1) := by decide +kernel
theorem dX10_falseOnes_1 : decode cX10_falseOnes 1 = .ok (.iload_n 1, 1) := by decide +kernel
theorem dX10_falseOnes_2 : decode cX10_falseOnes 2 = .ok (.aload_n 0, 1) := by decide +kernel
theorem dX10_falseOnes_3 : decode cX10_falseOnes 3 = .ok (.getfield 23, 3) := by decide +kernel
theorem dX10_falseOnes_6 : decode cX10_falseOnes 6 = .ok (.invokevirtual 205, 3) := by decide +kernel
theorem dX10_falseOnes_9 : decode cX10_falseOnes 9 = .ok (.iconst 1, 1) := by decide +kernel
theorem dX10_falseOnes_10 : decode cX10_falseOnes 10 = .ok (.isub, 1) := by decide +kernel
theorem dX10_falseOnes_11 : decode cX10_falseOnes 11 = .ok (.invokevirtual 208, 3) := by decide +kernel
theorem dX10_falseOnes_14 : decode cX10_falseOnes 14 = .ok (.istore_n 2, 1) := by decide +kernel
theorem dX10_falseOnes_15 : decode cX10_falseOnes 15 = .ok (.iload_n 2, 1) := by decide +kernel
theorem dX10_falseOnes_16 : decode cX10_falseOnes 16 = .ok (.iconst (-1), 1) := by decide +kernel
theorem dX10_falseOnes_17 : decode cX10_falseOnes 17 = .ok (.if_icmp .eq 9, 3) := by decide +kernel
theorem dX10_falseOnes_20 : decode cX10_falseOnes 20 = .ok (.aload_n 0, 1) := by decide +kernel
theorem dX10_falseOnes_21 : decode cX10_falseOnes 21 = .ok (.iload_n 2, 1) := by decide +kernel
theorem dX10_falseOnes_22 : decode cX10_falseOnes 22 = .ok (.invokevirtual 198, 3) := by decide +kernel
theorem dX10_falseOnes_25 : decode cX10_falseOnes 25 = .ok (.ireturn, 1) := by decide +kernel
theorem dX10_falseOnes_26 : decode cX10_falseOnes 26 = .ok (.aload_n 0, 1) := by decide +kernel
theorem dX10_falseOnes_27 : decode cX10_falseOnes 27 = .ok (.getfield 60, 3) := by decide +kernel
theorem dX10_falseOnes_30 : decode cX10_falseOnes 30 = .ok (.getfield 155, 3) := by decide +kernel
theorem dX10_falseOnes_33 : decode cX10_falseOnes 33 = .ok (.istore_n 3, 1) := by decide +kernel
theorem dX10_falseOnes_34 : decode cX10_falseOnes 34 = .ok (.aload_n 0, 1) := by decide +kernel
theorem dX10_falseOnes_35 : decode cX10_falseOnes 35 = .ok (.getfield 73, 3) := by decide +kernel
theorem dX10_falseOnes_38 : decode cX10_falseOnes 38 = .ok (.aload_n 0, 1) := by decide +kernel
theorem dX10_falseOnes_39 : decode cX10_falseOnes 39 = .ok (.getfield 60, 3) := by decide +kernel
theorem dX10_falseOnes_42 : decode cX10_falseOnes 42 = .ok (.invokevirtual 186, 3) := by decide +kernel
theorem dX10_falseOnes_45 : decode cX10_falseOnes 45 = .ok (.aload_n 0, 1) := by decide +kernel
theorem dX10_falseOnes_46 : decode cX10_falseOnes 46 = .ok (.getfield 60, 3) := by decide +kernel
theorem dX10_falseOnes_49 : decode cX10_falseOnes 49 = .ok (.iload_n 1, 1) := by decide +kernel
theorem dX10_falseOnes_50 : decode cX10_falseOnes 50 = .ok (.putfield 155, 3) := by decide +kernel
theorem dX10_falseOnes_53 : decode cX10_falseOnes 53 = .ok (.aload_n 0, 1) := by decide +kernel
theorem dX10_falseOnes_54 : decode cX10_falseOnes 54 = .ok (.getfield 60, 3) := by decide +kernel
theorem dX10_falseOnes_57 : decode cX10_falseOnes 57 = .ok (.invokevirtual 214, 3) := by decide +kernel
theorem dX10_falseOnes_60 : decode cX10_falseOnes 60 = .ok (.iload_n 3, 1) := by decide +kernel
theorem dX10_falseOnes_61 : decode cX10_falseOnes 61 = .ok (.ireturn, 1) := by decide +kernel
theorem dX10_fault_0 : decode cX10_fault 0 = .ok (.iload_n 1, 1) := by decide +kernel
theorem dX10_fault_1 : decode cX10_fault 1 = .ok (.lookupswitch 51 #[(0, 27), (1, 39)], 27) := by decide +kernel
theorem dX10_fault_28 : decode cX10_fault 28 = .ok (.aload_n 0, 1) := by decide +kernel
theorem dX10_fault_29 : decode cX10_fault 29 = .ok (.getfield 19, 3) := by decide +kernel
theorem dX10_fault_32 : decode cX10_fault 32 = .ok (.aload_n 0, 1) := by decide +kernel
theorem dX10_fault_33 : decode cX10_fault 33 = .ok (.getfield 10, 3) := by decide +kernel
theorem dX10_fault_36 : decode cX10_fault 36 = .ok (.invokevirtual 99, 3) := by decide +kernel
theorem dX10_fault_39 : decode cX10_fault 39 = .ok (.ireturn, 1) := by decide +kernel
theorem dX10_fault_40 : decode cX10_fault 40 = .ok (.aload_n 0, 1) := by decide +kernel
theorem dX10_fault_41 : decode cX10_fault 41 = .ok (.getfield 32, 3) := by decide +kernel
theorem dX10_fault_44 : decode cX10_fault 44 = .ok (.aload_n 0, 1) := by decide +kernel
theorem dX10_fault_45 : decode cX10_fault 45 = .ok (.getfield 10, 3) := by decide +kernel
theorem dX10_fault_48 : decode cX10_fault 48 = .ok (.invokevirtual 103, 3) := by decide +kernel
theorem dX10_fault_51 : decode cX10_fault 51 = .ok (.ireturn, 1) := by decide +kernel
theorem dX10_fault_52 : decode cX10_fault 52 = .ok (.bipush (-2), 2) := by decide +kernel
theorem dX10_fault_54 : decode cX10_fault 54 = .ok (.ireturn, 1) := by decide +kernel
theorem dX10_feed_0 : decode cX10_feed 0 = .ok (.aload_n 0, 1) := by decide +kernel
theorem dX10_feed_1 : decode cX10_feed 1 = .ok (.getfield 10, 3) := by decide +kernel
theorem dX10_feed_4 : decode cX10_feed 4 = .ok (.getfield 91, 3) := by decide +kernel
theorem dX10_feed_7 : decode cX10_feed 7 = .ok (.sipush 500, 3) := by decide +kernel
theorem dX10_feed_10 : decode cX10_feed 10 = .ok (.if_icmp .le 5, 3) := by decide +kernel
theorem dX10_feed_13 : decode cX10_feed 13 = .ok (.iconst (-1), 1) := by decide +kernel
theorem dX10_feed_14 : decode cX10_feed 14 = .ok (.ireturn, 1) := by decide +kernel
theorem dX10_feed_15 : decode cX10_feed 15 = .ok (.aload_n 0, 1) := by decide +kernel
theorem dX10_feed_16 : decode cX10_feed 16 = .ok (.getfield 10, 3) := by decide +kernel
theorem dX10_feed_19 : decode cX10_feed 19 = .ok (.iload_n 1, 1) := by decide +kernel
theorem dX10_feed_20 : decode cX10_feed 20 = .ok (.invokevirtual 95, 3) := by decide +kernel
theorem dX10_feed_23 : decode cX10_feed 23 = .ok (.aload_n 0, 1) := by decide +kernel
theorem dX10_feed_24 : decode cX10_feed 24 = .ok (.getfield 10, 3) := by decide +kernel
theorem dX10_feed_27 : decode cX10_feed 27 = .ok (.iload_n 2, 1) := by decide +kernel
theorem dX10_feed_28 : decode cX10_feed 28 = .ok (.invokevirtual 95, 3) := by decide +kernel
theorem dX10_feed_31 : decode cX10_feed 31 = .ok (.aload_n 0, 1) := by decide +kernel
theorem dX10_feed_32 : decode cX10_feed 32 = .ok (.getfield 10, 3) := by decide +kernel
theorem dX10_feed_35 : decode cX10_feed 35 = .ok (.iload_n 3, 1) := by decide +kernel
theorem dX10_feed_36 : decode cX10_feed 36 = .ok (.invokevirtual 95, 3) := by decide +kernel
theorem dX10_feed_39 : decode cX10_feed 39 = .ok (.aload_n 0, 1) := by decide +kernel
theorem dX10_feed_40 : decode cX10_feed 40 = .ok (.getfield 10, 3) := by decide +kernel
theorem dX10_feed_43 : decode cX10_feed 43 = .ok (.iload 4, 2) := by decide +kernel
theorem dX10_feed_45 : decode cX10_feed 45 = .ok (.invokevirtual 95, 3) := by decide +kernel
theorem dX10_feed_48 : decode cX10_feed 48 = .ok (.aload_n 0, 1) := by decide +kernel
theorem dX10_feed_49 : decode cX10_feed 49 = .ok (.getfield 10, 3) := by decide +kernel
theorem dX10_feed_52 : decode cX10_feed 52 = .ok (.iload 5, 2) := by decide +kernel
theorem dX10_feed_54 : decode cX10_feed 54 = .ok (.invokevirtual 95, 3) := by decide +kernel
theorem dX10_feed_57 : decode cX10_feed 57 = .ok (.aload_n 0, 1) := by decide +kernel
theorem dX10_feed_58 : decode cX10_feed 58 = .ok (.getfield 10, 3) := by decide +kernel
theorem dX10_feed_61 : decode cX10_feed 61 = .ok (.getfield 91, 3) := by decide +kernel
theorem dX10_feed_64 : decode cX10_feed 64 = .ok (.ireturn, 1) := by decide +kernel
theorem dX10_free_0 : decode cX10_free 0 = .ok (.aload_n 0, 1) := by decide +kernel
theorem dX10_free_1 : decode cX10_free 1 = .ok (.getfield 108, 3) := by decide +kernel
theorem dX10_free_4 : decode cX10_free 4 = .ok (.ifCond .eq 17, 3) := by decide +kernel
theorem dX10_free_7 : decode cX10_free 7 = .ok (.aload_n 0, 1) := by decide +kernel
theorem dX10_free_8 : decode cX10_free 8 = .ok (.aload_n 0, 1) := by decide +kernel
theorem dX10_free_9 : decode cX10_free 9 = .ok (.getfield 60, 3) := by decide +kernel
theorem dX10_free_12 : decode cX10_free 12 = .ok (.getfield 155, 3) := by decide +kernel
theorem dX10_free_15 : decode cX10_free 15 = .ok (.invokevirtual 306, 3) := by decide +kernel
theorem dX10_free_18 : decode cX10_free 18 = .ok (.goto 4, 3) := by decide +kernel
theorem dX10_free_21 : decode cX10_free 21 = .ok (.iconst (-1), 1) := by decide +kernel
theorem dX10_free_22 : decode cX10_free 22 = .ok (.ireturn, 1) := by decide +kernel
theorem dX10_greatest_0 : decode cX10_greatest 0 = .ok (.iload_n 1, 1) := by decide +kernel
theorem dX10_greatest_1 : decode cX10_greatest 1 = .ok (.ifCond .lt 19, 3) := by decide +kernel
theorem dX10_greatest_4 : decode cX10_greatest 4 = .ok (.iload_n 1, 1) := by decide +kernel
theorem dX10_greatest_5 : decode cX10_greatest 5 = .ok (.iconst 1, 1) := by decide +kernel
theorem dX10_greatest_6 : decode cX10_greatest 6 = .ok (.if_icmp .gt 14, 3) := by decide +kernel
theorem dX10_greatest_9 : decode cX10_greatest 9 = .ok (.iload_n 2, 1) := by decide +kernel
theorem dX10_greatest_10 : decode cX10_greatest 10 = .ok (.iconst 1, 1) := by decide +kernel
theorem dX10_greatest_11 : decode cX10_greatest 11 = .ok (.if_icmp .lt 9, 3) := by decide +kernel
theorem dX10_greatest_14 : decode cX10_greatest 14 = .ok (.iload_n 2, 1) := by decide +kernel
theorem dX10_greatest_15 : decode cX10_greatest 15 = .ok (.bipush 100, 2) := by decide +kernel
theorem dX10_greatest_17 : decode cX10_greatest 17 = .ok (.if_icmp .le 5, 3) := by decide +kernel
theorem dX10_greatest_20 : decode cX10_greatest 20 = .ok (.iconst (-1), 1) := by decide +kernel
theorem dX10_greatest_21 : decode cX10_greatest 21 = .ok (.ireturn, 1) := by decide +kernel
theorem dX10_greatest_22 : decode cX10_greatest 22 = .ok (.iload_n 1, 1) := by decide +kernel
theorem dX10_greatest_23 : decode cX10_greatest 23 = .ok (.iload_n 2, 1) := by decide +kernel
theorem dX10_greatest_24 : decode cX10_greatest 24 = .ok (.invokestatic 303, 3) := by decide +kernel
theorem dX10_greatest_27 : decode cX10_greatest 27 = .ok (.ireturn, 1) := by decide +kernel
theorem dX10_greatestBound_0 : decode cX10_greatestBound 0 = .ok (.iload_n 0, 1) := by decide +kernel
theorem dX10_greatestBound_1 : decode cX10_greatestBound 1 = .ok (.ifCond .ne 11, 3) := by decide +kernel
theorem dX10_greatestBound_4 : decode cX10_greatestBound 4 = .ok (.iload_n 1, 1) := by decide +kernel
theorem dX10_greatestBound_5 : decode cX10_greatestBound 5 = .ok (.iconst 1, 1) := by decide +kernel
theorem dX10_greatestBound_6 : decode cX10_greatestBound 6 = .ok (.isub, 1) := by decide +kernel
theorem dX10_greatestBound_7 : decode cX10_greatestBound 7 = .ok (.iconst 3, 1) := by decide +kernel
theorem dX10_greatestBound_8 : decode cX10_greatestBound 8 = .ok (.idiv, 1) := by decide +kernel
theorem dX10_greatestBound_9 : decode cX10_greatestBound 9 = .ok (.goto 8, 3) := by decide +kernel
theorem dX10_greatestBound_12 : decode cX10_greatestBound 12 = .ok (.iload_n 1, 1) := by decide +kernel
theorem dX10_greatestBound_13 : decode cX10_greatestBound 13 = .ok (.iconst 1, 1) := by decide +kernel
theorem dX10_greatestBound_14 : decode cX10_greatestBound 14 = .ok (.isub, 1) := by decide +kernel
theorem dX10_greatestBound_15 : decode cX10_greatestBound 15 = .ok (.iconst 4, 1) := by decide +kernel
theorem dX10_greatestBound_16 : decode cX10_greatestBound 16 = .ok (.idiv, 1) := by decide +kernel
theorem dX10_greatestBound_17 : decode cX10_greatestBound 17 = .ok (.ireturn, 1) := by decide +kernel
theorem dX10_heard_0 : decode cX10_heard 0 = .ok (.aload_n 0, 1) := by decide +kernel
theorem dX10_heard_1 : decode cX10_heard 1 = .ok (.iload_n 3, 1) := by decide +kernel
theorem dX10_heard_2 : decode cX10_heard 2 = .ok (.invokevirtual 217, 3) := by decide +kernel
theorem dX10_heard_5 : decode cX10_heard 5 = .ok (.ifCond .eq 21, 3) := by decide +kernel
theorem dX10_heard_8 : decode cX10_heard 8 = .ok (.aload_n 0, 1) := by decide +kernel
theorem dX10_heard_9 : decode cX10_heard 9 = .ok (.iload 4, 2) := by decide +kernel
theorem dX10_heard_11 : decode cX10_heard 11 = .ok (.invokevirtual 217, 3) := by decide +kernel
theorem dX10_heard_14 : decode cX10_heard 14 = .ok (.ifCond .eq 12, 3) := by decide +kernel
theorem dX10_heard_17 : decode cX10_heard 17 = .ok (.aload_n 0, 1) := by decide +kernel
theorem dX10_heard_18 : decode cX10_heard 18 = .ok (.iload_n 1, 1) := by decide +kernel
theorem dX10_heard_19 : decode cX10_heard 19 = .ok (.iload_n 2, 1) := by decide +kernel
theorem dX10_heard_20 : decode cX10_heard 20 = .ok (.invokevirtual 221, 3) := by decide +kernel
theorem dX10_heard_23 : decode cX10_heard 23 = .ok (.ifCond .ne 5, 3) := by decide +kernel
theorem dX10_heard_26 : decode cX10_heard 26 = .ok (.iconst (-1), 1) := by decide +kernel
theorem dX10_heard_27 : decode cX10_heard 27 = .ok (.ireturn, 1) := by decide +kernel
theorem dX10_heard_28 : decode cX10_heard 28 = .ok (.iload_n 2, 1) := by decide +kernel
theorem dX10_heard_29 : decode cX10_heard 29 = .ok (.aload_n 0, 1) := by decide +kernel
theorem dX10_heard_30 : decode cX10_heard 30 = .ok (.getfield 23, 3) := by decide +kernel
theorem dX10_heard_33 : decode cX10_heard 33 = .ok (.invokevirtual 169, 3) := by decide +kernel
theorem dX10_heard_36 : decode cX10_heard 36 = .ok (.iconst 1, 1) := by decide +kernel
theorem dX10_heard_37 : decode cX10_heard 37 = .ok (.isub, 1) := by decide +kernel
theorem dX10_heard_38 : decode cX10_heard 38 = .ok (.if_icmp .ne 19, 3) := by decide +kernel
theorem dX10_heard_41 : decode cX10_heard 41 = .ok (.iload_n 3, 1) := by decide +kernel
theorem dX10_heard_42 : decode cX10_heard 42 = .ok (.aload_n 0, 1) := by decide +kernel
theorem dX10_heard_43 : decode cX10_heard 43 = .ok (.getfield 23, 3) := by decide +kernel
theorem dX10_heard_46 : decode cX10_heard 46 = .ok (.iload_n 1, 1) := by decide +kernel
theorem dX10_heard_47 : decode cX10_heard 47 = .ok (.invokevirtual 225, 3) := by decide +kernel
theorem dX10_heard_50 : decode cX10_heard 50 = .ok (.if_icmp .eq 7, 3) := by decide +kernel
theorem dX10_heard_53 : decode cX10_heard 53 = .ok (.iconst 1, 1) := by decide +kernel
theorem dX10_heard_54 : decode cX10_heard 54 = .ok (.goto 4, 3) := by decide +kernel
theorem dX10_heard_57 : decode cX10_heard 57 = .ok (.iconst 0, 1) := by decide +kernel
theorem dX10_heard_58 : decode cX10_heard 58 = .ok (.istore 5, 2) := by decide +kernel
theorem dX10_heard_60 : decode cX10_heard 60 = .ok (.iload 5, 2) := by decide +kernel
theorem dX10_heard_62 : decode cX10_heard 62 = .ok (.ifCond .ne 12, 3) := by decide +kernel
theorem dX10_heard_65 : decode cX10_heard 65 = .ok (.aload_n 0, 1) := by decide +kernel
theorem dX10_heard_66 : decode cX10_heard 66 = .ok (.iload_n 1, 1) := by decide +kernel
theorem dX10_heard_67 : decode cX10_heard 67 = .ok (.iload_n 2, 1) := by decide +kernel
theorem dX10_heard_68 : decode cX10_heard 68 = .ok (.invokevirtual 228, 3) := by decide +kernel
theorem dX10_heard_71 : decode cX10_heard 71 = .ok (.ifCond .ne 7, 3) := by decide +kernel
theorem dX10_heard_74 : decode cX10_heard 74 = .ok (.iconst (-1), 1) := by decide +kernel
theorem dX10_heard_75 : decode cX10_heard 75 = .ok (.goto 15, 3) := by decide +kernel
theorem dX10_heard_78 : decode cX10_heard 78 = .ok (.aload_n 0, 1) := by decide +kernel
theorem dX10_heard_79 : decode cX10_heard 79 = .ok (.getfield 60, 3) := by decide +kernel
theorem dX10_heard_82 : decode cX10_heard 82 = .ok (.iload_n 1, 1) := by decide +kernel
theorem dX10_heard_83 : decode cX10_heard 83 = .ok (.iload_n 2, 1) := by decide +kernel
theorem dX10_heard_84 : decode cX10_heard 84 = .ok (.iload_n 3, 1) := by decide +kernel
theorem dX10_heard_85 : decode cX10_heard 85 = .ok (.iload 4, 2) := by decide +kernel
theorem dX10_heard_87 : decode cX10_heard 87 = .ok (.invokevirtual 231, 3) := by decide +kernel
theorem dX10_heard_90 : decode cX10_heard 90 = .ok (.ireturn, 1) := by decide +kernel
theorem dX10_held_0 : decode cX10_held 0 = .ok (.aload_n 0, 1) := by decide +kernel
theorem dX10_held_1 : decode cX10_held 1 = .ok (.aload_n 0, 1) := by decide +kernel
theorem dX10_held_2 : decode cX10_held 2 = .ok (.getfield 60, 3) := by decide +kernel
theorem dX10_held_5 : decode cX10_held 5 = .ok (.getfield 155, 3) := by decide +kernel
theorem dX10_held_8 : decode cX10_held 8 = .ok (.invokevirtual 309, 3) := by decide +kernel
theorem dX10_held_11 : decode cX10_held 11 = .ok (.ifCond .ne 6, 3) := by decide +kernel
theorem dX10_held_14 : decode cX10_held 14 = .ok (.bipush (-2), 2) := by decide +kernel
theorem dX10_held_16 : decode cX10_held 16 = .ok (.ireturn, 1) := by decide +kernel
theorem dX10_held_17 : decode cX10_held 17 = .ok (.aload_n 0, 1) := by decide +kernel
theorem dX10_held_18 : decode cX10_held 18 = .ok (.iload_n 2, 1) := by decide +kernel
theorem dX10_held_19 : decode cX10_held 19 = .ok (.invokevirtual 217, 3) := by decide +kernel
theorem dX10_held_22 : decode cX10_held 22 = .ok (.ifCond .eq 24, 3) := by decide +kernel
theorem dX10_held_25 : decode cX10_held 25 = .ok (.iload_n 1, 1) := by decide +kernel
theorem dX10_held_26 : decode cX10_held 26 = .ok (.ifCond .lt 20, 3) := by decide +kernel
theorem dX10_held_29 : decode cX10_held 29 = .ok (.iload_n 1, 1) := by decide +kernel
theorem dX10_held_30 : decode cX10_held 30 = .ok (.iconst 1, 1) := by decide +kernel
theorem dX10_held_31 : decode cX10_held 31 = .ok (.aload_n 0, 1) := by decide +kernel
theorem dX10_held_32 : decode cX10_held 32 = .ok (.aload_n 0, 1) := by decide +kernel
theorem dX10_held_33 : decode cX10_held 33 = .ok (.getfield 60, 3) := by decide +kernel
theorem dX10_held_36 : decode cX10_held 36 = .ok (.getfield 155, 3) := by decide +kernel
theorem dX10_held_39 : decode cX10_held 39 = .ok (.invokevirtual 306, 3) := by decide +kernel
theorem dX10_held_42 : decode cX10_held 42 = .ok (.ishl, 1) := by decide +kernel
theorem dX10_held_43 : decode cX10_held 43 = .ok (.if_icmp .lt 5, 3) := by decide +kernel
theorem dX10_held_46 : decode cX10_held 46 = .ok (.iconst (-1), 1) := by decide +kernel
theorem dX10_held_47 : decode cX10_held 47 = .ok (.ireturn, 1) := by decide +kernel
theorem dX10_held_48 : decode cX10_held 48 = .ok (.aload_n 0, 1) := by decide +kernel
theorem dX10_held_49 : decode cX10_held 49 = .ok (.getfield 53, 3) := by decide +kernel
theorem dX10_held_52 : decode cX10_held 52 = .ok (.iload_n 1, 1) := by decide +kernel
theorem dX10_held_53 : decode cX10_held 53 = .ok (.putfield 341, 3) := by decide +kernel
theorem dX10_held_56 : decode cX10_held 56 = .ok (.aload_n 0, 1) := by decide +kernel
theorem dX10_held_57 : decode cX10_held 57 = .ok (.getfield 53, 3) := by decide +kernel
theorem dX10_held_60 : decode cX10_held 60 = .ok (.iconst 0, 1) := by decide +kernel
theorem dX10_held_61 : decode cX10_held 61 = .ok (.putfield 344, 3) := by decide +kernel
theorem dX10_held_64 : decode cX10_held 64 = .ok (.aload_n 0, 1) := by decide +kernel
theorem dX10_held_65 : decode cX10_held 65 = .ok (.aload_n 0, 1) := by decide +kernel
theorem dX10_held_66 : decode cX10_held 66 = .ok (.getfield 23, 3) := by decide +kernel
theorem dX10_held_69 : decode cX10_held 69 = .ok (.aload_n 0, 1) := by decide +kernel
theorem dX10_held_70 : decode cX10_held 70 = .ok (.getfield 53, 3) := by decide +kernel
theorem dX10_held_73 : decode cX10_held 73 = .ok (.aload_n 0, 1) := by decide +kernel
theorem dX10_held_74 : decode cX10_held 74 = .ok (.getfield 115, 3) := by decide +kernel
theorem dX10_held_77 : decode cX10_held 77 = .ok (.invokevirtual 347, 3) := by decide +kernel
theorem dX10_held_80 : decode cX10_held 80 = .ok (.aload_n 0, 1) := by decide +kernel
theorem dX10_held_81 : decode cX10_held 81 = .ok (.getfield 67, 3) := by decide +kernel
theorem dX10_held_84 : decode cX10_held 84 = .ok (.getfield 211, 3) := by decide +kernel
theorem dX10_held_87 : decode cX10_held 87 = .ok (.iload_n 2, 1) := by decide +kernel
theorem dX10_held_88 : decode cX10_held 88 = .ok (.invokestatic 235, 3) := by decide +kernel
theorem dX10_held_91 : decode cX10_held 91 = .ok (.ireturn, 1) := by decide +kernel
theorem dX10_image_0 : decode cX10_image 0 = .ok (.aload_n 0, 1) := by decide +kernel
theorem dX10_image_1 : decode cX10_image 1 = .ok (.getfield 108, 3) := by decide +kernel
theorem dX10_image_4 : decode cX10_image 4 = .ok (.ifCond .ne 5, 3) := by decide +kernel
theorem dX10_image_7 : decode cX10_image 7 = .ok (.iconst (-1), 1) := by decide +kernel
theorem dX10_image_8 : decode cX10_image 8 = .ok (.ireturn, 1) := by decide +kernel
theorem dX10_image_9 : decode cX10_image 9 = .ok (.aload_n 0, 1) := by decide +kernel
theorem dX10_image_10 : decode cX10_image 10 = .ok (.getfield 64, 3) := by decide +kernel
theorem dX10_image_13 : decode cX10_image 13 = .ok (.aload_n 0, 1) := by decide +kernel
theorem dX10_image_14 : decode cX10_image 14 = .ok (.getfield 60, 3) := by decide +kernel
theorem dX10_image_17 : decode cX10_image 17 = .ok (.invokevirtual 384, 3) := by decide +kernel
theorem dX10_image_20 : decode cX10_image 20 = .ok (.aload_n 0, 1) := by decide +kernel
theorem dX10_image_21 : decode cX10_image 21 = .ok (.iconst 1, 1) := by decide +kernel
theorem dX10_image_22 : decode cX10_image 22 = .ok (.putfield 112, 3) := by decide +kernel
theorem dX10_image_25 : decode cX10_image 25 = .ok (.aload_n 0, 1) := by decide +kernel
theorem dX10_image_26 : decode cX10_image 26 = .ok (.getfield 60, 3) := by decide +kernel
theorem dX10_image_29 : decode cX10_image 29 = .ok (.getfield 159, 3) := by decide +kernel
theorem dX10_image_32 : decode cX10_image 32 = .ok (.ireturn, 1) := by decide +kernel
theorem dX10_init_0 : decode cX10_init 0 = .ok (.aload_n 0, 1) := by decide +kernel
theorem dX10_init_1 : decode cX10_init 1 = .ok (.invokespecial 1, 3) := by decide +kernel
theorem dX10_init_4 : decode cX10_init 4 = .ok (.aload_n 0, 1) := by decide +kernel
theorem dX10_init_5 : decode cX10_init 5 = .ok (.new 7, 3) := by decide +kernel
theorem dX10_init_8 : decode cX10_init 8 = .ok (.dup, 1) := by decide +kernel
theorem dX10_init_9 : decode cX10_init 9 = .ok (.invokespecial 9, 3) := by decide +kernel
theorem dX10_init_12 : decode cX10_init 12 = .ok (.putfield 10, 3) := by decide +kernel
theorem dX10_init_15 : decode cX10_init 15 = .ok (.aload_n 0, 1) := by decide +kernel
theorem dX10_init_16 : decode cX10_init 16 = .ok (.new 16, 3) := by decide +kernel
theorem dX10_init_19 : decode cX10_init 19 = .ok (.dup, 1) := by decide +kernel
theorem dX10_init_20 : decode cX10_init 20 = .ok (.invokespecial 18, 3) := by decide +kernel
theorem dX10_init_23 : decode cX10_init 23 = .ok (.putfield 19, 3) := by decide +kernel
theorem dX10_init_26 : decode cX10_init 26 = .ok (.aload_n 0, 1) := by decide +kernel
theorem dX10_init_27 : decode cX10_init 27 = .ok (.new 16, 3) := by decide +kernel
theorem dX10_init_30 : decode cX10_init 30 = .ok (.dup, 1) := by decide +kernel
theorem dX10_init_31 : decode cX10_init 31 = .ok (.invokespecial 18, 3) := by decide +kernel
theorem dX10_init_34 : decode cX10_init 34 = .ok (.putfield 23, 3) := by decide +kernel
theorem dX10_init_37 : decode cX10_init 37 = .ok (.aload_n 0, 1) := by decide +kernel
theorem dX10_init_38 : decode cX10_init 38 = .ok (.new 16, 3) := by decide +kernel
theorem dX10_init_41 : decode cX10_init 41 = .ok (.dup, 1) := by decide +kernel
theorem dX10_init_42 : decode cX10_init 42 = .ok (.invokespecial 18, 3) := by decide +kernel
theorem dX10_init_45 : decode cX10_init 45 = .ok (.putfield 26, 3) := by decide +kernel
theorem dX10_init_48 : decode cX10_init 48 = .ok (.aload_n 0, 1) := by decide +kernel
theorem dX10_init_49 : decode cX10_init 49 = .ok (.new 29, 3) := by decide +kernel
theorem dX10_init_52 : decode cX10_init 52 = .ok (.dup, 1) := by decide +kernel
theorem dX10_init_53 : decode cX10_init 53 = .ok (.invokespecial 31, 3) := by decide +kernel
theorem dX10_init_56 : decode cX10_init 56 = .ok (.putfield 32, 3) := by decide +kernel
theorem dX10_init_59 : decode cX10_init 59 = .ok (.aload_n 0, 1) := by decide +kernel
theorem dX10_init_60 : decode cX10_init 60 = .ok (.new 36, 3) := by decide +kernel
theorem dX10_init_63 : decode cX10_init 63 = .ok (.dup, 1) := by decide +kernel
theorem dX10_init_64 : decode cX10_init 64 = .ok (.invokespecial 38, 3) := by decide +kernel
theorem dX10_init_67 : decode cX10_init 67 = .ok (.putfield 39, 3) := by decide +kernel
theorem dX10_init_70 : decode cX10_init 70 = .ok (.aload_n 0, 1) := by decide +kernel
theorem dX10_init_71 : decode cX10_init 71 = .ok (.new 43, 3) := by decide +kernel
theorem dX10_init_74 : decode cX10_init 74 = .ok (.dup, 1) := by decide +kernel
theorem dX10_init_75 : decode cX10_init 75 = .ok (.invokespecial 45, 3) := by decide +kernel
theorem dX10_init_78 : decode cX10_init 78 = .ok (.putfield 46, 3) := by decide +kernel
theorem dX10_init_81 : decode cX10_init 81 = .ok (.aload_n 0, 1) := by decide +kernel
theorem dX10_init_82 : decode cX10_init 82 = .ok (.new 50, 3) := by decide +kernel
theorem dX10_init_85 : decode cX10_init 85 = .ok (.dup, 1) := by decide +kernel
theorem dX10_init_86 : decode cX10_init 86 = .ok (.invokespecial 52, 3) := by decide +kernel
theorem dX10_init_89 : decode cX10_init 89 = .ok (.putfield 53, 3) := by decide +kernel
theorem dX10_init_92 : decode cX10_init 92 = .ok (.aload_n 0, 1) := by decide +kernel
theorem dX10_init_93 : decode cX10_init 93 = .ok (.new 57, 3) := by decide +kernel
theorem dX10_init_96 : decode cX10_init 96 = .ok (.dup, 1) := by decide +kernel
theorem dX10_init_97 : decode cX10_init 97 = .ok (.invokespecial 59, 3) := by decide +kernel
theorem dX10_init_100 : decode cX10_init 100 = .ok (.putfield 60, 3) := by decide +kernel
theorem dX10_init_103 : decode cX10_init 103 = .ok (.aload_n 0, 1) := by decide +kernel
theorem dX10_init_104 : decode cX10_init 104 = .ok (.new 57, 3) := by decide +kernel
theorem dX10_init_107 : decode cX10_init 107 = .ok (.dup, 1) := by decide +kernel
theorem dX10_init_108 : decode cX10_init 108 = .ok (.invokespecial 59, 3) := by decide +kernel
theorem dX10_init_111 : decode cX10_init 111 = .ok (.putfield 64, 3) := by decide +kernel
theorem dX10_init_114 : decode cX10_init 114 = .ok (.aload_n 0, 1) := by decide +kernel
theorem dX10_init_115 : decode cX10_init 115 = .ok (.new 57, 3) := by decide +kernel
theorem dX10_init_118 : decode cX10_init 118 = .ok (.dup, 1) := by decide +kernel
theorem dX10_init_119 : decode cX10_init 119 = .ok (.invokespecial 59, 3) := by decide +kernel
theorem dX10_init_122 : decode cX10_init 122 = .ok (.putfield 67, 3) := by decide +kernel
theorem dX10_init_125 : decode cX10_init 125 = .ok (.aload_n 0, 1) := by decide +kernel
theorem dX10_init_126 : decode cX10_init 126 = .ok (.new 70, 3) := by decide +kernel
theorem dX10_init_129 : decode cX10_init 129 = .ok (.dup, 1) := by decide +kernel
theorem dX10_init_130 : decode cX10_init 130 = .ok (.invokespecial 72, 3) := by decide +kernel
theorem dX10_init_133 : decode cX10_init 133 = .ok (.putfield 73, 3) := by decide +kernel
theorem dX10_init_136 : decode cX10_init 136 = .ok (.aload_n 0, 1) := by decide +kernel
theorem dX10_init_137 : decode cX10_init 137 = .ok (.new 77, 3) := by decide +kernel
theorem dX10_init_140 : decode cX10_init 140 = .ok (.dup, 1) := by decide +kernel
theorem dX10_init_141 : decode cX10_init 141 = .ok (.invokespecial 79, 3) := by decide +kernel
theorem dX10_init_144 : decode cX10_init 144 = .ok (.putfield 80, 3) := by decide +kernel
theorem dX10_init_147 : decode cX10_init 147 = .ok (.aload_n 0, 1) := by decide +kernel
theorem dX10_init_148 : decode cX10_init 148 = .ok (.new 7, 3) := by decide +kernel
theorem dX10_init_151 : decode cX10_init 151 = .ok (.dup, 1) := by decide +kernel
theorem dX10_init_152 : decode cX10_init 152 = .ok (.invokespecial 9, 3) := by decide +kernel
theorem dX10_init_155 : decode cX10_init 155 = .ok (.putfield 84, 3) := by decide +kernel
theorem dX10_init_158 : decode cX10_init 158 = .ok (.aload_n 0, 1) := by decide +kernel
theorem dX10_init_159 : decode cX10_init 159 = .ok (.iconst 5, 1) := by decide +kernel
theorem dX10_init_160 : decode cX10_init 160 = .ok (.newarray .int, 2) := by decide +kernel
theorem dX10_init_162 : decode cX10_init 162 = .ok (.putfield 87, 3) := by decide +kernel
theorem dX10_init_165 : decode cX10_init 165 = .ok (.return_, 1) := by decide +kernel
theorem dX10_isAsked_0 : decode cX10_isAsked 0 = .ok (.aload_n 0, 1) := by decide +kernel
theorem dX10_isAsked_1 : decode cX10_isAsked 1 = .ok (.getfield 108, 3) := by decide +kernel
theorem dX10_isAsked_4 : decode cX10_isAsked 4 = .ok (.ifCond .eq 17, 3) := by decide +kernel
theorem dX10_isAsked_7 : decode cX10_isAsked 7 = .ok (.aload_n 0, 1) := by decide +kernel
theorem dX10_isAsked_8 : decode cX10_isAsked 8 = .ok (.iload_n 1, 1) := by decide +kernel
theorem dX10_isAsked_9 : decode cX10_isAsked 9 = .ok (.invokevirtual 306, 3) := by decide +kernel
theorem dX10_isAsked_12 : decode cX10_isAsked 12 = .ok (.bipush 12, 2) := by decide +kernel
theorem dX10_isAsked_14 : decode cX10_isAsked 14 = .ok (.if_icmp .gt 7, 3) := by decide +kernel
theorem dX10_isAsked_17 : decode cX10_isAsked 17 = .ok (.iconst 1, 1) := by decide +kernel
theorem dX10_isAsked_18 : decode cX10_isAsked 18 = .ok (.goto 4, 3) := by decide +kernel
theorem dX10_isAsked_21 : decode cX10_isAsked 21 = .ok (.iconst 0, 1) := by decide +kernel
theorem dX10_isAsked_22 : decode cX10_isAsked 22 = .ok (.ireturn, 1) := by decide +kernel
theorem dX10_isOver_0 : decode cX10_isOver 0 = .ok (.iload_n 1, 1) := by decide +kernel
theorem dX10_isOver_1 : decode cX10_isOver 1 = .ok (.ifCond .lt 15, 3) := by decide +kernel
theorem dX10_isOver_4 : decode cX10_isOver 4 = .ok (.iload_n 1, 1) := by decide +kernel
theorem dX10_isOver_5 : decode cX10_isOver 5 = .ok (.aload_n 0, 1) := by decide +kernel
theorem dX10_isOver_6 : decode cX10_isOver 6 = .ok (.invokevirtual 273, 3) := by decide +kernel
theorem dX10_isOver_9 : decode cX10_isOver 9 = .ok (.if_icmp .ge 7, 3) := by decide +kernel
theorem dX10_isOver_12 : decode cX10_isOver 12 = .ok (.iconst 1, 1) := by decide +kernel
theorem dX10_isOver_13 : decode cX10_isOver 13 = .ok (.goto 4, 3) := by decide +kernel
theorem dX10_isOver_16 : decode cX10_isOver 16 = .ok (.iconst 0, 1) := by decide +kernel
theorem dX10_isOver_17 : decode cX10_isOver 17 = .ok (.ireturn, 1) := by decide +kernel
theorem dX10_isPeer_0 : decode cX10_isPeer 0 = .ok (.aload_n 0, 1) := by decide +kernel
theorem dX10_isPeer_1 : decode cX10_isPeer 1 = .ok (.getfield 108, 3) := by decide +kernel
theorem dX10_isPeer_4 : decode cX10_isPeer 4 = .ok (.ifCond .eq 22, 3) := by decide +kernel
theorem dX10_isPeer_7 : decode cX10_isPeer 7 = .ok (.iload_n 1, 1) := by decide +kernel
theorem dX10_isPeer_8 : decode cX10_isPeer 8 = .ok (.ifCond .lt 18, 3) := by decide +kernel
theorem dX10_isPeer_11 : decode cX10_isPeer 11 = .ok (.iload_n 1, 1) := by decide +kernel
theorem dX10_isPeer_12 : decode cX10_isPeer 12 = .ok (.aload_n 0, 1) := by decide +kernel
theorem dX10_isPeer_13 : decode cX10_isPeer 13 = .ok (.getfield 23, 3) := by decide +kernel
theorem dX10_isPeer_16 : decode cX10_isPeer 16 = .ok (.getfield 132, 3) := by decide +kernel
theorem dX10_isPeer_19 : decode cX10_isPeer 19 = .ok (.if_icmp .ge 7, 3) := by decide +kernel
theorem dX10_isPeer_22 : decode cX10_isPeer 22 = .ok (.iconst 1, 1) := by decide +kernel
theorem dX10_isPeer_23 : decode cX10_isPeer 23 = .ok (.goto 4, 3) := by decide +kernel
theorem dX10_isPeer_26 : decode cX10_isPeer 26 = .ok (.iconst 0, 1) := by decide +kernel
theorem dX10_isPeer_27 : decode cX10_isPeer 27 = .ok (.ireturn, 1) := by decide +kernel
theorem dX10_letters_0 : decode cX10_letters 0 = .ok (.aload_n 0, 1) := by decide +kernel
theorem dX10_letters_1 : decode cX10_letters 1 = .ok (.getfield 108, 3) := by decide +kernel
theorem dX10_letters_4 : decode cX10_letters 4 = .ok (.ifCond .ne 5, 3) := by decide +kernel
theorem dX10_letters_7 : decode cX10_letters 7 = .ok (.iconst (-1), 1) := by decide +kernel
theorem dX10_letters_8 : decode cX10_letters 8 = .ok (.ireturn, 1) := by decide +kernel
theorem dX10_letters_9 : decode cX10_letters 9 = .ok (.aload_n 0, 1) := by decide +kernel
theorem dX10_letters_10 : decode cX10_letters 10 = .ok (.invokevirtual 273, 3) := by decide +kernel
theorem dX10_letters_13 : decode cX10_letters 13 = .ok (.istore_n 2, 1) := by decide +kernel
theorem dX10_letters_14 : decode cX10_letters 14 = .ok (.iload_n 1, 1) := by decide +kernel
theorem dX10_letters_15 : decode cX10_letters 15 = .ok (.tableswitch 73 0 3 #[29, 37, 45, 53], 29) := by decide +kernel
theorem dX10_letters_44 : decode cX10_letters 44 = .ok (.aload_n 0, 1) := by decide +kernel
theorem dX10_letters_45 : decode cX10_letters 45 = .ok (.getfield 60, 3) := by decide +kernel
theorem dX10_letters_48 : decode cX10_letters 48 = .ok (.getfield 291, 3) := by decide +kernel
theorem dX10_letters_51 : decode cX10_letters 51 = .ok (.ireturn, 1) := by decide +kernel
theorem dX10_letters_52 : decode cX10_letters 52 = .ok (.aload_n 0, 1) := by decide +kernel
theorem dX10_letters_53 : decode cX10_letters 53 = .ok (.getfield 60, 3) := by decide +kernel
theorem dX10_letters_56 : decode cX10_letters 56 = .ok (.getfield 294, 3) := by decide +kernel
theorem dX10_letters_59 : decode cX10_letters 59 = .ok (.ireturn, 1) := by decide +kernel
theorem dX10_letters_60 : decode cX10_letters 60 = .ok (.aload_n 0, 1) := by decide +kernel
theorem dX10_letters_61 : decode cX10_letters 61 = .ok (.getfield 23, 3) := by decide +kernel
theorem dX10_letters_64 : decode cX10_letters 64 = .ok (.invokevirtual 297, 3) := by decide +kernel
theorem dX10_letters_67 : decode cX10_letters 67 = .ok (.ireturn, 1) := by decide +kernel
theorem dX10_letters_68 : decode cX10_letters 68 = .ok (.iload_n 2, 1) := by decide +kernel
theorem dX10_letters_69 : decode cX10_letters 69 = .ok (.ifCond .le 17, 3) := by decide +kernel
theorem dX10_letters_72 : decode cX10_letters 72 = .ok (.aload_n 0, 1) := by decide +kernel
theorem dX10_letters_73 : decode cX10_letters 73 = .ok (.getfield 60, 3) := by decide +kernel
theorem dX10_letters_76 : decode cX10_letters 76 = .ok (.getfield 300, 3) := by decide +kernel
theorem dX10_letters_79 : decode cX10_letters 79 = .ok (.iload_n 2, 1) := by decide +kernel
theorem dX10_letters_80 : decode cX10_letters 80 = .ok (.iconst 1, 1) := by decide +kernel
theorem dX10_letters_81 : decode cX10_letters 81 = .ok (.isub, 1) := by decide +kernel
theorem dX10_letters_82 : decode cX10_letters 82 = .ok (.iaload, 1) := by decide +kernel
theorem dX10_letters_83 : decode cX10_letters 83 = .ok (.goto 4, 3) := by decide +kernel
theorem dX10_letters_86 : decode cX10_letters 86 = .ok (.iconst 0, 1) := by decide +kernel
theorem dX10_letters_87 : decode cX10_letters 87 = .ok (.ireturn, 1) := by decide +kernel
theorem dX10_letters_88 : decode cX10_letters 88 = .ok (.iconst (-1), 1) := by decide +kernel
theorem dX10_letters_89 : decode cX10_letters 89 = .ok (.ireturn, 1) := by decide +kernel
theorem dX10_most_0 : decode cX10_most 0 = .ok (.aload_n 0, 1) := by decide +kernel
theorem dX10_most_1 : decode cX10_most 1 = .ok (.getfield 108, 3) := by decide +kernel
theorem dX10_most_4 : decode cX10_most 4 = .ok (.ifCond .ne 5, 3) := by decide +kernel
theorem dX10_most_7 : decode cX10_most 7 = .ok (.iconst (-1), 1) := by decide +kernel
theorem dX10_most_8 : decode cX10_most 8 = .ok (.ireturn, 1) := by decide +kernel
theorem dX10_most_9 : decode cX10_most 9 = .ok (.iload_n 1, 1) := by decide +kernel
theorem dX10_most_10 : decode cX10_most 10 = .ok (.tableswitch 59 0 4 #[34, 39, 44, 49, 54], 34) := by decide +kernel
theorem dX10_most_44 : decode cX10_most 44 = .ok (.aload_n 0, 1) := by decide +kernel
theorem dX10_most_45 : decode cX10_most 45 = .ok (.invokevirtual 386, 3) := by decide +kernel
theorem dX10_most_48 : decode cX10_most 48 = .ok (.ireturn, 1) := by decide +kernel
theorem dX10_most_49 : decode cX10_most 49 = .ok (.aload_n 0, 1) := by decide +kernel
theorem dX10_most_50 : decode cX10_most 50 = .ok (.invokevirtual 389, 3) := by decide +kernel
theorem dX10_most_53 : decode cX10_most 53 = .ok (.ireturn, 1) := by decide +kernel
theorem dX10_most_54 : decode cX10_most 54 = .ok (.aload_n 0, 1) := by decide +kernel
theorem dX10_most_55 : decode cX10_most 55 = .ok (.invokevirtual 392, 3) := by decide +kernel
theorem dX10_most_58 : decode cX10_most 58 = .ok (.ireturn, 1) := by decide +kernel
theorem dX10_most_59 : decode cX10_most 59 = .ok (.aload_n 0, 1) := by decide +kernel
theorem dX10_most_60 : decode cX10_most 60 = .ok (.invokevirtual 395, 3) := by decide +kernel
theorem dX10_most_63 : decode cX10_most 63 = .ok (.ireturn, 1) := by decide +kernel
theorem dX10_most_64 : decode cX10_most 64 = .ok (.aload_n 0, 1) := by decide +kernel
theorem dX10_most_65 : decode cX10_most 65 = .ok (.invokevirtual 398, 3) := by decide +kernel
theorem dX10_most_68 : decode cX10_most 68 = .ok (.ireturn, 1) := by decide +kernel
theorem dX10_most_69 : decode cX10_most 69 = .ok (.iconst (-1), 1) := by decide +kernel
theorem dX10_most_70 : decode cX10_most 70 = .ok (.ireturn, 1) := by decide +kernel
theorem dX10_needed_0 : decode cX10_needed 0 = .ok (.iconst 1, 1) := by decide +kernel
theorem dX10_needed_1 : decode cX10_needed 1 = .ok (.istore_n 1, 1) := by decide +kernel
theorem dX10_needed_2 : decode cX10_needed 2 = .ok (.aload_n 0, 1) := by decide +kernel
theorem dX10_needed_3 : decode cX10_needed 3 = .ok (.getfield 108, 3) := by decide +kernel
theorem dX10_needed_6 : decode cX10_needed 6 = .ok (.ifCond .eq 75, 3) := by decide +kernel
theorem dX10_needed_9 : decode cX10_needed 9 = .ok (.iload_n 1, 1) := by decide +kernel
theorem dX10_needed_10 : decode cX10_needed 10 = .ok (.bipush 6, 2) := by decide +kernel
theorem dX10_needed_12 : decode cX10_needed 12 = .ok (.if_icmp .gt 69, 3) := by decide +kernel
theorem dX10_needed_15 : decode cX10_needed 15 = .ok (.aload_n 0, 1) := by decide +kernel
theorem dX10_needed_16 : decode cX10_needed 16 = .ok (.getfield 23, 3) := by decide +kernel
theorem dX10_needed_19 : decode cX10_needed 19 = .ok (.aload_n 0, 1) := by decide +kernel
theorem dX10_needed_20 : decode cX10_needed 20 = .ok (.getfield 60, 3) := by decide +kernel
theorem dX10_needed_23 : decode cX10_needed 23 = .ok (.getfield 155, 3) := by decide +kernel
theorem dX10_needed_26 : decode cX10_needed 26 = .ok (.iload_n 1, 1) := by decide +kernel
theorem dX10_needed_27 : decode cX10_needed 27 = .ok (.invokevirtual 351, 3) := by decide +kernel
theorem dX10_needed_30 : decode cX10_needed 30 = .ok (.bipush 12, 2) := by decide +kernel
theorem dX10_needed_32 : decode cX10_needed 32 = .ok (.if_icmp .le 5, 3) := by decide +kernel
theorem dX10_needed_35 : decode cX10_needed 35 = .ok (.iconst (-1), 1) := by decide +kernel
theorem dX10_needed_36 : decode cX10_needed 36 = .ok (.ireturn, 1) := by decide +kernel
theorem dX10_needed_37 : decode cX10_needed 37 = .ok (.aload_n 0, 1) := by decide +kernel
theorem dX10_needed_38 : decode cX10_needed 38 = .ok (.getfield 80, 3) := by decide +kernel
theorem dX10_needed_41 : decode cX10_needed 41 = .ok (.aload_n 0, 1) := by decide +kernel
theorem dX10_needed_42 : decode cX10_needed 42 = .ok (.getfield 23, 3) := by decide +kernel
theorem dX10_needed_45 : decode cX10_needed 45 = .ok (.aload_n 0, 1) := by decide +kernel
theorem dX10_needed_46 : decode cX10_needed 46 = .ok (.getfield 60, 3) := by decide +kernel
theorem dX10_needed_49 : decode cX10_needed 49 = .ok (.getfield 155, 3) := by decide +kernel
theorem dX10_needed_52 : decode cX10_needed 52 = .ok (.iload_n 1, 1) := by decide +kernel
theorem dX10_needed_53 : decode cX10_needed 53 = .ok (.invokevirtual 312, 3) := by decide +kernel
theorem dX10_needed_56 : decode cX10_needed 56 = .ok (.aload_n 0, 1) := by decide +kernel
theorem dX10_needed_57 : decode cX10_needed 57 = .ok (.getfield 80, 3) := by decide +kernel
theorem dX10_needed_60 : decode cX10_needed 60 = .ok (.aload_n 0, 1) := by decide +kernel
theorem dX10_needed_61 : decode cX10_needed 61 = .ok (.getfield 60, 3) := by decide +kernel
theorem dX10_needed_64 : decode cX10_needed 64 = .ok (.getfield 154, 3) := by decide +kernel
theorem dX10_needed_67 : decode cX10_needed 67 = .ok (.invokevirtual 335, 3) := by decide +kernel
theorem dX10_needed_70 : decode cX10_needed 70 = .ok (.ifCond .ne 5, 3) := by decide +kernel
theorem dX10_needed_73 : decode cX10_needed 73 = .ok (.iload_n 1, 1) := by decide +kernel
theorem dX10_needed_74 : decode cX10_needed 74 = .ok (.ireturn, 1) := by decide +kernel
theorem dX10_needed_75 : decode cX10_needed 75 = .ok (.iinc 1 1, 3) := by decide +kernel
theorem dX10_needed_78 : decode cX10_needed 78 = .ok (.goto (-76), 3) := by decide +kernel
theorem dX10_needed_81 : decode cX10_needed 81 = .ok (.iconst (-1), 1) := by decide +kernel
theorem dX10_needed_82 : decode cX10_needed 82 = .ok (.ireturn, 1) := by decide +kernel
theorem dX10_peer_0 : decode cX10_peer 0 = .ok (.aload_n 0, 1) := by decide +kernel
theorem dX10_peer_1 : decode cX10_peer 1 = .ok (.iload_n 1, 1) := by decide +kernel
theorem dX10_peer_2 : decode cX10_peer 2 = .ok (.invokevirtual 217, 3) := by decide +kernel
theorem dX10_peer_5 : decode cX10_peer 5 = .ok (.ifCond .ne 5, 3) := by decide +kernel
theorem dX10_peer_8 : decode cX10_peer 8 = .ok (.iconst (-1), 1) := by decide +kernel
theorem dX10_peer_9 : decode cX10_peer 9 = .ok (.ireturn, 1) := by decide +kernel
theorem dX10_peer_10 : decode cX10_peer 10 = .ok (.iload_n 2, 1) := by decide +kernel
theorem dX10_peer_11 : decode cX10_peer 11 = .ok (.tableswitch 74 0 3 #[29, 41, 50, 62], 29) := by decide +kernel
theorem dX10_peer_40 : decode cX10_peer 40 = .ok (.aload_n 0, 1) := by decide +kernel
theorem dX10_peer_41 : decode cX10_peer 41 = .ok (.getfield 60, 3) := by decide +kernel
theorem dX10_peer_44 : decode cX10_peer 44 = .ok (.getfield 211, 3) := by decide +kernel
theorem dX10_peer_47 : decode cX10_peer 47 = .ok (.iload_n 1, 1) := by decide +kernel
theorem dX10_peer_48 : decode cX10_peer 48 = .ok (.invokestatic 235, 3) := by decide +kernel
theorem dX10_peer_51 : decode cX10_peer 51 = .ok (.ireturn, 1) := by decide +kernel
theorem dX10_peer_52 : decode cX10_peer 52 = .ok (.aload_n 0, 1) := by decide +kernel
theorem dX10_peer_53 : decode cX10_peer 53 = .ok (.getfield 60, 3) := by decide +kernel
theorem dX10_peer_56 : decode cX10_peer 56 = .ok (.iload_n 1, 1) := by decide +kernel
theorem dX10_peer_57 : decode cX10_peer 57 = .ok (.invokevirtual 238, 3) := by decide +kernel
theorem dX10_peer_60 : decode cX10_peer 60 = .ok (.ireturn, 1) := by decide +kernel
theorem dX10_peer_61 : decode cX10_peer 61 = .ok (.aload_n 0, 1) := by decide +kernel
theorem dX10_peer_62 : decode cX10_peer 62 = .ok (.getfield 60, 3) := by decide +kernel
theorem dX10_peer_65 : decode cX10_peer 65 = .ok (.getfield 155, 3) := by decide +kernel
theorem dX10_peer_68 : decode cX10_peer 68 = .ok (.iload_n 1, 1) := by decide +kernel
theorem dX10_peer_69 : decode cX10_peer 69 = .ok (.invokestatic 235, 3) := by decide +kernel
theorem dX10_peer_72 : decode cX10_peer 72 = .ok (.ireturn, 1) := by decide +kernel
theorem dX10_peer_73 : decode cX10_peer 73 = .ok (.aload_n 0, 1) := by decide +kernel
theorem dX10_peer_74 : decode cX10_peer 74 = .ok (.getfield 60, 3) := by decide +kernel
theorem dX10_peer_77 : decode cX10_peer 77 = .ok (.getfield 154, 3) := by decide +kernel
theorem dX10_peer_80 : decode cX10_peer 80 = .ok (.iload_n 1, 1) := by decide +kernel
theorem dX10_peer_81 : decode cX10_peer 81 = .ok (.invokestatic 235, 3) := by decide +kernel
theorem dX10_peer_84 : decode cX10_peer 84 = .ok (.ireturn, 1) := by decide +kernel
theorem dX10_peer_85 : decode cX10_peer 85 = .ok (.iconst (-1), 1) := by decide +kernel
theorem dX10_peer_86 : decode cX10_peer 86 = .ok (.ireturn, 1) := by decide +kernel
theorem dX10_phasesOver_0 : decode cX10_phasesOver 0 = .ok (.aload_n 0, 1) := by decide +kernel
theorem dX10_phasesOver_1 : decode cX10_phasesOver 1 = .ok (.getfield 108, 3) := by decide +kernel
theorem dX10_phasesOver_4 : decode cX10_phasesOver 4 = .ok (.ifCond .eq 25, 3) := by decide +kernel
theorem dX10_phasesOver_7 : decode cX10_phasesOver 7 = .ok (.aload_n 0, 1) := by decide +kernel
theorem dX10_phasesOver_8 : decode cX10_phasesOver 8 = .ok (.getfield 23, 3) := by decide +kernel
theorem dX10_phasesOver_11 : decode cX10_phasesOver 11 = .ok (.aload_n 0, 1) := by decide +kernel
theorem dX10_phasesOver_12 : decode cX10_phasesOver 12 = .ok (.getfield 60, 3) := by decide +kernel
theorem dX10_phasesOver_15 : decode cX10_phasesOver 15 = .ok (.getfield 159, 3) := by decide +kernel
theorem dX10_phasesOver_18 : decode cX10_phasesOver 18 = .ok (.invokevirtual 162, 3) := by decide +kernel
theorem dX10_phasesOver_21 : decode cX10_phasesOver 21 = .ok (.bipush 6, 2) := by decide +kernel
theorem dX10_phasesOver_23 : decode cX10_phasesOver 23 = .ok (.invokestatic 401, 3) := by decide +kernel
theorem dX10_phasesOver_26 : decode cX10_phasesOver 26 = .ok (.goto 4, 3) := by decide +kernel
theorem dX10_phasesOver_29 : decode cX10_phasesOver 29 = .ok (.iconst 0, 1) := by decide +kernel
theorem dX10_phasesOver_30 : decode cX10_phasesOver 30 = .ok (.ireturn, 1) := by decide +kernel
theorem dX10_plan_0 : decode cX10_plan 0 = .ok (.aload_n 0, 1) := by decide +kernel
theorem dX10_plan_1 : decode cX10_plan 1 = .ok (.getfield 32, 3) := by decide +kernel
theorem dX10_plan_4 : decode cX10_plan 4 = .ok (.aload_n 0, 1) := by decide +kernel
theorem dX10_plan_5 : decode cX10_plan 5 = .ok (.getfield 10, 3) := by decide +kernel
theorem dX10_plan_8 : decode cX10_plan 8 = .ok (.invokevirtual 103, 3) := by decide +kernel
theorem dX10_plan_11 : decode cX10_plan 11 = .ok (.iconst (-1), 1) := by decide +kernel
theorem dX10_plan_12 : decode cX10_plan 12 = .ok (.if_icmp .eq 5, 3) := by decide +kernel
theorem dX10_plan_15 : decode cX10_plan 15 = .ok (.iconst (-1), 1) := by decide +kernel
theorem dX10_plan_16 : decode cX10_plan 16 = .ok (.ireturn, 1) := by decide +kernel
theorem dX10_plan_17 : decode cX10_plan 17 = .ok (.aload_n 0, 1) := by decide +kernel
theorem dX10_plan_18 : decode cX10_plan 18 = .ok (.getfield 10, 3) := by decide +kernel
theorem dX10_plan_21 : decode cX10_plan 21 = .ok (.iconst 0, 1) := by decide +kernel
theorem dX10_plan_22 : decode cX10_plan 22 = .ok (.putfield 91, 3) := by decide +kernel
theorem dX10_plan_25 : decode cX10_plan 25 = .ok (.aload_n 0, 1) := by decide +kernel
theorem dX10_plan_26 : decode cX10_plan 26 = .ok (.getfield 39, 3) := by decide +kernel
theorem dX10_plan_29 : decode cX10_plan 29 = .ok (.getfield 135, 3) := by decide +kernel
theorem dX10_plan_32 : decode cX10_plan 32 = .ok (.aload_n 0, 1) := by decide +kernel
theorem dX10_plan_33 : decode cX10_plan 33 = .ok (.getfield 32, 3) := by decide +kernel
theorem dX10_plan_36 : decode cX10_plan 36 = .ok (.invokevirtual 138, 3) := by decide +kernel
theorem dX10_plan_39 : decode cX10_plan 39 = .ok (.aload_n 0, 1) := by decide +kernel
theorem dX10_plan_40 : decode cX10_plan 40 = .ok (.getfield 39, 3) := by decide +kernel
theorem dX10_plan_43 : decode cX10_plan 43 = .ok (.getfield 135, 3) := by decide +kernel
theorem dX10_plan_46 : decode cX10_plan 46 = .ok (.getfield 141, 3) := by decide +kernel
theorem dX10_plan_49 : decode cX10_plan 49 = .ok (.ireturn, 1) := by decide +kernel
theorem dX10_refuse_0 : decode cX10_refuse 0 = .ok (.aload_n 0, 1) := by decide +kernel
theorem dX10_refuse_1 : decode cX10_refuse 1 = .ok (.getfield 87, 3) := by decide +kernel
theorem dX10_refuse_4 : decode cX10_refuse 4 = .ok (.iload_n 1, 1) := by decide +kernel
theorem dX10_refuse_5 : decode cX10_refuse 5 = .ok (.dup2, 1) := by decide +kernel
theorem dX10_refuse_6 : decode cX10_refuse 6 = .ok (.iaload, 1) := by decide +kernel
theorem dX10_refuse_7 : decode cX10_refuse 7 = .ok (.iconst 1, 1) := by decide +kernel
theorem dX10_refuse_8 : decode cX10_refuse 8 = .ok (.iadd, 1) := by decide +kernel
theorem dX10_refuse_9 : decode cX10_refuse 9 = .ok (.iastore, 1) := by decide +kernel
theorem dX10_refuse_10 : decode cX10_refuse 10 = .ok (.iconst (-1), 1) := by decide +kernel
theorem dX10_refuse_11 : decode cX10_refuse 11 = .ok (.ireturn, 1) := by decide +kernel
theorem dX10_round_0 : decode cX10_round 0 = .ok (.aload_n 0, 1) := by decide +kernel
theorem dX10_round_1 : decode cX10_round 1 = .ok (.invokevirtual 183, 3) := by decide +kernel
theorem dX10_round_4 : decode cX10_round 4 = .ok (.iconst 1, 1) := by decide +kernel
theorem dX10_round_5 : decode cX10_round 5 = .ok (.if_icmp .ge 5, 3) := by decide +kernel
theorem dX10_round_8 : decode cX10_round 8 = .ok (.iconst (-1), 1) := by decide +kernel
theorem dX10_round_9 : decode cX10_round 9 = .ok (.ireturn, 1) := by decide +kernel
theorem dX10_round_10 : decode cX10_round 10 = .ok (.aload_n 0, 1) := by decide +kernel
theorem dX10_round_11 : decode cX10_round 11 = .ok (.getfield 73, 3) := by decide +kernel
theorem dX10_round_14 : decode cX10_round 14 = .ok (.aload_n 0, 1) := by decide +kernel
theorem dX10_round_15 : decode cX10_round 15 = .ok (.getfield 60, 3) := by decide +kernel
theorem dX10_round_18 : decode cX10_round 18 = .ok (.invokevirtual 186, 3) := by decide +kernel
theorem dX10_round_21 : decode cX10_round 21 = .ok (.aload_n 0, 1) := by decide +kernel
theorem dX10_round_22 : decode cX10_round 22 = .ok (.getfield 60, 3) := by decide +kernel
theorem dX10_round_25 : decode cX10_round 25 = .ok (.aload_n 0, 1) := by decide +kernel
theorem dX10_round_26 : decode cX10_round 26 = .ok (.getfield 23, 3) := by decide +kernel
theorem dX10_round_29 : decode cX10_round 29 = .ok (.aload_n 0, 1) := by decide +kernel
theorem dX10_round_30 : decode cX10_round 30 = .ok (.getfield 39, 3) := by decide +kernel
theorem dX10_round_33 : decode cX10_round 33 = .ok (.invokevirtual 190, 3) := by decide +kernel
theorem dX10_round_36 : decode cX10_round 36 = .ok (.aload_n 0, 1) := by decide +kernel
theorem dX10_round_37 : decode cX10_round 37 = .ok (.getfield 60, 3) := by decide +kernel
theorem dX10_round_40 : decode cX10_round 40 = .ok (.getfield 159, 3) := by decide +kernel
theorem dX10_round_43 : decode cX10_round 43 = .ok (.ireturn, 1) := by decide +kernel
theorem dX10_roundsLeft_0 : decode cX10_roundsLeft 0 = .ok (.aload_n 0, 1) := by decide +kernel
theorem dX10_roundsLeft_1 : decode cX10_roundsLeft 1 = .ok (.getfield 108, 3) := by decide +kernel
theorem dX10_roundsLeft_4 : decode cX10_roundsLeft 4 = .ok (.ifCond .eq 21, 3) := by decide +kernel
theorem dX10_roundsLeft_7 : decode cX10_roundsLeft 7 = .ok (.aload_n 0, 1) := by decide +kernel
theorem dX10_roundsLeft_8 : decode cX10_roundsLeft 8 = .ok (.getfield 23, 3) := by decide +kernel
theorem dX10_roundsLeft_11 : decode cX10_roundsLeft 11 = .ok (.invokevirtual 406, 3) := by decide +kernel
theorem dX10_roundsLeft_14 : decode cX10_roundsLeft 14 = .ok (.aload_n 0, 1) := by decide +kernel
theorem dX10_roundsLeft_15 : decode cX10_roundsLeft 15 = .ok (.getfield 60, 3) := by decide +kernel
theorem dX10_roundsLeft_18 : decode cX10_roundsLeft 18 = .ok (.getfield 159, 3) := by decide +kernel
theorem dX10_roundsLeft_21 : decode cX10_roundsLeft 21 = .ok (.isub, 1) := by decide +kernel
theorem dX10_roundsLeft_22 : decode cX10_roundsLeft 22 = .ok (.goto 4, 3) := by decide +kernel
theorem dX10_roundsLeft_25 : decode cX10_roundsLeft 25 = .ok (.iconst 0, 1) := by decide +kernel
theorem dX10_roundsLeft_26 : decode cX10_roundsLeft 26 = .ok (.ireturn, 1) := by decide +kernel
theorem dX10_rule_0 : decode cX10_rule 0 = .ok (.iload_n 1, 1) := by decide +kernel
theorem dX10_rule_1 : decode cX10_rule 1 = .ok (.bipush 10, 2) := by decide +kernel
theorem dX10_rule_3 : decode cX10_rule 3 = .ok (.if_icmp .ne 14, 3) := by decide +kernel
theorem dX10_rule_6 : decode cX10_rule 6 = .ok (.aload_n 0, 1) := by decide +kernel
theorem dX10_rule_7 : decode cX10_rule 7 = .ok (.getfield 39, 3) := by decide +kernel
theorem dX10_rule_10 : decode cX10_rule 10 = .ok (.getfield 135, 3) := by decide +kernel
theorem dX10_rule_13 : decode cX10_rule 13 = .ok (.getfield 141, 3) := by decide +kernel
theorem dX10_rule_16 : decode cX10_rule 16 = .ok (.ireturn, 1) := by decide +kernel
theorem dX10_rule_17 : decode cX10_rule 17 = .ok (.aload_n 0, 1) := by decide +kernel
theorem dX10_rule_18 : decode cX10_rule 18 = .ok (.getfield 108, 3) := by decide +kernel
theorem dX10_rule_21 : decode cX10_rule 21 = .ok (.ifCond .ne 6, 3) := by decide +kernel
theorem dX10_rule_24 : decode cX10_rule 24 = .ok (.ldc 144, 2) := by decide +kernel
theorem dX10_rule_26 : decode cX10_rule 26 = .ok (.ireturn, 1) := by decide +kernel
theorem dX10_rule_27 : decode cX10_rule 27 = .ok (.iload_n 1, 1) := by decide +kernel
theorem dX10_rule_28 : decode cX10_rule 28 = .ok (.tableswitch 174 0 11 #[64, 72, 80, 88, 96, 104, 112, 128, 143, 158, 174, 166], 64) := by decide +kernel
theorem dX10_rule_92 : decode cX10_rule 92 = .ok (.aload_n 0, 1) := by decide +kernel
theorem dX10_rule_93 : decode cX10_rule 93 = .ok (.getfield 23, 3) := by decide +kernel
theorem dX10_rule_96 : decode cX10_rule 96 = .ok (.getfield 145, 3) := by decide +kernel
theorem dX10_rule_99 : decode cX10_rule 99 = .ok (.ireturn, 1) := by decide +kernel
theorem dX10_rule_100 : decode cX10_rule 100 = .ok (.aload_n 0, 1) := by decide +kernel
theorem dX10_rule_101 : decode cX10_rule 101 = .ok (.getfield 23, 3) := by decide +kernel
theorem dX10_rule_104 : decode cX10_rule 104 = .ok (.getfield 132, 3) := by decide +kernel
theorem dX10_rule_107 : decode cX10_rule 107 = .ok (.ireturn, 1) := by decide +kernel
theorem dX10_rule_108 : decode cX10_rule 108 = .ok (.aload_n 0, 1) := by decide +kernel
theorem dX10_rule_109 : decode cX10_rule 109 = .ok (.getfield 23, 3) := by decide +kernel
theorem dX10_rule_112 : decode cX10_rule 112 = .ok (.getfield 148, 3) := by decide +kernel
theorem dX10_rule_115 : decode cX10_rule 115 = .ok (.ireturn, 1) := by decide +kernel
theorem dX10_rule_116 : decode cX10_rule 116 = .ok (.aload_n 0, 1) := by decide +kernel
theorem dX10_rule_117 : decode cX10_rule 117 = .ok (.getfield 23, 3) := by decide +kernel
theorem dX10_rule_120 : decode cX10_rule 120 = .ok (.getfield 151, 3) := by decide +kernel
theorem dX10_rule_123 : decode cX10_rule 123 = .ok (.ireturn, 1) := by decide +kernel
theorem dX10_rule_124 : decode cX10_rule 124 = .ok (.aload_n 0, 1) := by decide +kernel
theorem dX10_rule_125 : decode cX10_rule 125 = .ok (.getfield 60, 3) := by decide +kernel
theorem dX10_rule_128 : decode cX10_rule 128 = .ok (.getfield 154, 3) := by decide +kernel
theorem dX10_rule_131 : decode cX10_rule 131 = .ok (.ireturn, 1) := by decide +kernel
theorem dX10_rule_132 : decode cX10_rule 132 = .ok (.aload_n 0, 1) := by decide +kernel
theorem dX10_rule_133 : decode cX10_rule 133 = .ok (.getfield 60, 3) := by decide +kernel
theorem dX10_rule_136 : decode cX10_rule 136 = .ok (.getfield 155, 3) := by decide +kernel
theorem dX10_rule_139 : decode cX10_rule 139 = .ok (.ireturn, 1) := by decide +kernel
theorem dX10_rule_140 : decode cX10_rule 140 = .ok (.aload_n 0, 1) := by decide +kernel
theorem dX10_rule_141 : decode cX10_rule 141 = .ok (.getfield 23, 3) := by decide +kernel
theorem dX10_rule_144 : decode cX10_rule 144 = .ok (.getfield 156, 3) := by decide +kernel
theorem dX10_rule_147 : decode cX10_rule 147 = .ok (.ifCond .eq 7, 3) := by decide +kernel
theorem dX10_rule_150 : decode cX10_rule 150 = .ok (.iconst 1, 1) := by decide +kernel
theorem dX10_rule_151 : decode cX10_rule 151 = .ok (.goto 4, 3) := by decide +kernel
theorem dX10_rule_154 : decode cX10_rule 154 = .ok (.iconst 0, 1) := by decide +kernel
theorem dX10_rule_155 : decode cX10_rule 155 = .ok (.ireturn, 1) := by decide +kernel
theorem dX10_rule_156 : decode cX10_rule 156 = .ok (.aload_n 0, 1) := by decide +kernel
theorem dX10_rule_157 : decode cX10_rule 157 = .ok (.getfield 23, 3) := by decide +kernel
theorem dX10_rule_160 : decode cX10_rule 160 = .ok (.aload_n 0, 1) := by decide +kernel
theorem dX10_rule_161 : decode cX10_rule 161 = .ok (.getfield 60, 3) := by decide +kernel
theorem dX10_rule_164 : decode cX10_rule 164 = .ok (.getfield 159, 3) := by decide +kernel
theorem dX10_rule_167 : decode cX10_rule 167 = .ok (.invokevirtual 162, 3) := by decide +kernel
theorem dX10_rule_170 : decode cX10_rule 170 = .ok (.ireturn, 1) := by decide +kernel
theorem dX10_rule_171 : decode cX10_rule 171 = .ok (.aload_n 0, 1) := by decide +kernel
theorem dX10_rule_172 : decode cX10_rule 172 = .ok (.getfield 23, 3) := by decide +kernel
theorem dX10_rule_175 : decode cX10_rule 175 = .ok (.aload_n 0, 1) := by decide +kernel
theorem dX10_rule_176 : decode cX10_rule 176 = .ok (.getfield 60, 3) := by decide +kernel
theorem dX10_rule_179 : decode cX10_rule 179 = .ok (.getfield 159, 3) := by decide +kernel
theorem dX10_rule_182 : decode cX10_rule 182 = .ok (.invokevirtual 166, 3) := by decide +kernel
theorem dX10_rule_185 : decode cX10_rule 185 = .ok (.ireturn, 1) := by decide +kernel
theorem dX10_rule_186 : decode cX10_rule 186 = .ok (.aload_n 0, 1) := by decide +kernel
theorem dX10_rule_187 : decode cX10_rule 187 = .ok (.getfield 23, 3) := by decide +kernel
theorem dX10_rule_190 : decode cX10_rule 190 = .ok (.invokevirtual 169, 3) := by decide +kernel
theorem dX10_rule_193 : decode cX10_rule 193 = .ok (.ireturn, 1) := by decide +kernel
theorem dX10_rule_194 : decode cX10_rule 194 = .ok (.aload_n 0, 1) := by decide +kernel
theorem dX10_rule_195 : decode cX10_rule 195 = .ok (.getfield 60, 3) := by decide +kernel
theorem dX10_rule_198 : decode cX10_rule 198 = .ok (.getfield 173, 3) := by decide +kernel
theorem dX10_rule_201 : decode cX10_rule 201 = .ok (.ireturn, 1) := by decide +kernel
theorem dX10_rule_202 : decode cX10_rule 202 = .ok (.ldc 144, 2) := by decide +kernel
theorem dX10_rule_204 : decode cX10_rule 204 = .ok (.ireturn, 1) := by decide +kernel
theorem dX10_ruled_0 : decode cX10_ruled 0 = .ok (.aload_n 0, 1) := by decide +kernel
theorem dX10_ruled_1 : decode cX10_ruled 1 = .ok (.iload_n 1, 1) := by decide +kernel
theorem dX10_ruled_2 : decode cX10_ruled 2 = .ok (.invokevirtual 217, 3) := by decide +kernel
theorem dX10_ruled_5 : decode cX10_ruled 5 = .ok (.ifCond .eq 12, 3) := by decide +kernel
theorem dX10_ruled_8 : decode cX10_ruled 8 = .ok (.iload_n 2, 1) := by decide +kernel
theorem dX10_ruled_9 : decode cX10_ruled 9 = .ok (.ifCond .lt 8, 3) := by decide +kernel
theorem dX10_ruled_12 : decode cX10_ruled 12 = .ok (.iload_n 2, 1) := by decide +kernel
theorem dX10_ruled_13 : decode cX10_ruled 13 = .ok (.iconst 3, 1) := by decide +kernel
theorem dX10_ruled_14 : decode cX10_ruled 14 = .ok (.if_icmp .le 5, 3) := by decide +kernel
theorem dX10_ruled_17 : decode cX10_ruled 17 = .ok (.iconst (-1), 1) := by decide +kernel
theorem dX10_ruled_18 : decode cX10_ruled 18 = .ok (.ireturn, 1) := by decide +kernel
theorem dX10_ruled_19 : decode cX10_ruled 19 = .ok (.iconst 0, 1) := by decide +kernel
theorem dX10_ruled_20 : decode cX10_ruled 20 = .ok (.istore_n 3, 1) := by decide +kernel
theorem dX10_ruled_21 : decode cX10_ruled 21 = .ok (.iconst 0, 1) := by decide +kernel
theorem dX10_ruled_22 : decode cX10_ruled 22 = .ok (.istore 4, 2) := by decide +kernel
theorem dX10_ruled_24 : decode cX10_ruled 24 = .ok (.iload 4, 2) := by decide +kernel
theorem dX10_ruled_26 : decode cX10_ruled 26 = .ok (.aload_n 0, 1) := by decide +kernel
theorem dX10_ruled_27 : decode cX10_ruled 27 = .ok (.invokevirtual 273, 3) := by decide +kernel
theorem dX10_ruled_30 : decode cX10_ruled 30 = .ok (.if_icmp .ge 33, 3) := by decide +kernel
theorem dX10_ruled_33 : decode cX10_ruled 33 = .ok (.aload_n 0, 1) := by decide +kernel
theorem dX10_ruled_34 : decode cX10_ruled 34 = .ok (.getfield 23, 3) := by decide +kernel
theorem dX10_ruled_37 : decode cX10_ruled 37 = .ok (.iload 4, 2) := by decide +kernel
theorem dX10_ruled_39 : decode cX10_ruled 39 = .ok (.invokevirtual 225, 3) := by decide +kernel
theorem dX10_ruled_42 : decode cX10_ruled 42 = .ok (.iload_n 1, 1) := by decide +kernel
theorem dX10_ruled_43 : decode cX10_ruled 43 = .ok (.if_icmp .ne 14, 3) := by decide +kernel
theorem dX10_ruled_46 : decode cX10_ruled 46 = .ok (.iload_n 3, 1) := by decide +kernel
theorem dX10_ruled_47 : decode cX10_ruled 47 = .ok (.aload_n 0, 1) := by decide +kernel
theorem dX10_ruled_48 : decode cX10_ruled 48 = .ok (.iload 4, 2) := by decide +kernel
theorem dX10_ruled_50 : decode cX10_ruled 50 = .ok (.iload_n 1, 1) := by decide +kernel
theorem dX10_ruled_51 : decode cX10_ruled 51 = .ok (.iload_n 2, 1) := by decide +kernel
theorem dX10_ruled_52 : decode cX10_ruled 52 = .ok (.invokevirtual 338, 3) := by decide +kernel
theorem dX10_ruled_55 : decode cX10_ruled 55 = .ok (.iadd, 1) := by decide +kernel
theorem dX10_ruled_56 : decode cX10_ruled 56 = .ok (.istore_n 3, 1) := by decide +kernel
theorem dX10_ruled_57 : decode cX10_ruled 57 = .ok (.iinc 4 1, 3) := by decide +kernel
theorem dX10_ruled_60 : decode cX10_ruled 60 = .ok (.goto (-36), 3) := by decide +kernel
theorem dX10_ruled_63 : decode cX10_ruled 63 = .ok (.iload_n 3, 1) := by decide +kernel
theorem dX10_ruled_64 : decode cX10_ruled 64 = .ok (.ireturn, 1) := by decide +kernel
theorem dX10_run_0 : decode cX10_run 0 = .ok (.aload_n 0, 1) := by decide +kernel
theorem dX10_run_1 : decode cX10_run 1 = .ok (.invokevirtual 183, 3) := by decide +kernel
theorem dX10_run_4 : decode cX10_run 4 = .ok (.istore_n 1, 1) := by decide +kernel
theorem dX10_run_5 : decode cX10_run 5 = .ok (.iload_n 1, 1) := by decide +kernel
theorem dX10_run_6 : decode cX10_run 6 = .ok (.iconst 1, 1) := by decide +kernel
theorem dX10_run_7 : decode cX10_run 7 = .ok (.if_icmp .ge 5, 3) := by decide +kernel
theorem dX10_run_10 : decode cX10_run 10 = .ok (.iconst (-1), 1) := by decide +kernel
theorem dX10_run_11 : decode cX10_run 11 = .ok (.ireturn, 1) := by decide +kernel
theorem dX10_run_12 : decode cX10_run 12 = .ok (.iconst 0, 1) := by decide +kernel
theorem dX10_run_13 : decode cX10_run 13 = .ok (.istore_n 2, 1) := by decide +kernel
theorem dX10_run_14 : decode cX10_run 14 = .ok (.iload_n 2, 1) := by decide +kernel
theorem dX10_run_15 : decode cX10_run 15 = .ok (.iload_n 1, 1) := by decide +kernel
theorem dX10_run_16 : decode cX10_run 16 = .ok (.if_icmp .ge 35, 3) := by decide +kernel
theorem dX10_run_19 : decode cX10_run 19 = .ok (.aload_n 0, 1) := by decide +kernel
theorem dX10_run_20 : decode cX10_run 20 = .ok (.getfield 73, 3) := by decide +kernel
theorem dX10_run_23 : decode cX10_run 23 = .ok (.aload_n 0, 1) := by decide +kernel
theorem dX10_run_24 : decode cX10_run 24 = .ok (.getfield 60, 3) := by decide +kernel
theorem dX10_run_27 : decode cX10_run 27 = .ok (.invokevirtual 186, 3) := by decide +kernel
theorem dX10_run_30 : decode cX10_run 30 = .ok (.aload_n 0, 1) := by decide +kernel
theorem dX10_run_31 : decode cX10_run 31 = .ok (.getfield 60, 3) := by decide +kernel
theorem dX10_run_34 : decode cX10_run 34 = .ok (.aload_n 0, 1) := by decide +kernel
theorem dX10_run_35 : decode cX10_run 35 = .ok (.getfield 23, 3) := by decide +kernel
theorem dX10_run_38 : decode cX10_run 38 = .ok (.aload_n 0, 1) := by decide +kernel
theorem dX10_run_39 : decode cX10_run 39 = .ok (.getfield 39, 3) := by decide +kernel
theorem dX10_run_42 : decode cX10_run 42 = .ok (.invokevirtual 190, 3) := by decide +kernel
theorem dX10_run_45 : decode cX10_run 45 = .ok (.iinc 2 1, 3) := by decide +kernel
theorem dX10_run_48 : decode cX10_run 48 = .ok (.goto (-34), 3) := by decide +kernel
theorem dX10_run_51 : decode cX10_run 51 = .ok (.iload_n 1, 1) := by decide +kernel
theorem dX10_run_52 : decode cX10_run 52 = .ok (.ireturn, 1) := by decide +kernel
theorem dX10_say_0 : decode cX10_say 0 = .ok (.aload_n 0, 1) := by decide +kernel
theorem dX10_say_1 : decode cX10_say 1 = .ok (.iload_n 1, 1) := by decide +kernel
theorem dX10_say_2 : decode cX10_say 2 = .ok (.iload_n 2, 1) := by decide +kernel
theorem dX10_say_3 : decode cX10_say 3 = .ok (.iload_n 3, 1) := by decide +kernel
theorem dX10_say_4 : decode cX10_say 4 = .ok (.iload 4, 2) := by decide +kernel
theorem dX10_say_6 : decode cX10_say 6 = .ok (.iload 5, 2) := by decide +kernel
theorem dX10_say_8 : decode cX10_say 8 = .ok (.invokevirtual 194, 3) := by decide +kernel
theorem dX10_say_11 : decode cX10_say 11 = .ok (.istore 6, 2) := by decide +kernel
theorem dX10_say_13 : decode cX10_say 13 = .ok (.iload 6, 2) := by decide +kernel
theorem dX10_say_15 : decode cX10_say 15 = .ok (.iconst (-1), 1) := by decide +kernel
theorem dX10_say_16 : decode cX10_say 16 = .ok (.if_icmp .eq 10, 3) := by decide +kernel
theorem dX10_say_19 : decode cX10_say 19 = .ok (.aload_n 0, 1) := by decide +kernel
theorem dX10_say_20 : decode cX10_say 20 = .ok (.iload 6, 2) := by decide +kernel
theorem dX10_say_22 : decode cX10_say 22 = .ok (.invokevirtual 198, 3) := by decide +kernel
theorem dX10_say_25 : decode cX10_say 25 = .ok (.ireturn, 1) := by decide +kernel
theorem dX10_say_26 : decode cX10_say 26 = .ok (.aload_n 0, 1) := by decide +kernel
theorem dX10_say_27 : decode cX10_say 27 = .ok (.getfield 73, 3) := by decide +kernel
theorem dX10_say_30 : decode cX10_say 30 = .ok (.aload_n 0, 1) := by decide +kernel
theorem dX10_say_31 : decode cX10_say 31 = .ok (.getfield 60, 3) := by decide +kernel
theorem dX10_say_34 : decode cX10_say 34 = .ok (.invokevirtual 186, 3) := by decide +kernel
theorem dX10_say_37 : decode cX10_say 37 = .ok (.aload_n 0, 1) := by decide +kernel
theorem dX10_say_38 : decode cX10_say 38 = .ok (.getfield 60, 3) := by decide +kernel
theorem dX10_say_41 : decode cX10_say 41 = .ok (.iload_n 1, 1) := by decide +kernel
theorem dX10_say_42 : decode cX10_say 42 = .ok (.iload_n 2, 1) := by decide +kernel
theorem dX10_say_43 : decode cX10_say 43 = .ok (.iload_n 3, 1) := by decide +kernel
theorem dX10_say_44 : decode cX10_say 44 = .ok (.iload 4, 2) := by decide +kernel
theorem dX10_say_46 : decode cX10_say 46 = .ok (.iload 5, 2) := by decide +kernel
theorem dX10_say_48 : decode cX10_say 48 = .ok (.invokevirtual 201, 3) := by decide +kernel
theorem dX10_say_51 : decode cX10_say 51 = .ok (.aload_n 0, 1) := by decide +kernel
theorem dX10_say_52 : decode cX10_say 52 = .ok (.getfield 60, 3) := by decide +kernel
theorem dX10_say_55 : decode cX10_say 55 = .ok (.getfield 173, 3) := by decide +kernel
theorem dX10_say_58 : decode cX10_say 58 = .ok (.ireturn, 1) := by decide +kernel
theorem dX10_shown_0 : decode cX10_shown 0 = .ok (.aload_n 0, 1) := by decide +kernel
theorem dX10_shown_1 : decode cX10_shown 1 = .ok (.iload_n 1, 1) := by decide +kernel
theorem dX10_shown_2 : decode cX10_shown 2 = .ok (.invokevirtual 241, 3) := by decide +kernel
theorem dX10_shown_5 : decode cX10_shown 5 = .ok (.ifCond .ne 5, 3) := by decide +kernel
theorem dX10_shown_8 : decode cX10_shown 8 = .ok (.iconst (-1), 1) := by decide +kernel
theorem dX10_shown_9 : decode cX10_shown 9 = .ok (.ireturn, 1) := by decide +kernel
theorem dX10_shown_10 : decode cX10_shown 10 = .ok (.aload_n 0, 1) := by decide +kernel
theorem dX10_shown_11 : decode cX10_shown 11 = .ok (.getfield 23, 3) := by decide +kernel
theorem dX10_shown_14 : decode cX10_shown 14 = .ok (.iload_n 1, 1) := by decide +kernel
theorem dX10_shown_15 : decode cX10_shown 15 = .ok (.invokevirtual 225, 3) := by decide +kernel
theorem dX10_shown_18 : decode cX10_shown 18 = .ok (.istore_n 3, 1) := by decide +kernel
theorem dX10_shown_19 : decode cX10_shown 19 = .ok (.aload_n 0, 1) := by decide +kernel
theorem dX10_shown_20 : decode cX10_shown 20 = .ok (.getfield 84, 3) := by decide +kernel
theorem dX10_shown_23 : decode cX10_shown 23 = .ok (.iconst 0, 1) := by decide +kernel
theorem dX10_shown_24 : decode cX10_shown 24 = .ok (.putfield 91, 3) := by decide +kernel
theorem dX10_shown_27 : decode cX10_shown 27 = .ok (.aload_n 0, 1) := by decide +kernel
theorem dX10_shown_28 : decode cX10_shown 28 = .ok (.getfield 84, 3) := by decide +kernel
theorem dX10_shown_31 : decode cX10_shown 31 = .ok (.ldc_w 354, 3) := by decide +kernel
theorem dX10_shown_34 : decode cX10_shown 34 = .ok (.iload_n 1, 1) := by decide +kernel
theorem dX10_shown_35 : decode cX10_shown 35 = .ok (.invokevirtual 356, 3) := by decide +kernel
theorem dX10_shown_38 : decode cX10_shown 38 = .ok (.aload_n 0, 1) := by decide +kernel
theorem dX10_shown_39 : decode cX10_shown 39 = .ok (.getfield 84, 3) := by decide +kernel
theorem dX10_shown_42 : decode cX10_shown 42 = .ok (.ldc_w 360, 3) := by decide +kernel
theorem dX10_shown_45 : decode cX10_shown 45 = .ok (.iload_n 3, 1) := by decide +kernel
theorem dX10_shown_46 : decode cX10_shown 46 = .ok (.invokevirtual 356, 3) := by decide +kernel
theorem dX10_shown_49 : decode cX10_shown 49 = .ok (.iconst 0, 1) := by decide +kernel
theorem dX10_shown_50 : decode cX10_shown 50 = .ok (.istore 4, 2) := by decide +kernel
theorem dX10_shown_52 : decode cX10_shown 52 = .ok (.iload 4, 2) := by decide +kernel
theorem dX10_shown_54 : decode cX10_shown 54 = .ok (.aload_n 0, 1) := by decide +kernel
theorem dX10_shown_55 : decode cX10_shown 55 = .ok (.getfield 23, 3) := by decide +kernel
theorem dX10_shown_58 : decode cX10_shown 58 = .ok (.getfield 132, 3) := by decide +kernel
theorem dX10_shown_61 : decode cX10_shown 61 = .ok (.if_icmp .ge 168, 3) := by decide +kernel
theorem dX10_shown_64 : decode cX10_shown 64 = .ok (.aload_n 0, 1) := by decide +kernel
theorem dX10_shown_65 : decode cX10_shown 65 = .ok (.getfield 84, 3) := by decide +kernel
theorem dX10_shown_68 : decode cX10_shown 68 = .ok (.aload_n 0, 1) := by decide +kernel
theorem dX10_shown_69 : decode cX10_shown 69 = .ok (.getfield 60, 3) := by decide +kernel
theorem dX10_shown_72 : decode cX10_shown 72 = .ok (.getfield 155, 3) := by decide +kernel
theorem dX10_shown_75 : decode cX10_shown 75 = .ok (.iload 4, 2) := by decide +kernel
theorem dX10_shown_77 : decode cX10_shown 77 = .ok (.invokestatic 235, 3) := by decide +kernel
theorem dX10_shown_80 : decode cX10_shown 80 = .ok (.iconst 1, 1) := by decide +kernel
theorem dX10_shown_81 : decode cX10_shown 81 = .ok (.if_icmp .ne 9, 3) := by decide +kernel
theorem dX10_shown_84 : decode cX10_shown 84 = .ok (.ldc_w 362, 3) := by decide +kernel
theorem dX10_shown_87 : decode cX10_shown 87 = .ok (.goto 6, 3) := by decide +kernel
theorem dX10_shown_90 : decode cX10_shown 90 = .ok (.ldc_w 364, 3) := by decide +kernel
theorem dX10_shown_93 : decode cX10_shown 93 = .ok (.iload 4, 2) := by decide +kernel
theorem dX10_shown_95 : decode cX10_shown 95 = .ok (.invokevirtual 356, 3) := by decide +kernel
theorem dX10_shown_98 : decode cX10_shown 98 = .ok (.aload_n 0, 1) := by decide +kernel
theorem dX10_shown_99 : decode cX10_shown 99 = .ok (.getfield 84, 3) := by decide +kernel
theorem dX10_shown_102 : decode cX10_shown 102 = .ok (.ldc_w 366, 3) := by decide +kernel
theorem dX10_shown_105 : decode cX10_shown 105 = .ok (.aload_n 0, 1) := by decide +kernel
theorem dX10_shown_106 : decode cX10_shown 106 = .ok (.getfield 60, 3) := by decide +kernel
theorem dX10_shown_109 : decode cX10_shown 109 = .ok (.getfield 244, 3) := by decide +kernel
theorem dX10_shown_112 : decode cX10_shown 112 = .ok (.iload_n 1, 1) := by decide +kernel
theorem dX10_shown_113 : decode cX10_shown 113 = .ok (.iaload, 1) := by decide +kernel
theorem dX10_shown_114 : decode cX10_shown 114 = .ok (.iload 4, 2) := by decide +kernel
theorem dX10_shown_116 : decode cX10_shown 116 = .ok (.invokestatic 235, 3) := by decide +kernel
theorem dX10_shown_119 : decode cX10_shown 119 = .ok (.invokevirtual 356, 3) := by decide +kernel
theorem dX10_shown_122 : decode cX10_shown 122 = .ok (.aload_n 0, 1) := by decide +kernel
theorem dX10_shown_123 : decode cX10_shown 123 = .ok (.getfield 84, 3) := by decide +kernel
theorem dX10_shown_126 : decode cX10_shown 126 = .ok (.aload_n 0, 1) := by decide +kernel
theorem dX10_shown_127 : decode cX10_shown 127 = .ok (.getfield 60, 3) := by decide +kernel
theorem dX10_shown_130 : decode cX10_shown 130 = .ok (.getfield 247, 3) := by decide +kernel
theorem dX10_shown_133 : decode cX10_shown 133 = .ok (.iload_n 1, 1) := by decide +kernel
theorem dX10_shown_134 : decode cX10_shown 134 = .ok (.iaload, 1) := by decide +kernel
theorem dX10_shown_135 : decode cX10_shown 135 = .ok (.iload 4, 2) := by decide +kernel
theorem dX10_shown_137 : decode cX10_shown 137 = .ok (.invokestatic 235, 3) := by decide +kernel
theorem dX10_shown_140 : decode cX10_shown 140 = .ok (.iconst 1, 1) := by decide +kernel
theorem dX10_shown_141 : decode cX10_shown 141 = .ok (.if_icmp .ne 9, 3) := by decide +kernel
theorem dX10_shown_144 : decode cX10_shown 144 = .ok (.ldc_w 368, 3) := by decide +kernel
theorem dX10_shown_147 : decode cX10_shown 147 = .ok (.goto 6, 3) := by decide +kernel
theorem dX10_shown_150 : decode cX10_shown 150 = .ok (.ldc_w 370, 3) := by decide +kernel
theorem dX10_shown_153 : decode cX10_shown 153 = .ok (.invokevirtual 372, 3) := by decide +kernel
theorem dX10_shown_156 : decode cX10_shown 156 = .ok (.aload_n 0, 1) := by decide +kernel
theorem dX10_shown_157 : decode cX10_shown 157 = .ok (.getfield 84, 3) := by decide +kernel
theorem dX10_shown_160 : decode cX10_shown 160 = .ok (.aload_n 0, 1) := by decide +kernel
theorem dX10_shown_161 : decode cX10_shown 161 = .ok (.getfield 60, 3) := by decide +kernel
theorem dX10_shown_164 : decode cX10_shown 164 = .ok (.getfield 266, 3) := by decide +kernel
theorem dX10_shown_167 : decode cX10_shown 167 = .ok (.iload_n 1, 1) := by decide +kernel
theorem dX10_shown_168 : decode cX10_shown 168 = .ok (.iaload, 1) := by decide +kernel
theorem dX10_shown_169 : decode cX10_shown 169 = .ok (.iload 4, 2) := by decide +kernel
theorem dX10_shown_171 : decode cX10_shown 171 = .ok (.invokestatic 235, 3) := by decide +kernel
theorem dX10_shown_174 : decode cX10_shown 174 = .ok (.iconst 1, 1) := by decide +kernel
theorem dX10_shown_175 : decode cX10_shown 175 = .ok (.if_icmp .ne 9, 3) := by decide +kernel
theorem dX10_shown_178 : decode cX10_shown 178 = .ok (.ldc_w 376, 3) := by decide +kernel
theorem dX10_shown_181 : decode cX10_shown 181 = .ok (.goto 6, 3) := by decide +kernel
theorem dX10_shown_184 : decode cX10_shown 184 = .ok (.ldc_w 370, 3) := by decide +kernel
theorem dX10_shown_187 : decode cX10_shown 187 = .ok (.invokevirtual 372, 3) := by decide +kernel
theorem dX10_shown_190 : decode cX10_shown 190 = .ok (.aload_n 0, 1) := by decide +kernel
theorem dX10_shown_191 : decode cX10_shown 191 = .ok (.getfield 84, 3) := by decide +kernel
theorem dX10_shown_194 : decode cX10_shown 194 = .ok (.aload_n 0, 1) := by decide +kernel
theorem dX10_shown_195 : decode cX10_shown 195 = .ok (.getfield 60, 3) := by decide +kernel
theorem dX10_shown_198 : decode cX10_shown 198 = .ok (.iload 4, 2) := by decide +kernel
theorem dX10_shown_200 : decode cX10_shown 200 = .ok (.invokevirtual 238, 3) := by decide +kernel
theorem dX10_shown_203 : decode cX10_shown 203 = .ok (.iload_n 3, 1) := by decide +kernel
theorem dX10_shown_204 : decode cX10_shown 204 = .ok (.invokestatic 235, 3) := by decide +kernel
theorem dX10_shown_207 : decode cX10_shown 207 = .ok (.iconst 1, 1) := by decide +kernel
theorem dX10_shown_208 : decode cX10_shown 208 = .ok (.if_icmp .ne 9, 3) := by decide +kernel
theorem dX10_shown_211 : decode cX10_shown 211 = .ok (.ldc_w 378, 3) := by decide +kernel
theorem dX10_shown_214 : decode cX10_shown 214 = .ok (.goto 6, 3) := by decide +kernel
theorem dX10_shown_217 : decode cX10_shown 217 = .ok (.ldc_w 370, 3) := by decide +kernel
theorem dX10_shown_220 : decode cX10_shown 220 = .ok (.invokevirtual 372, 3) := by decide +kernel
theorem dX10_shown_223 : decode cX10_shown 223 = .ok (.iinc 4 1, 3) := by decide +kernel
theorem dX10_shown_226 : decode cX10_shown 226 = .ok (.goto (-174), 3) := by decide +kernel
theorem dX10_shown_229 : decode cX10_shown 229 = .ok (.aload_n 0, 1) := by decide +kernel
theorem dX10_shown_230 : decode cX10_shown 230 = .ok (.iload_n 2, 1) := by decide +kernel
theorem dX10_shown_231 : decode cX10_shown 231 = .ok (.invokevirtual 332, 3) := by decide +kernel
theorem dX10_shown_234 : decode cX10_shown 234 = .ok (.ireturn, 1) := by decide +kernel
theorem dX10_starts_0 : decode cX10_starts 0 = .ok (.aload_n 0, 1) := by decide +kernel
theorem dX10_starts_1 : decode cX10_starts 1 = .ok (.iload_n 1, 1) := by decide +kernel
theorem dX10_starts_2 : decode cX10_starts 2 = .ok (.aload_n 0, 1) := by decide +kernel
theorem dX10_starts_3 : decode cX10_starts 3 = .ok (.getfield 23, 3) := by decide +kernel
theorem dX10_starts_6 : decode cX10_starts 6 = .ok (.invokevirtual 205, 3) := by decide +kernel
theorem dX10_starts_9 : decode cX10_starts 9 = .ok (.invokevirtual 208, 3) := by decide +kernel
theorem dX10_starts_12 : decode cX10_starts 12 = .ok (.istore_n 2, 1) := by decide +kernel
theorem dX10_starts_13 : decode cX10_starts 13 = .ok (.iload_n 2, 1) := by decide +kernel
theorem dX10_starts_14 : decode cX10_starts 14 = .ok (.iconst (-1), 1) := by decide +kernel
theorem dX10_starts_15 : decode cX10_starts 15 = .ok (.if_icmp .eq 9, 3) := by decide +kernel
theorem dX10_starts_18 : decode cX10_starts 18 = .ok (.aload_n 0, 1) := by decide +kernel
theorem dX10_starts_19 : decode cX10_starts 19 = .ok (.iload_n 2, 1) := by decide +kernel
theorem dX10_starts_20 : decode cX10_starts 20 = .ok (.invokevirtual 198, 3) := by decide +kernel
theorem dX10_starts_23 : decode cX10_starts 23 = .ok (.ireturn, 1) := by decide +kernel
theorem dX10_starts_24 : decode cX10_starts 24 = .ok (.aload_n 0, 1) := by decide +kernel
theorem dX10_starts_25 : decode cX10_starts 25 = .ok (.getfield 60, 3) := by decide +kernel
theorem dX10_starts_28 : decode cX10_starts 28 = .ok (.getfield 154, 3) := by decide +kernel
theorem dX10_starts_31 : decode cX10_starts 31 = .ok (.istore_n 3, 1) := by decide +kernel
theorem dX10_starts_32 : decode cX10_starts 32 = .ok (.aload_n 0, 1) := by decide +kernel
theorem dX10_starts_33 : decode cX10_starts 33 = .ok (.getfield 73, 3) := by decide +kernel
theorem dX10_starts_36 : decode cX10_starts 36 = .ok (.aload_n 0, 1) := by decide +kernel
theorem dX10_starts_37 : decode cX10_starts 37 = .ok (.getfield 60, 3) := by decide +kernel
theorem dX10_starts_40 : decode cX10_starts 40 = .ok (.invokevirtual 186, 3) := by decide +kernel
theorem dX10_starts_43 : decode cX10_starts 43 = .ok (.aload_n 0, 1) := by decide +kernel
theorem dX10_starts_44 : decode cX10_starts 44 = .ok (.getfield 60, 3) := by decide +kernel
theorem dX10_starts_47 : decode cX10_starts 47 = .ok (.iload_n 1, 1) := by decide +kernel
theorem dX10_starts_48 : decode cX10_starts 48 = .ok (.putfield 154, 3) := by decide +kernel
theorem dX10_starts_51 : decode cX10_starts 51 = .ok (.aload_n 0, 1) := by decide +kernel
theorem dX10_starts_52 : decode cX10_starts 52 = .ok (.getfield 60, 3) := by decide +kernel
theorem dX10_starts_55 : decode cX10_starts 55 = .ok (.iload_n 1, 1) := by decide +kernel
theorem dX10_starts_56 : decode cX10_starts 56 = .ok (.putfield 211, 3) := by decide +kernel
theorem dX10_starts_59 : decode cX10_starts 59 = .ok (.iload_n 3, 1) := by decide +kernel
theorem dX10_starts_60 : decode cX10_starts 60 = .ok (.ireturn, 1) := by decide +kernel
theorem dX10_state_0 : decode cX10_state 0 = .ok (.aload_n 0, 1) := by decide +kernel
theorem dX10_state_1 : decode cX10_state 1 = .ok (.getfield 108, 3) := by decide +kernel
theorem dX10_state_4 : decode cX10_state 4 = .ok (.ifCond .ne 5, 3) := by decide +kernel
theorem dX10_state_7 : decode cX10_state 7 = .ok (.iconst (-1), 1) := by decide +kernel
theorem dX10_state_8 : decode cX10_state 8 = .ok (.ireturn, 1) := by decide +kernel
theorem dX10_state_9 : decode cX10_state 9 = .ok (.aload_n 0, 1) := by decide +kernel
theorem dX10_state_10 : decode cX10_state 10 = .ok (.invokevirtual 273, 3) := by decide +kernel
theorem dX10_state_13 : decode cX10_state 13 = .ok (.istore_n 2, 1) := by decide +kernel
theorem dX10_state_14 : decode cX10_state 14 = .ok (.iload_n 2, 1) := by decide +kernel
theorem dX10_state_15 : decode cX10_state 15 = .ok (.ifCond .le 17, 3) := by decide +kernel
theorem dX10_state_18 : decode cX10_state 18 = .ok (.aload_n 0, 1) := by decide +kernel
theorem dX10_state_19 : decode cX10_state 19 = .ok (.getfield 60, 3) := by decide +kernel
theorem dX10_state_22 : decode cX10_state 22 = .ok (.getfield 244, 3) := by decide +kernel
theorem dX10_state_25 : decode cX10_state 25 = .ok (.iload_n 2, 1) := by decide +kernel
theorem dX10_state_26 : decode cX10_state 26 = .ok (.iconst 1, 1) := by decide +kernel
theorem dX10_state_27 : decode cX10_state 27 = .ok (.isub, 1) := by decide +kernel
theorem dX10_state_28 : decode cX10_state 28 = .ok (.iaload, 1) := by decide +kernel
theorem dX10_state_29 : decode cX10_state 29 = .ok (.goto 10, 3) := by decide +kernel
theorem dX10_state_32 : decode cX10_state 32 = .ok (.aload_n 0, 1) := by decide +kernel
theorem dX10_state_33 : decode cX10_state 33 = .ok (.getfield 60, 3) := by decide +kernel
theorem dX10_state_36 : decode cX10_state 36 = .ok (.getfield 154, 3) := by decide +kernel
theorem dX10_state_39 : decode cX10_state 39 = .ok (.istore_n 3, 1) := by decide +kernel
theorem dX10_state_40 : decode cX10_state 40 = .ok (.iload_n 1, 1) := by decide +kernel
theorem dX10_state_41 : decode cX10_state 41 = .ok (.tableswitch 125 0 3 #[31, 52, 69, 98], 31) := by decide +kernel
theorem dX10_state_72 : decode cX10_state 72 = .ok (.aload_n 0, 1) := by decide +kernel
theorem dX10_state_73 : decode cX10_state 73 = .ok (.getfield 60, 3) := by decide +kernel
theorem dX10_state_76 : decode cX10_state 76 = .ok (.aload_n 0, 1) := by decide +kernel
theorem dX10_state_77 : decode cX10_state 77 = .ok (.getfield 23, 3) := by decide +kernel
theorem dX10_state_80 : decode cX10_state 80 = .ok (.iload_n 3, 1) := by decide +kernel
theorem dX10_state_81 : decode cX10_state 81 = .ok (.invokevirtual 276, 3) := by decide +kernel
theorem dX10_state_84 : decode cX10_state 84 = .ok (.ifCond .eq 7, 3) := by decide +kernel
theorem dX10_state_87 : decode cX10_state 87 = .ok (.iconst 1, 1) := by decide +kernel
theorem dX10_state_88 : decode cX10_state 88 = .ok (.goto 4, 3) := by decide +kernel
theorem dX10_state_91 : decode cX10_state 91 = .ok (.iconst 0, 1) := by decide +kernel
theorem dX10_state_92 : decode cX10_state 92 = .ok (.ireturn, 1) := by decide +kernel
theorem dX10_state_93 : decode cX10_state 93 = .ok (.iload_n 3, 1) := by decide +kernel
theorem dX10_state_94 : decode cX10_state 94 = .ok (.aload_n 0, 1) := by decide +kernel
theorem dX10_state_95 : decode cX10_state 95 = .ok (.getfield 60, 3) := by decide +kernel
theorem dX10_state_98 : decode cX10_state 98 = .ok (.aload_n 0, 1) := by decide +kernel
theorem dX10_state_99 : decode cX10_state 99 = .ok (.getfield 23, 3) := by decide +kernel
theorem dX10_state_102 : decode cX10_state 102 = .ok (.invokevirtual 280, 3) := by decide +kernel
theorem dX10_state_105 : decode cX10_state 105 = .ok (.iand, 1) := by decide +kernel
theorem dX10_state_106 : decode cX10_state 106 = .ok (.invokestatic 283, 3) := by decide +kernel
theorem dX10_state_109 : decode cX10_state 109 = .ok (.ireturn, 1) := by decide +kernel
theorem dX10_state_110 : decode cX10_state 110 = .ok (.aload_n 0, 1) := by decide +kernel
theorem dX10_state_111 : decode cX10_state 111 = .ok (.getfield 60, 3) := by decide +kernel
theorem dX10_state_114 : decode cX10_state 114 = .ok (.aload_n 0, 1) := by decide +kernel
theorem dX10_state_115 : decode cX10_state 115 = .ok (.getfield 23, 3) := by decide +kernel
theorem dX10_state_118 : decode cX10_state 118 = .ok (.iload_n 3, 1) := by decide +kernel
theorem dX10_state_119 : decode cX10_state 119 = .ok (.invokevirtual 276, 3) := by decide +kernel
theorem dX10_state_122 : decode cX10_state 122 = .ok (.ifCond .eq 15, 3) := by decide +kernel
theorem dX10_state_125 : decode cX10_state 125 = .ok (.aload_n 0, 1) := by decide +kernel
theorem dX10_state_126 : decode cX10_state 126 = .ok (.iload_n 3, 1) := by decide +kernel
theorem dX10_state_127 : decode cX10_state 127 = .ok (.invokevirtual 288, 3) := by decide +kernel
theorem dX10_state_130 : decode cX10_state 130 = .ok (.ifCond .eq 7, 3) := by decide +kernel
theorem dX10_state_133 : decode cX10_state 133 = .ok (.iconst 1, 1) := by decide +kernel
theorem dX10_state_134 : decode cX10_state 134 = .ok (.goto 4, 3) := by decide +kernel
theorem dX10_state_137 : decode cX10_state 137 = .ok (.iconst 0, 1) := by decide +kernel
theorem dX10_state_138 : decode cX10_state 138 = .ok (.ireturn, 1) := by decide +kernel
theorem dX10_state_139 : decode cX10_state 139 = .ok (.aload_n 0, 1) := by decide +kernel
theorem dX10_state_140 : decode cX10_state 140 = .ok (.getfield 60, 3) := by decide +kernel
theorem dX10_state_143 : decode cX10_state 143 = .ok (.aload_n 0, 1) := by decide +kernel
theorem dX10_state_144 : decode cX10_state 144 = .ok (.getfield 23, 3) := by decide +kernel
theorem dX10_state_147 : decode cX10_state 147 = .ok (.aload_n 0, 1) := by decide +kernel
theorem dX10_state_148 : decode cX10_state 148 = .ok (.getfield 60, 3) := by decide +kernel
theorem dX10_state_151 : decode cX10_state 151 = .ok (.getfield 154, 3) := by decide +kernel
theorem dX10_state_154 : decode cX10_state 154 = .ok (.invokevirtual 276, 3) := by decide +kernel
theorem dX10_state_157 : decode cX10_state 157 = .ok (.ifCond .eq 7, 3) := by decide +kernel
theorem dX10_state_160 : decode cX10_state 160 = .ok (.iconst 1, 1) := by decide +kernel
theorem dX10_state_161 : decode cX10_state 161 = .ok (.goto 4, 3) := by decide +kernel
theorem dX10_state_164 : decode cX10_state 164 = .ok (.iconst 0, 1) := by decide +kernel
theorem dX10_state_165 : decode cX10_state 165 = .ok (.ireturn, 1) := by decide +kernel
theorem dX10_state_166 : decode cX10_state 166 = .ok (.iconst (-1), 1) := by decide +kernel
theorem dX10_state_167 : decode cX10_state 167 = .ok (.ireturn, 1) := by decide +kernel
theorem dX10_status_0 : decode cX10_status 0 = .ok (.iload_n 1, 1) := by decide +kernel
theorem dX10_status_1 : decode cX10_status 1 = .ok (.ifCond .lt 12, 3) := by decide +kernel
theorem dX10_status_4 : decode cX10_status 4 = .ok (.iload_n 1, 1) := by decide +kernel
theorem dX10_status_5 : decode cX10_status 5 = .ok (.aload_n 0, 1) := by decide +kernel
theorem dX10_status_6 : decode cX10_status 6 = .ok (.getfield 87, 3) := by decide +kernel
theorem dX10_status_9 : decode cX10_status 9 = .ok (.arraylength, 1) := by decide +kernel
theorem dX10_status_10 : decode cX10_status 10 = .ok (.if_icmp .lt 7, 3) := by decide +kernel
theorem dX10_status_13 : decode cX10_status 13 = .ok (.iconst (-1), 1) := by decide +kernel
theorem dX10_status_14 : decode cX10_status 14 = .ok (.goto 9, 3) := by decide +kernel
theorem dX10_status_17 : decode cX10_status 17 = .ok (.aload_n 0, 1) := by decide +kernel
theorem dX10_status_18 : decode cX10_status 18 = .ok (.getfield 87, 3) := by decide +kernel
theorem dX10_status_21 : decode cX10_status 21 = .ok (.iload_n 1, 1) := by decide +kernel
theorem dX10_status_22 : decode cX10_status 22 = .ok (.iaload, 1) := by decide +kernel
theorem dX10_status_23 : decode cX10_status 23 = .ok (.ireturn, 1) := by decide +kernel
theorem dX10_told_0 : decode cX10_told 0 = .ok (.aload_n 0, 1) := by decide +kernel
theorem dX10_told_1 : decode cX10_told 1 = .ok (.iload_n 1, 1) := by decide +kernel
theorem dX10_told_2 : decode cX10_told 2 = .ok (.invokevirtual 217, 3) := by decide +kernel
theorem dX10_told_5 : decode cX10_told 5 = .ok (.ifCond .eq 11, 3) := by decide +kernel
theorem dX10_told_8 : decode cX10_told 8 = .ok (.aload_n 0, 1) := by decide +kernel
theorem dX10_told_9 : decode cX10_told 9 = .ok (.iload_n 2, 1) := by decide +kernel
theorem dX10_told_10 : decode cX10_told 10 = .ok (.invokevirtual 241, 3) := by decide +kernel
theorem dX10_told_13 : decode cX10_told 13 = .ok (.ifCond .ne 5, 3) := by decide +kernel
theorem dX10_told_16 : decode cX10_told 16 = .ok (.iconst (-1), 1) := by decide +kernel
theorem dX10_told_17 : decode cX10_told 17 = .ok (.ireturn, 1) := by decide +kernel
theorem dX10_told_18 : decode cX10_told 18 = .ok (.aload_n 0, 1) := by decide +kernel
theorem dX10_told_19 : decode cX10_told 19 = .ok (.getfield 23, 3) := by decide +kernel
theorem dX10_told_22 : decode cX10_told 22 = .ok (.getfield 145, 3) := by decide +kernel
theorem dX10_told_25 : decode cX10_told 25 = .ok (.iconst 1, 1) := by decide +kernel
theorem dX10_told_26 : decode cX10_told 26 = .ok (.if_icmp .ne 7, 3) := by decide +kernel
theorem dX10_told_29 : decode cX10_told 29 = .ok (.iconst 1, 1) := by decide +kernel
theorem dX10_told_30 : decode cX10_told 30 = .ok (.goto 4, 3) := by decide +kernel
theorem dX10_told_33 : decode cX10_told 33 = .ok (.iconst 0, 1) := by decide +kernel
theorem dX10_told_34 : decode cX10_told 34 = .ok (.istore 4, 2) := by decide +kernel
theorem dX10_told_36 : decode cX10_told 36 = .ok (.iload_n 3, 1) := by decide +kernel
theorem dX10_told_37 : decode cX10_told 37 = .ok (.tableswitch 173 0 7 #[47, 61, 75, 90, 101, 115, 139, 159], 47) := by decide +kernel
theorem dX10_told_84 : decode cX10_told 84 = .ok (.aload_n 0, 1) := by decide +kernel
theorem dX10_told_85 : decode cX10_told 85 = .ok (.getfield 60, 3) := by decide +kernel
theorem dX10_told_88 : decode cX10_told 88 = .ok (.getfield 244, 3) := by decide +kernel
theorem dX10_told_91 : decode cX10_told 91 = .ok (.iload_n 2, 1) := by decide +kernel
theorem dX10_told_92 : decode cX10_told 92 = .ok (.iaload, 1) := by decide +kernel
theorem dX10_told_93 : decode cX10_told 93 = .ok (.iload_n 1, 1) := by decide +kernel
theorem dX10_told_94 : decode cX10_told 94 = .ok (.invokestatic 235, 3) := by decide +kernel
theorem dX10_told_97 : decode cX10_told 97 = .ok (.ireturn, 1) := by decide +kernel
theorem dX10_told_98 : decode cX10_told 98 = .ok (.aload_n 0, 1) := by decide +kernel
theorem dX10_told_99 : decode cX10_told 99 = .ok (.getfield 60, 3) := by decide +kernel
theorem dX10_told_102 : decode cX10_told 102 = .ok (.getfield 247, 3) := by decide +kernel
theorem dX10_told_105 : decode cX10_told 105 = .ok (.iload_n 2, 1) := by decide +kernel
theorem dX10_told_106 : decode cX10_told 106 = .ok (.iaload, 1) := by decide +kernel
theorem dX10_told_107 : decode cX10_told 107 = .ok (.iload_n 1, 1) := by decide +kernel
theorem dX10_told_108 : decode cX10_told 108 = .ok (.invokestatic 235, 3) := by decide +kernel
theorem dX10_told_111 : decode cX10_told 111 = .ok (.ireturn, 1) := by decide +kernel
theorem dX10_told_112 : decode cX10_told 112 = .ok (.aload_n 0, 1) := by decide +kernel
theorem dX10_told_113 : decode cX10_told 113 = .ok (.getfield 60, 3) := by decide +kernel
theorem dX10_told_116 : decode cX10_told 116 = .ok (.aload_n 0, 1) := by decide +kernel
theorem dX10_told_117 : decode cX10_told 117 = .ok (.getfield 23, 3) := by decide +kernel
theorem dX10_told_120 : decode cX10_told 120 = .ok (.iload_n 2, 1) := by decide +kernel
theorem dX10_told_121 : decode cX10_told 121 = .ok (.iconst 0, 1) := by decide +kernel
theorem dX10_told_122 : decode cX10_told 122 = .ok (.iload_n 1, 1) := by decide +kernel
theorem dX10_told_123 : decode cX10_told 123 = .ok (.invokevirtual 250, 3) := by decide +kernel
theorem dX10_told_126 : decode cX10_told 126 = .ok (.ireturn, 1) := by decide +kernel
theorem dX10_told_127 : decode cX10_told 127 = .ok (.aload_n 0, 1) := by decide +kernel
theorem dX10_told_128 : decode cX10_told 128 = .ok (.getfield 60, 3) := by decide +kernel
theorem dX10_told_131 : decode cX10_told 131 = .ok (.iload_n 2, 1) := by decide +kernel
theorem dX10_told_132 : decode cX10_told 132 = .ok (.iconst 0, 1) := by decide +kernel
theorem dX10_told_133 : decode cX10_told 133 = .ok (.iload_n 1, 1) := by decide +kernel
theorem dX10_told_134 : decode cX10_told 134 = .ok (.invokevirtual 254, 3) := by decide +kernel
theorem dX10_told_137 : decode cX10_told 137 = .ok (.ireturn, 1) := by decide +kernel
theorem dX10_told_138 : decode cX10_told 138 = .ok (.aload_n 0, 1) := by decide +kernel
theorem dX10_told_139 : decode cX10_told 139 = .ok (.getfield 60, 3) := by decide +kernel
theorem dX10_told_142 : decode cX10_told 142 = .ok (.getfield 258, 3) := by decide +kernel
theorem dX10_told_145 : decode cX10_told 145 = .ok (.iload_n 2, 1) := by decide +kernel
theorem dX10_told_146 : decode cX10_told 146 = .ok (.laload, 1) := by decide +kernel
theorem dX10_told_147 : decode cX10_told 147 = .ok (.iload_n 1, 1) := by decide +kernel
theorem dX10_told_148 : decode cX10_told 148 = .ok (.invokestatic 262, 3) := by decide +kernel
theorem dX10_told_151 : decode cX10_told 151 = .ok (.ireturn, 1) := by decide +kernel
theorem dX10_told_152 : decode cX10_told 152 = .ok (.iload 4, 2) := by decide +kernel
theorem dX10_told_154 : decode cX10_told 154 = .ok (.ifCond .eq 7, 3) := by decide +kernel
theorem dX10_told_157 : decode cX10_told 157 = .ok (.iconst (-1), 1) := by decide +kernel
theorem dX10_told_158 : decode cX10_told 158 = .ok (.goto 17, 3) := by decide +kernel
theorem dX10_told_161 : decode cX10_told 161 = .ok (.aload_n 0, 1) := by decide +kernel
theorem dX10_told_162 : decode cX10_told 162 = .ok (.getfield 60, 3) := by decide +kernel
theorem dX10_told_165 : decode cX10_told 165 = .ok (.aload_n 0, 1) := by decide +kernel
theorem dX10_told_166 : decode cX10_told 166 = .ok (.getfield 23, 3) := by decide +kernel
theorem dX10_told_169 : decode cX10_told 169 = .ok (.iload_n 2, 1) := by decide +kernel
theorem dX10_told_170 : decode cX10_told 170 = .ok (.iconst 1, 1) := by decide +kernel
theorem dX10_told_171 : decode cX10_told 171 = .ok (.iload_n 1, 1) := by decide +kernel
theorem dX10_told_172 : decode cX10_told 172 = .ok (.invokevirtual 250, 3) := by decide +kernel
theorem dX10_told_175 : decode cX10_told 175 = .ok (.ireturn, 1) := by decide +kernel
theorem dX10_told_176 : decode cX10_told 176 = .ok (.iload 4, 2) := by decide +kernel
theorem dX10_told_178 : decode cX10_told 178 = .ok (.ifCond .eq 7, 3) := by decide +kernel
theorem dX10_told_181 : decode cX10_told 181 = .ok (.iconst (-1), 1) := by decide +kernel
theorem dX10_told_182 : decode cX10_told 182 = .ok (.goto 13, 3) := by decide +kernel
theorem dX10_told_185 : decode cX10_told 185 = .ok (.aload_n 0, 1) := by decide +kernel
theorem dX10_told_186 : decode cX10_told 186 = .ok (.getfield 60, 3) := by decide +kernel
theorem dX10_told_189 : decode cX10_told 189 = .ok (.iload_n 2, 1) := by decide +kernel
theorem dX10_told_190 : decode cX10_told 190 = .ok (.iconst 1, 1) := by decide +kernel
theorem dX10_told_191 : decode cX10_told 191 = .ok (.iload_n 1, 1) := by decide +kernel
theorem dX10_told_192 : decode cX10_told 192 = .ok (.invokevirtual 254, 3) := by decide +kernel
theorem dX10_told_195 : decode cX10_told 195 = .ok (.ireturn, 1) := by decide +kernel
theorem dX10_told_196 : decode cX10_told 196 = .ok (.aload_n 0, 1) := by decide +kernel
theorem dX10_told_197 : decode cX10_told 197 = .ok (.getfield 60, 3) := by decide +kernel
theorem dX10_told_200 : decode cX10_told 200 = .ok (.getfield 266, 3) := by decide +kernel
theorem dX10_told_203 : decode cX10_told 203 = .ok (.iload_n 2, 1) := by decide +kernel
theorem dX10_told_204 : decode cX10_told 204 = .ok (.iaload, 1) := by decide +kernel
theorem dX10_told_205 : decode cX10_told 205 = .ok (.iload_n 1, 1) := by decide +kernel
theorem dX10_told_206 : decode cX10_told 206 = .ok (.invokestatic 235, 3) := by decide +kernel
theorem dX10_told_209 : decode cX10_told 209 = .ok (.ireturn, 1) := by decide +kernel
theorem dX10_told_210 : decode cX10_told 210 = .ok (.iconst (-1), 1) := by decide +kernel
theorem dX10_told_211 : decode cX10_told 211 = .ok (.ireturn, 1) := by decide +kernel
theorem dX10_trueRuler_0 : decode cX10_trueRuler 0 = .ok (.iconst 0, 1) := by decide +kernel
theorem dX10_trueRuler_1 : decode cX10_trueRuler 1 = .ok (.istore_n 1, 1) := by decide +kernel
theorem dX10_trueRuler_2 : decode cX10_trueRuler 2 = .ok (.aload_n 0, 1) := by decide +kernel
theorem dX10_trueRuler_3 : decode cX10_trueRuler 3 = .ok (.getfield 108, 3) := by decide +kernel
theorem dX10_trueRuler_6 : decode cX10_trueRuler 6 = .ok (.ifCond .eq 43, 3) := by decide +kernel
theorem dX10_trueRuler_9 : decode cX10_trueRuler 9 = .ok (.iload_n 1, 1) := by decide +kernel
theorem dX10_trueRuler_10 : decode cX10_trueRuler 10 = .ok (.aload_n 0, 1) := by decide +kernel
theorem dX10_trueRuler_11 : decode cX10_trueRuler 11 = .ok (.getfield 23, 3) := by decide +kernel
theorem dX10_trueRuler_14 : decode cX10_trueRuler 14 = .ok (.getfield 151, 3) := by decide +kernel
theorem dX10_trueRuler_17 : decode cX10_trueRuler 17 = .ok (.if_icmp .ge 32, 3) := by decide +kernel
theorem dX10_trueRuler_20 : decode cX10_trueRuler 20 = .ok (.aload_n 0, 1) := by decide +kernel
theorem dX10_trueRuler_21 : decode cX10_trueRuler 21 = .ok (.getfield 60, 3) := by decide +kernel
theorem dX10_trueRuler_24 : decode cX10_trueRuler 24 = .ok (.getfield 155, 3) := by decide +kernel
theorem dX10_trueRuler_27 : decode cX10_trueRuler 27 = .ok (.aload_n 0, 1) := by decide +kernel
theorem dX10_trueRuler_28 : decode cX10_trueRuler 28 = .ok (.getfield 23, 3) := by decide +kernel
theorem dX10_trueRuler_31 : decode cX10_trueRuler 31 = .ok (.iload_n 1, 1) := by decide +kernel
theorem dX10_trueRuler_32 : decode cX10_trueRuler 32 = .ok (.invokevirtual 225, 3) := by decide +kernel
theorem dX10_trueRuler_35 : decode cX10_trueRuler 35 = .ok (.invokestatic 235, 3) := by decide +kernel
theorem dX10_trueRuler_38 : decode cX10_trueRuler 38 = .ok (.ifCond .ne 5, 3) := by decide +kernel
theorem dX10_trueRuler_41 : decode cX10_trueRuler 41 = .ok (.iload_n 1, 1) := by decide +kernel
theorem dX10_trueRuler_42 : decode cX10_trueRuler 42 = .ok (.ireturn, 1) := by decide +kernel
theorem dX10_trueRuler_43 : decode cX10_trueRuler 43 = .ok (.iinc 1 1, 3) := by decide +kernel
theorem dX10_trueRuler_46 : decode cX10_trueRuler 46 = .ok (.goto (-44), 3) := by decide +kernel
theorem dX10_trueRuler_49 : decode cX10_trueRuler 49 = .ok (.iconst (-1), 1) := by decide +kernel
theorem dX10_trueRuler_50 : decode cX10_trueRuler 50 = .ok (.ireturn, 1) := by decide +kernel
theorem dX10_undo_0 : decode cX10_undo 0 = .ok (.aload_n 0, 1) := by decide +kernel
theorem dX10_undo_1 : decode cX10_undo 1 = .ok (.getfield 73, 3) := by decide +kernel
theorem dX10_undo_4 : decode cX10_undo 4 = .ok (.aload_n 0, 1) := by decide +kernel
theorem dX10_undo_5 : decode cX10_undo 5 = .ok (.getfield 60, 3) := by decide +kernel
theorem dX10_undo_8 : decode cX10_undo 8 = .ok (.invokevirtual 380, 3) := by decide +kernel
theorem dX10_undo_11 : decode cX10_undo 11 = .ok (.ifCond .eq 13, 3) := by decide +kernel
theorem dX10_undo_14 : decode cX10_undo 14 = .ok (.aload_n 0, 1) := by decide +kernel
theorem dX10_undo_15 : decode cX10_undo 15 = .ok (.getfield 73, 3) := by decide +kernel
theorem dX10_undo_18 : decode cX10_undo 18 = .ok (.getfield 119, 3) := by decide +kernel
theorem dX10_undo_21 : decode cX10_undo 21 = .ok (.goto 4, 3) := by decide +kernel
theorem dX10_undo_24 : decode cX10_undo 24 = .ok (.iconst (-1), 1) := by decide +kernel
theorem dX10_undo_25 : decode cX10_undo 25 = .ok (.ireturn, 1) := by decide +kernel
theorem dX10_weakest_0 : decode cX10_weakest 0 = .ok (.aload_n 0, 1) := by decide +kernel
theorem dX10_weakest_1 : decode cX10_weakest 1 = .ok (.getfield 108, 3) := by decide +kernel
theorem dX10_weakest_4 : decode cX10_weakest 4 = .ok (.ifCond .ne 6, 3) := by decide +kernel
theorem dX10_weakest_7 : decode cX10_weakest 7 = .ok (.bipush (-2), 2) := by decide +kernel
theorem dX10_weakest_9 : decode cX10_weakest 9 = .ok (.ireturn, 1) := by decide +kernel
theorem dX10_weakest_10 : decode cX10_weakest 10 = .ok (.iconst (-1), 1) := by decide +kernel
theorem dX10_weakest_11 : decode cX10_weakest 11 = .ok (.istore_n 1, 1) := by decide +kernel
theorem dX10_weakest_12 : decode cX10_weakest 12 = .ok (.aload_n 0, 1) := by decide +kernel
theorem dX10_weakest_13 : decode cX10_weakest 13 = .ok (.getfield 23, 3) := by decide +kernel
theorem dX10_weakest_16 : decode cX10_weakest 16 = .ok (.getfield 132, 3) := by decide +kernel
theorem dX10_weakest_19 : decode cX10_weakest 19 = .ok (.iconst 1, 1) := by decide +kernel
theorem dX10_weakest_20 : decode cX10_weakest 20 = .ok (.isub, 1) := by decide +kernel
theorem dX10_weakest_21 : decode cX10_weakest 21 = .ok (.istore_n 2, 1) := by decide +kernel
theorem dX10_weakest_22 : decode cX10_weakest 22 = .ok (.iload_n 2, 1) := by decide +kernel
theorem dX10_weakest_23 : decode cX10_weakest 23 = .ok (.ifCond .lt 99, 3) := by decide +kernel
theorem dX10_weakest_26 : decode cX10_weakest 26 = .ok (.aload_n 0, 1) := by decide +kernel
theorem dX10_weakest_27 : decode cX10_weakest 27 = .ok (.getfield 60, 3) := by decide +kernel
theorem dX10_weakest_30 : decode cX10_weakest 30 = .ok (.getfield 155, 3) := by decide +kernel
theorem dX10_weakest_33 : decode cX10_weakest 33 = .ok (.iconst 1, 1) := by decide +kernel
theorem dX10_weakest_34 : decode cX10_weakest 34 = .ok (.iload_n 2, 1) := by decide +kernel
theorem dX10_weakest_35 : decode cX10_weakest 35 = .ok (.ishl, 1) := by decide +kernel
theorem dX10_weakest_36 : decode cX10_weakest 36 = .ok (.ior, 1) := by decide +kernel
theorem dX10_weakest_37 : decode cX10_weakest 37 = .ok (.istore_n 3, 1) := by decide +kernel
theorem dX10_weakest_38 : decode cX10_weakest 38 = .ok (.iload_n 3, 1) := by decide +kernel
theorem dX10_weakest_39 : decode cX10_weakest 39 = .ok (.aload_n 0, 1) := by decide +kernel
theorem dX10_weakest_40 : decode cX10_weakest 40 = .ok (.getfield 60, 3) := by decide +kernel
theorem dX10_weakest_43 : decode cX10_weakest 43 = .ok (.getfield 155, 3) := by decide +kernel
theorem dX10_weakest_46 : decode cX10_weakest 46 = .ok (.if_icmp .eq 70, 3) := by decide +kernel
theorem dX10_weakest_49 : decode cX10_weakest 49 = .ok (.iload_n 3, 1) := by decide +kernel
theorem dX10_weakest_50 : decode cX10_weakest 50 = .ok (.aload_n 0, 1) := by decide +kernel
theorem dX10_weakest_51 : decode cX10_weakest 51 = .ok (.getfield 23, 3) := by decide +kernel
theorem dX10_weakest_54 : decode cX10_weakest 54 = .ok (.invokevirtual 205, 3) := by decide +kernel
theorem dX10_weakest_57 : decode cX10_weakest 57 = .ok (.if_icmp .ne 6, 3) := by decide +kernel
theorem dX10_weakest_60 : decode cX10_weakest 60 = .ok (.goto 56, 3) := by decide +kernel
theorem dX10_weakest_63 : decode cX10_weakest 63 = .ok (.aload_n 0, 1) := by decide +kernel
theorem dX10_weakest_64 : decode cX10_weakest 64 = .ok (.iload_n 3, 1) := by decide +kernel
theorem dX10_weakest_65 : decode cX10_weakest 65 = .ok (.invokevirtual 309, 3) := by decide +kernel
theorem dX10_weakest_68 : decode cX10_weakest 68 = .ok (.ifCond .ne 6, 3) := by decide +kernel
theorem dX10_weakest_71 : decode cX10_weakest 71 = .ok (.bipush (-2), 2) := by decide +kernel
theorem dX10_weakest_73 : decode cX10_weakest 73 = .ok (.ireturn, 1) := by decide +kernel
theorem dX10_weakest_74 : decode cX10_weakest 74 = .ok (.aload_n 0, 1) := by decide +kernel
theorem dX10_weakest_75 : decode cX10_weakest 75 = .ok (.getfield 80, 3) := by decide +kernel
theorem dX10_weakest_78 : decode cX10_weakest 78 = .ok (.aload_n 0, 1) := by decide +kernel
theorem dX10_weakest_79 : decode cX10_weakest 79 = .ok (.getfield 23, 3) := by decide +kernel
theorem dX10_weakest_82 : decode cX10_weakest 82 = .ok (.iload_n 3, 1) := by decide +kernel
theorem dX10_weakest_83 : decode cX10_weakest 83 = .ok (.aload_n 0, 1) := by decide +kernel
theorem dX10_weakest_84 : decode cX10_weakest 84 = .ok (.getfield 23, 3) := by decide +kernel
theorem dX10_weakest_87 : decode cX10_weakest 87 = .ok (.getfield 151, 3) := by decide +kernel
theorem dX10_weakest_90 : decode cX10_weakest 90 = .ok (.invokevirtual 312, 3) := by decide +kernel
theorem dX10_weakest_93 : decode cX10_weakest 93 = .ok (.aload_n 0, 1) := by decide +kernel
theorem dX10_weakest_94 : decode cX10_weakest 94 = .ok (.getfield 80, 3) := by decide +kernel
theorem dX10_weakest_97 : decode cX10_weakest 97 = .ok (.aload_n 0, 1) := by decide +kernel
theorem dX10_weakest_98 : decode cX10_weakest 98 = .ok (.getfield 60, 3) := by decide +kernel
theorem dX10_weakest_101 : decode cX10_weakest 101 = .ok (.getfield 154, 3) := by decide +kernel
theorem dX10_weakest_104 : decode cX10_weakest 104 = .ok (.invokevirtual 335, 3) := by decide +kernel
theorem dX10_weakest_107 : decode cX10_weakest 107 = .ok (.ifCond .eq 7, 3) := by decide +kernel
theorem dX10_weakest_110 : decode cX10_weakest 110 = .ok (.iload_n 2, 1) := by decide +kernel
theorem dX10_weakest_111 : decode cX10_weakest 111 = .ok (.goto 4, 3) := by decide +kernel
theorem dX10_weakest_114 : decode cX10_weakest 114 = .ok (.iload_n 1, 1) := by decide +kernel
theorem dX10_weakest_115 : decode cX10_weakest 115 = .ok (.istore_n 1, 1) := by decide +kernel
theorem dX10_weakest_116 : decode cX10_weakest 116 = .ok (.iinc 2 (-1), 3) := by decide +kernel
theorem dX10_weakest_119 : decode cX10_weakest 119 = .ok (.goto (-97), 3) := by decide +kernel
theorem dX10_weakest_122 : decode cX10_weakest 122 = .ok (.iload_n 1, 1) := by decide +kernel
theorem dX10_weakest_123 : decode cX10_weakest 123 = .ok (.ireturn, 1) := by decide +kernel
theorem dX10_whyNotSaid_0 : decode cX10_whyNotSaid 0 = .ok (.aload_n 0, 1) := by decide +kernel
theorem dX10_whyNotSaid_1 : decode cX10_whyNotSaid 1 = .ok (.getfield 108, 3) := by decide +kernel
theorem dX10_whyNotSaid_4 : decode cX10_whyNotSaid 4 = .ok (.ifCond .ne 5, 3) := by decide +kernel
theorem dX10_whyNotSaid_7 : decode cX10_whyNotSaid 7 = .ok (.iconst 0, 1) := by decide +kernel
theorem dX10_whyNotSaid_8 : decode cX10_whyNotSaid 8 = .ok (.ireturn, 1) := by decide +kernel
theorem dX10_whyNotSaid_9 : decode cX10_whyNotSaid 9 = .ok (.aload_n 0, 1) := by decide +kernel
theorem dX10_whyNotSaid_10 : decode cX10_whyNotSaid 10 = .ok (.iload_n 1, 1) := by decide +kernel
theorem dX10_whyNotSaid_11 : decode cX10_whyNotSaid 11 = .ok (.iload_n 2, 1) := by decide +kernel
theorem dX10_whyNotSaid_12 : decode cX10_whyNotSaid 12 = .ok (.invokevirtual 221, 3) := by decide +kernel
theorem dX10_whyNotSaid_15 : decode cX10_whyNotSaid 15 = .ok (.ifCond .eq 31, 3) := by decide +kernel
theorem dX10_whyNotSaid_18 : decode cX10_whyNotSaid 18 = .ok (.aload_n 0, 1) := by decide +kernel
theorem dX10_whyNotSaid_19 : decode cX10_whyNotSaid 19 = .ok (.iload_n 3, 1) := by decide +kernel
theorem dX10_whyNotSaid_20 : decode cX10_whyNotSaid 20 = .ok (.invokevirtual 217, 3) := by decide +kernel
theorem dX10_whyNotSaid_23 : decode cX10_whyNotSaid 23 = .ok (.ifCond .eq 23, 3) := by decide +kernel
theorem dX10_whyNotSaid_26 : decode cX10_whyNotSaid 26 = .ok (.aload_n 0, 1) := by decide +kernel
theorem dX10_whyNotSaid_27 : decode cX10_whyNotSaid 27 = .ok (.iload 4, 2) := by decide +kernel
theorem dX10_whyNotSaid_29 : decode cX10_whyNotSaid 29 = .ok (.invokevirtual 217, 3) := by decide +kernel
theorem dX10_whyNotSaid_32 : decode cX10_whyNotSaid 32 = .ok (.ifCond .eq 14, 3) := by decide +kernel
theorem dX10_whyNotSaid_35 : decode cX10_whyNotSaid 35 = .ok (.iload 5, 2) := by decide +kernel
theorem dX10_whyNotSaid_37 : decode cX10_whyNotSaid 37 = .ok (.ifCond .lt 9, 3) := by decide +kernel
theorem dX10_whyNotSaid_40 : decode cX10_whyNotSaid 40 = .ok (.iload 5, 2) := by decide +kernel
theorem dX10_whyNotSaid_42 : decode cX10_whyNotSaid 42 = .ok (.iconst 2, 1) := by decide +kernel
theorem dX10_whyNotSaid_43 : decode cX10_whyNotSaid 43 = .ok (.if_icmp .le 5, 3) := by decide +kernel
theorem dX10_whyNotSaid_46 : decode cX10_whyNotSaid 46 = .ok (.iconst 1, 1) := by decide +kernel
theorem dX10_whyNotSaid_47 : decode cX10_whyNotSaid 47 = .ok (.ireturn, 1) := by decide +kernel
theorem dX10_whyNotSaid_48 : decode cX10_whyNotSaid 48 = .ok (.aload_n 0, 1) := by decide +kernel
theorem dX10_whyNotSaid_49 : decode cX10_whyNotSaid 49 = .ok (.getfield 60, 3) := by decide +kernel
theorem dX10_whyNotSaid_52 : decode cX10_whyNotSaid 52 = .ok (.getfield 155, 3) := by decide +kernel
theorem dX10_whyNotSaid_55 : decode cX10_whyNotSaid 55 = .ok (.iload_n 3, 1) := by decide +kernel
theorem dX10_whyNotSaid_56 : decode cX10_whyNotSaid 56 = .ok (.invokestatic 235, 3) := by decide +kernel
theorem dX10_whyNotSaid_59 : decode cX10_whyNotSaid 59 = .ok (.ifCond .ne 5, 3) := by decide +kernel
theorem dX10_whyNotSaid_62 : decode cX10_whyNotSaid 62 = .ok (.iconst 2, 1) := by decide +kernel
theorem dX10_whyNotSaid_63 : decode cX10_whyNotSaid 63 = .ok (.ireturn, 1) := by decide +kernel
theorem dX10_whyNotSaid_64 : decode cX10_whyNotSaid 64 = .ok (.aload_n 0, 1) := by decide +kernel
theorem dX10_whyNotSaid_65 : decode cX10_whyNotSaid 65 = .ok (.iload_n 1, 1) := by decide +kernel
theorem dX10_whyNotSaid_66 : decode cX10_whyNotSaid 66 = .ok (.iload_n 2, 1) := by decide +kernel
theorem dX10_whyNotSaid_67 : decode cX10_whyNotSaid 67 = .ok (.invokevirtual 228, 3) := by decide +kernel
theorem dX10_whyNotSaid_70 : decode cX10_whyNotSaid 70 = .ok (.ifCond .eq 5, 3) := by decide +kernel
theorem dX10_whyNotSaid_73 : decode cX10_whyNotSaid 73 = .ok (.iconst 3, 1) := by decide +kernel
theorem dX10_whyNotSaid_74 : decode cX10_whyNotSaid 74 = .ok (.ireturn, 1) := by decide +kernel
theorem dX10_whyNotSaid_75 : decode cX10_whyNotSaid 75 = .ok (.aload_n 0, 1) := by decide +kernel
theorem dX10_whyNotSaid_76 : decode cX10_whyNotSaid 76 = .ok (.getfield 60, 3) := by decide +kernel
theorem dX10_whyNotSaid_79 : decode cX10_whyNotSaid 79 = .ok (.getfield 173, 3) := by decide +kernel
theorem dX10_whyNotSaid_82 : decode cX10_whyNotSaid 82 = .ok (.bipush 30, 2) := by decide +kernel
theorem dX10_whyNotSaid_84 : decode cX10_whyNotSaid 84 = .ok (.if_icmp .lt 7, 3) := by decide +kernel
theorem dX10_whyNotSaid_87 : decode cX10_whyNotSaid 87 = .ok (.iconst 4, 1) := by decide +kernel
theorem dX10_whyNotSaid_88 : decode cX10_whyNotSaid 88 = .ok (.goto 4, 3) := by decide +kernel
theorem dX10_whyNotSaid_91 : decode cX10_whyNotSaid 91 = .ok (.iconst (-1), 1) := by decide +kernel
theorem dX10_whyNotSaid_92 : decode cX10_whyNotSaid 92 = .ok (.ireturn, 1) := by decide +kernel
theorem dX10_whyNotTold_0 : decode cX10_whyNotTold 0 = .ok (.aload_n 0, 1) := by decide +kernel
theorem dX10_whyNotTold_1 : decode cX10_whyNotTold 1 = .ok (.getfield 108, 3) := by decide +kernel
theorem dX10_whyNotTold_4 : decode cX10_whyNotTold 4 = .ok (.ifCond .ne 5, 3) := by decide +kernel
theorem dX10_whyNotTold_7 : decode cX10_whyNotTold 7 = .ok (.iconst 0, 1) := by decide +kernel
theorem dX10_whyNotTold_8 : decode cX10_whyNotTold 8 = .ok (.ireturn, 1) := by decide +kernel
theorem dX10_whyNotTold_9 : decode cX10_whyNotTold 9 = .ok (.iload_n 1, 1) := by decide +kernel
theorem dX10_whyNotTold_10 : decode cX10_whyNotTold 10 = .ok (.ifCond .lt 8, 3) := by decide +kernel
theorem dX10_whyNotTold_13 : decode cX10_whyNotTold 13 = .ok (.iload_n 1, 1) := by decide +kernel
theorem dX10_whyNotTold_14 : decode cX10_whyNotTold 14 = .ok (.iload_n 2, 1) := by decide +kernel
theorem dX10_whyNotTold_15 : decode cX10_whyNotTold 15 = .ok (.if_icmp .le 5, 3) := by decide +kernel
theorem dX10_whyNotTold_18 : decode cX10_whyNotTold 18 = .ok (.iconst 1, 1) := by decide +kernel
theorem dX10_whyNotTold_19 : decode cX10_whyNotTold 19 = .ok (.ireturn, 1) := by decide +kernel
theorem dX10_whyNotTold_20 : decode cX10_whyNotTold 20 = .ok (.aload_n 0, 1) := by decide +kernel
theorem dX10_whyNotTold_21 : decode cX10_whyNotTold 21 = .ok (.getfield 60, 3) := by decide +kernel
theorem dX10_whyNotTold_24 : decode cX10_whyNotTold 24 = .ok (.getfield 159, 3) := by decide +kernel
theorem dX10_whyNotTold_27 : decode cX10_whyNotTold 27 = .ok (.ifCond .le 7, 3) := by decide +kernel
theorem dX10_whyNotTold_30 : decode cX10_whyNotTold 30 = .ok (.iconst 3, 1) := by decide +kernel
theorem dX10_whyNotTold_31 : decode cX10_whyNotTold 31 = .ok (.goto 4, 3) := by decide +kernel
theorem dX10_whyNotTold_34 : decode cX10_whyNotTold 34 = .ok (.iconst (-1), 1) := by decide +kernel
theorem dX10_whyNotTold_35 : decode cX10_whyNotTold 35 = .ok (.ireturn, 1) := by decide +kernel
theorem dX11_agreed_0 : decode cX11_agreed 0 = .ok (.aload_n 0, 1) := by decide +kernel
theorem dX11_agreed_1 : decode cX11_agreed 1 = .ok (.iconst 0, 1) := by decide +kernel
theorem dX11_agreed_2 : decode cX11_agreed 2 = .ok (.putfield 80, 3) := by decide +kernel
theorem dX11_agreed_5 : decode cX11_agreed 5 = .ok (.aload_n 0, 1) := by decide +kernel
theorem dX11_agreed_6 : decode cX11_agreed 6 = .ok (.invokevirtual 358, 3) := by decide +kernel
theorem dX11_agreed_9 : decode cX11_agreed 9 = .ok (.istore_n 1, 1) := by decide +kernel
theorem dX11_agreed_10 : decode cX11_agreed 10 = .ok (.iload_n 1, 1) := by decide +kernel
theorem dX11_agreed_11 : decode cX11_agreed 11 = .ok (.ifCond .le 19, 3) := by decide +kernel
theorem dX11_agreed_14 : decode cX11_agreed 14 = .ok (.aload_n 0, 1) := by decide +kernel
theorem dX11_agreed_15 : decode cX11_agreed 15 = .ok (.iload_n 1, 1) := by decide +kernel
theorem dX11_agreed_16 : decode cX11_agreed 16 = .ok (.iconst 1, 1) := by decide +kernel
theorem dX11_agreed_17 : decode cX11_agreed 17 = .ok (.isub, 1) := by decide +kernel
theorem dX11_agreed_18 : decode cX11_agreed 18 = .ok (.invokevirtual 369, 3) := by decide +kernel
theorem dX11_agreed_21 : decode cX11_agreed 21 = .ok (.ifCond .eq 9, 3) := by decide +kernel
theorem dX11_agreed_24 : decode cX11_agreed 24 = .ok (.iinc 1 (-1), 3) := by decide +kernel
theorem dX11_agreed_27 : decode cX11_agreed 27 = .ok (.goto (-17), 3) := by decide +kernel
theorem dX11_agreed_30 : decode cX11_agreed 30 = .ok (.iload_n 1, 1) := by decide +kernel
theorem dX11_agreed_31 : decode cX11_agreed 31 = .ok (.aload_n 0, 1) := by decide +kernel
theorem dX11_agreed_32 : decode cX11_agreed 32 = .ok (.invokevirtual 358, 3) := by decide +kernel
theorem dX11_agreed_35 : decode cX11_agreed 35 = .ok (.if_icmp .ge 7, 3) := by decide +kernel
theorem dX11_agreed_38 : decode cX11_agreed 38 = .ok (.iload_n 1, 1) := by decide +kernel
theorem dX11_agreed_39 : decode cX11_agreed 39 = .ok (.goto 4, 3) := by decide +kernel
theorem dX11_agreed_42 : decode cX11_agreed 42 = .ok (.iconst (-1), 1) := by decide +kernel
theorem dX11_agreed_43 : decode cX11_agreed 43 = .ok (.ireturn, 1) := by decide +kernel
theorem dX11_asOthers_0 : decode cX11_asOthers 0 = .ok (.aload_n 0, 1) := by decide +kernel
theorem dX11_asOthers_1 : decode cX11_asOthers 1 = .ok (.iconst 0, 1) := by decide +kernel
theorem dX11_asOthers_2 : decode cX11_asOthers 2 = .ok (.putfield 80, 3) := by decide +kernel
theorem dX11_asOthers_5 : decode cX11_asOthers 5 = .ok (.aload_n 0, 1) := by decide +kernel
theorem dX11_asOthers_6 : decode cX11_asOthers 6 = .ok (.getfield 232, 3) := by decide +kernel
theorem dX11_asOthers_9 : decode cX11_asOthers 9 = .ok (.ifCond .eq 15, 3) := by decide +kernel
theorem dX11_asOthers_12 : decode cX11_asOthers 12 = .ok (.iload_n 1, 1) := by decide +kernel
theorem dX11_asOthers_13 : decode cX11_asOthers 13 = .ok (.i2l, 1) := by decide +kernel
theorem dX11_asOthers_14 : decode cX11_asOthers 14 = .ok (.lconst 0, 1) := by decide +kernel
theorem dX11_asOthers_15 : decode cX11_asOthers 15 = .ok (.ldc2_w 267, 3) := by decide +kernel
theorem dX11_asOthers_18 : decode cX11_asOthers 18 = .ok (.invokestatic 132, 3) := by decide +kernel
theorem dX11_asOthers_21 : decode cX11_asOthers 21 = .ok (.ifCond .ne 6, 3) := by decide +kernel
theorem dX11_asOthers_24 : decode cX11_asOthers 24 = .ok (.bipush (-2), 2) := by decide +kernel
theorem dX11_asOthers_26 : decode cX11_asOthers 26 = .ok (.ireturn, 1) := by decide +kernel
theorem dX11_asOthers_27 : decode cX11_asOthers 27 = .ok (.aload_n 0, 1) := by decide +kernel
theorem dX11_asOthers_28 : decode cX11_asOthers 28 = .ok (.invokevirtual 329, 3) := by decide +kernel
theorem dX11_asOthers_31 : decode cX11_asOthers 31 = .ok (.aload_n 0, 1) := by decide +kernel
theorem dX11_asOthers_32 : decode cX11_asOthers 32 = .ok (.getfield 212, 3) := by decide +kernel
theorem dX11_asOthers_35 : decode cX11_asOthers 35 = .ok (.istore_n 2, 1) := by decide +kernel
theorem dX11_asOthers_36 : decode cX11_asOthers 36 = .ok (.aload_n 0, 1) := by decide +kernel
theorem dX11_asOthers_37 : decode cX11_asOthers 37 = .ok (.iconst 1, 1) := by decide +kernel
theorem dX11_asOthers_38 : decode cX11_asOthers 38 = .ok (.aload_n 0, 1) := by decide +kernel
theorem dX11_asOthers_39 : decode cX11_asOthers 39 = .ok (.getfield 212, 3) := by decide +kernel
theorem dX11_asOthers_42 : decode cX11_asOthers 42 = .ok (.isub, 1) := by decide +kernel
theorem dX11_asOthers_43 : decode cX11_asOthers 43 = .ok (.putfield 212, 3) := by decide +kernel
theorem dX11_asOthers_46 : decode cX11_asOthers 46 = .ok (.aload_n 0, 1) := by decide +kernel
theorem dX11_asOthers_47 : decode cX11_asOthers 47 = .ok (.iconst 0, 1) := by decide +kernel
theorem dX11_asOthers_48 : decode cX11_asOthers 48 = .ok (.putfield 236, 3) := by decide +kernel
theorem dX11_asOthers_51 : decode cX11_asOthers 51 = .ok (.aload_n 0, 1) := by decide +kernel
theorem dX11_asOthers_52 : decode cX11_asOthers 52 = .ok (.iconst 0, 1) := by decide +kernel
theorem dX11_asOthers_53 : decode cX11_asOthers 53 = .ok (.putfield 277, 3) := by decide +kernel
theorem dX11_asOthers_56 : decode cX11_asOthers 56 = .ok (.aload_n 0, 1) := by decide +kernel
theorem dX11_asOthers_57 : decode cX11_asOthers 57 = .ok (.invokevirtual 314, 3) := by decide +kernel
theorem dX11_asOthers_60 : decode cX11_asOthers 60 = .ok (.iconst (-1), 1) := by decide +kernel
theorem dX11_asOthers_61 : decode cX11_asOthers 61 = .ok (.istore_n 3, 1) := by decide +kernel
theorem dX11_asOthers_62 : decode cX11_asOthers 62 = .ok (.iconst 0, 1) := by decide +kernel
theorem dX11_asOthers_63 : decode cX11_asOthers 63 = .ok (.istore 4, 2) := by decide +kernel
theorem dX11_asOthers_65 : decode cX11_asOthers 65 = .ok (.iload 4, 2) := by decide +kernel
theorem dX11_asOthers_67 : decode cX11_asOthers 67 = .ok (.aload_n 0, 1) := by decide +kernel
theorem dX11_asOthers_68 : decode cX11_asOthers 68 = .ok (.getfield 220, 3) := by decide +kernel
theorem dX11_asOthers_71 : decode cX11_asOthers 71 = .ok (.if_icmp .ge 54, 3) := by decide +kernel
theorem dX11_asOthers_74 : decode cX11_asOthers 74 = .ok (.iconst 0, 1) := by decide +kernel
theorem dX11_asOthers_75 : decode cX11_asOthers 75 = .ok (.istore 5, 2) := by decide +kernel
theorem dX11_asOthers_77 : decode cX11_asOthers 77 = .ok (.iload 5, 2) := by decide +kernel
theorem dX11_asOthers_79 : decode cX11_asOthers 79 = .ok (.aload_n 0, 1) := by decide +kernel
theorem dX11_asOthers_80 : decode cX11_asOthers 80 = .ok (.invokevirtual 287, 3) := by decide +kernel
theorem dX11_asOthers_83 : decode cX11_asOthers 83 = .ok (.if_icmp .ge 13, 3) := by decide +kernel
theorem dX11_asOthers_86 : decode cX11_asOthers 86 = .ok (.aload_n 0, 1) := by decide +kernel
theorem dX11_asOthers_87 : decode cX11_asOthers 87 = .ok (.invokevirtual 317, 3) := by decide +kernel
theorem dX11_asOthers_90 : decode cX11_asOthers 90 = .ok (.iinc 5 1, 3) := by decide +kernel
theorem dX11_asOthers_93 : decode cX11_asOthers 93 = .ok (.goto (-16), 3) := by decide +kernel
theorem dX11_asOthers_96 : decode cX11_asOthers 96 = .ok (.aload_n 0, 1) := by decide +kernel
theorem dX11_asOthers_97 : decode cX11_asOthers 97 = .ok (.invokevirtual 392, 3) := by decide +kernel
theorem dX11_asOthers_100 : decode cX11_asOthers 100 = .ok (.ifCond .ne 7, 3) := by decide +kernel
theorem dX11_asOthers_103 : decode cX11_asOthers 103 = .ok (.iconst (-1), 1) := by decide +kernel
theorem dX11_asOthers_104 : decode cX11_asOthers 104 = .ok (.goto 14, 3) := by decide +kernel
theorem dX11_asOthers_107 : decode cX11_asOthers 107 = .ok (.iload_n 3, 1) := by decide +kernel
theorem dX11_asOthers_108 : decode cX11_asOthers 108 = .ok (.iconst (-1), 1) := by decide +kernel
theorem dX11_asOthers_109 : decode cX11_asOthers 109 = .ok (.if_icmp .ne 8, 3) := by decide +kernel
theorem dX11_asOthers_112 : decode cX11_asOthers 112 = .ok (.iload 4, 2) := by decide +kernel
theorem dX11_asOthers_114 : decode cX11_asOthers 114 = .ok (.goto 4, 3) := by decide +kernel
theorem dX11_asOthers_117 : decode cX11_asOthers 117 = .ok (.iload_n 3, 1) := by decide +kernel
theorem dX11_asOthers_118 : decode cX11_asOthers 118 = .ok (.istore_n 3, 1) := by decide +kernel
theorem dX11_asOthers_119 : decode cX11_asOthers 119 = .ok (.iinc 4 1, 3) := by decide +kernel
theorem dX11_asOthers_122 : decode cX11_asOthers 122 = .ok (.goto (-57), 3) := by decide +kernel
theorem dX11_asOthers_125 : decode cX11_asOthers 125 = .ok (.aload_n 0, 1) := by decide +kernel
theorem dX11_asOthers_126 : decode cX11_asOthers 126 = .ok (.aload_n 0, 1) := by decide +kernel
theorem dX11_asOthers_127 : decode cX11_asOthers 127 = .ok (.getfield 212, 3) := by decide +kernel
theorem dX11_asOthers_130 : decode cX11_asOthers 130 = .ok (.invokevirtual 378, 3) := by decide +kernel
theorem dX11_asOthers_133 : decode cX11_asOthers 133 = .ok (.istore 4, 2) := by decide +kernel
theorem dX11_asOthers_135 : decode cX11_asOthers 135 = .ok (.aload_n 0, 1) := by decide +kernel
theorem dX11_asOthers_136 : decode cX11_asOthers 136 = .ok (.iload_n 2, 1) := by decide +kernel
theorem dX11_asOthers_137 : decode cX11_asOthers 137 = .ok (.putfield 212, 3) := by decide +kernel
theorem dX11_asOthers_140 : decode cX11_asOthers 140 = .ok (.iload_n 1, 1) := by decide +kernel
theorem dX11_asOthers_141 : decode cX11_asOthers 141 = .ok (.ifCond .ne 7, 3) := by decide +kernel
theorem dX11_asOthers_144 : decode cX11_asOthers 144 = .ok (.iload_n 3, 1) := by decide +kernel
theorem dX11_asOthers_145 : decode cX11_asOthers 145 = .ok (.goto 29, 3) := by decide +kernel
theorem dX11_asOthers_148 : decode cX11_asOthers 148 = .ok (.iload_n 1, 1) := by decide +kernel
theorem dX11_asOthers_149 : decode cX11_asOthers 149 = .ok (.iconst 1, 1) := by decide +kernel
theorem dX11_asOthers_150 : decode cX11_asOthers 150 = .ok (.if_icmp .ne 10, 3) := by decide +kernel
theorem dX11_asOthers_153 : decode cX11_asOthers 153 = .ok (.aload_n 0, 1) := by decide +kernel
theorem dX11_asOthers_154 : decode cX11_asOthers 154 = .ok (.getfield 254, 3) := by decide +kernel
theorem dX11_asOthers_157 : decode cX11_asOthers 157 = .ok (.goto 17, 3) := by decide +kernel
theorem dX11_asOthers_160 : decode cX11_asOthers 160 = .ok (.iload_n 1, 1) := by decide +kernel
theorem dX11_asOthers_161 : decode cX11_asOthers 161 = .ok (.iconst 2, 1) := by decide +kernel
theorem dX11_asOthers_162 : decode cX11_asOthers 162 = .ok (.if_icmp .ne 10, 3) := by decide +kernel
theorem dX11_asOthers_165 : decode cX11_asOthers 165 = .ok (.aload_n 0, 1) := by decide +kernel
theorem dX11_asOthers_166 : decode cX11_asOthers 166 = .ok (.invokevirtual 443, 3) := by decide +kernel
theorem dX11_asOthers_169 : decode cX11_asOthers 169 = .ok (.goto 5, 3) := by decide +kernel
theorem dX11_asOthers_172 : decode cX11_asOthers 172 = .ok (.iload 4, 2) := by decide +kernel
theorem dX11_asOthers_174 : decode cX11_asOthers 174 = .ok (.ireturn, 1) := by decide +kernel
theorem dX11_back_0 : decode cX11_back 0 = .ok (.aload_n 0, 1) := by decide +kernel
theorem dX11_back_1 : decode cX11_back 1 = .ok (.iconst 0, 1) := by decide +kernel
theorem dX11_back_2 : decode cX11_back 2 = .ok (.putfield 80, 3) := by decide +kernel
theorem dX11_back_5 : decode cX11_back 5 = .ok (.aload_n 0, 1) := by decide +kernel
theorem dX11_back_6 : decode cX11_back 6 = .ok (.getfield 242, 3) := by decide +kernel
theorem dX11_back_9 : decode cX11_back 9 = .ok (.ifCond .ne 5, 3) := by decide +kernel
theorem dX11_back_12 : decode cX11_back 12 = .ok (.iconst (-1), 1) := by decide +kernel
theorem dX11_back_13 : decode cX11_back 13 = .ok (.ireturn, 1) := by decide +kernel
theorem dX11_back_14 : decode cX11_back 14 = .ok (.iconst 0, 1) := by decide +kernel
theorem dX11_back_15 : decode cX11_back 15 = .ok (.istore_n 1, 1) := by decide +kernel
theorem dX11_back_16 : decode cX11_back 16 = .ok (.iload_n 1, 1) := by decide +kernel
theorem dX11_back_17 : decode cX11_back 17 = .ok (.sipush 2126, 3) := by decide +kernel
theorem dX11_back_20 : decode cX11_back 20 = .ok (.if_icmp .ge 21, 3) := by decide +kernel
theorem dX11_back_23 : decode cX11_back 23 = .ok (.aload_n 0, 1) := by decide +kernel
theorem dX11_back_24 : decode cX11_back 24 = .ok (.getfield 57, 3) := by decide +kernel
theorem dX11_back_27 : decode cX11_back 27 = .ok (.iload_n 1, 1) := by decide +kernel
theorem dX11_back_28 : decode cX11_back 28 = .ok (.aload_n 0, 1) := by decide +kernel
theorem dX11_back_29 : decode cX11_back 29 = .ok (.getfield 60, 3) := by decide +kernel
theorem dX11_back_32 : decode cX11_back 32 = .ok (.iload_n 1, 1) := by decide +kernel
theorem dX11_back_33 : decode cX11_back 33 = .ok (.iaload, 1) := by decide +kernel
theorem dX11_back_34 : decode cX11_back 34 = .ok (.iastore, 1) := by decide +kernel
theorem dX11_back_35 : decode cX11_back 35 = .ok (.iinc 1 1, 3) := by decide +kernel
theorem dX11_back_38 : decode cX11_back 38 = .ok (.goto (-22), 3) := by decide +kernel
theorem dX11_back_41 : decode cX11_back 41 = .ok (.aload_n 0, 1) := by decide +kernel
theorem dX11_back_42 : decode cX11_back 42 = .ok (.aload_n 0, 1) := by decide +kernel
theorem dX11_back_43 : decode cX11_back 43 = .ok (.getfield 352, 3) := by decide +kernel
theorem dX11_back_46 : decode cX11_back 46 = .ok (.putfield 320, 3) := by decide +kernel
theorem dX11_back_49 : decode cX11_back 49 = .ok (.aload_n 0, 1) := by decide +kernel
theorem dX11_back_50 : decode cX11_back 50 = .ok (.iconst 0, 1) := by decide +kernel
theorem dX11_back_51 : decode cX11_back 51 = .ok (.putfield 239, 3) := by decide +kernel
theorem dX11_back_54 : decode cX11_back 54 = .ok (.aload_n 0, 1) := by decide +kernel
theorem dX11_back_55 : decode cX11_back 55 = .ok (.getfield 57, 3) := by decide +kernel
theorem dX11_back_58 : decode cX11_back 58 = .ok (.bipush 72, 2) := by decide +kernel
theorem dX11_back_60 : decode cX11_back 60 = .ok (.iaload, 1) := by decide +kernel
theorem dX11_back_61 : decode cX11_back 61 = .ok (.ireturn, 1) := by decide +kernel
theorem dX11_brings_0 : decode cX11_brings 0 = .ok (.bipush 24, 2) := by decide +kernel
theorem dX11_brings_2 : decode cX11_brings 2 = .ok (.istore_n 2, 1) := by decide +kernel
theorem dX11_brings_3 : decode cX11_brings 3 = .ok (.iload_n 2, 1) := by decide +kernel
theorem dX11_brings_4 : decode cX11_brings 4 = .ok (.ifCond .lt 45, 3) := by decide +kernel
theorem dX11_brings_7 : decode cX11_brings 7 = .ok (.iload_n 1, 1) := by decide +kernel
theorem dX11_brings_8 : decode cX11_brings 8 = .ok (.iload_n 2, 1) := by decide +kernel
theorem dX11_brings_9 : decode cX11_brings 9 = .ok (.ishr, 1) := by decide +kernel
theorem dX11_brings_10 : decode cX11_brings 10 = .ok (.sipush 255, 3) := by decide +kernel
theorem dX11_brings_13 : decode cX11_brings 13 = .ok (.iand, 1) := by decide +kernel
theorem dX11_brings_14 : decode cX11_brings 14 = .ok (.istore_n 3, 1) := by decide +kernel
theorem dX11_brings_15 : decode cX11_brings 15 = .ok (.iload_n 3, 1) := by decide +kernel
theorem dX11_brings_16 : decode cX11_brings 16 = .ok (.ifCond .ne 6, 3) := by decide +kernel
theorem dX11_brings_19 : decode cX11_brings 19 = .ok (.goto 24, 3) := by decide +kernel
theorem dX11_brings_22 : decode cX11_brings 22 = .ok (.aload_n 0, 1) := by decide +kernel
theorem dX11_brings_23 : decode cX11_brings 23 = .ok (.getfield 9, 3) := by decide +kernel
theorem dX11_brings_26 : decode cX11_brings 26 = .ok (.aload_n 0, 1) := by decide +kernel
theorem dX11_brings_27 : decode cX11_brings 27 = .ok (.getfield 84, 3) := by decide +kernel
theorem dX11_brings_30 : decode cX11_brings 30 = .ok (.iload_n 3, 1) := by decide +kernel
theorem dX11_brings_31 : decode cX11_brings 31 = .ok (.i2b, 1) := by decide +kernel
theorem dX11_brings_32 : decode cX11_brings 32 = .ok (.bastore, 1) := by decide +kernel
theorem dX11_brings_33 : decode cX11_brings 33 = .ok (.aload_n 0, 1) := by decide +kernel
theorem dX11_brings_34 : decode cX11_brings 34 = .ok (.dup, 1) := by decide +kernel
theorem dX11_brings_35 : decode cX11_brings 35 = .ok (.getfield 84, 3) := by decide +kernel
theorem dX11_brings_38 : decode cX11_brings 38 = .ok (.iconst 1, 1) := by decide +kernel
theorem dX11_brings_39 : decode cX11_brings 39 = .ok (.iadd, 1) := by decide +kernel
theorem dX11_brings_40 : decode cX11_brings 40 = .ok (.putfield 84, 3) := by decide +kernel
theorem dX11_brings_43 : decode cX11_brings 43 = .ok (.iinc 2 (-8), 3) := by decide +kernel
theorem dX11_brings_46 : decode cX11_brings 46 = .ok (.goto (-43), 3) := by decide +kernel
theorem dX11_brings_49 : decode cX11_brings 49 = .ok (.return_, 1) := by decide +kernel
theorem dX11_broken_0 : decode cX11_broken 0 = .ok (.aload_n 0, 1) := by decide +kernel
theorem dX11_broken_1 : decode cX11_broken 1 = .ok (.iconst 0, 1) := by decide +kernel
theorem dX11_broken_2 : decode cX11_broken 2 = .ok (.putfield 80, 3) := by decide +kernel
theorem dX11_broken_5 : decode cX11_broken 5 = .ok (.aload_n 0, 1) := by decide +kernel
theorem dX11_broken_6 : decode cX11_broken 6 = .ok (.invokevirtual 396, 3) := by decide +kernel
theorem dX11_broken_9 : decode cX11_broken 9 = .ok (.ifCond .eq 10, 3) := by decide +kernel
theorem dX11_broken_12 : decode cX11_broken 12 = .ok (.aload_n 0, 1) := by decide +kernel
theorem dX11_broken_13 : decode cX11_broken 13 = .ok (.invokevirtual 399, 3) := by decide +kernel
theorem dX11_broken_16 : decode cX11_broken 16 = .ok (.goto 5, 3) := by decide +kernel
theorem dX11_broken_19 : decode cX11_broken 19 = .ok (.bipush (-2), 2) := by decide +kernel
theorem dX11_broken_21 : decode cX11_broken 21 = .ok (.ireturn, 1) := by decide +kernel
theorem dX11_brokenPlan_0 : decode cX11_brokenPlan 0 = .ok (.aload_n 0, 1) := by decide +kernel
theorem dX11_brokenPlan_1 : decode cX11_brokenPlan 1 = .ok (.iconst 0, 1) := by decide +kernel
theorem dX11_brokenPlan_2 : decode cX11_brokenPlan 2 = .ok (.putfield 80, 3) := by decide +kernel
theorem dX11_brokenPlan_5 : decode cX11_brokenPlan 5 = .ok (.aload_n 0, 1) := by decide +kernel
theorem dX11_brokenPlan_6 : decode cX11_brokenPlan 6 = .ok (.invokevirtual 396, 3) := by decide +kernel
theorem dX11_brokenPlan_9 : decode cX11_brokenPlan 9 = .ok (.ifCond .ne 6, 3) := by decide +kernel
theorem dX11_brokenPlan_12 : decode cX11_brokenPlan 12 = .ok (.bipush (-2), 2) := by decide +kernel
theorem dX11_brokenPlan_14 : decode cX11_brokenPlan 14 = .ok (.ireturn, 1) := by decide +kernel
theorem dX11_brokenPlan_15 : decode cX11_brokenPlan 15 = .ok (.aload_n 0, 1) := by decide +kernel
theorem dX11_brokenPlan_16 : decode cX11_brokenPlan 16 = .ok (.invokevirtual 399, 3) := by decide +kernel
theorem dX11_brokenPlan_19 : decode cX11_brokenPlan 19 = .ok (.istore_n 2, 1) := by decide +kernel
theorem dX11_brokenPlan_20 : decode cX11_brokenPlan 20 = .ok (.iload_n 2, 1) := by decide +kernel
theorem dX11_brokenPlan_21 : decode cX11_brokenPlan 21 = .ok (.iconst (-1), 1) := by decide +kernel
theorem dX11_brokenPlan_22 : decode cX11_brokenPlan 22 = .ok (.if_icmp .ne 5, 3) := by decide +kernel
theorem dX11_brokenPlan_25 : decode cX11_brokenPlan 25 = .ok (.iconst (-1), 1) := by decide +kernel
theorem dX11_brokenPlan_26 : decode cX11_brokenPlan 26 = .ok (.ireturn, 1) := by decide +kernel
theorem dX11_brokenPlan_27 : decode cX11_brokenPlan 27 = .ok (.aload_n 0, 1) := by decide +kernel
theorem dX11_brokenPlan_28 : decode cX11_brokenPlan 28 = .ok (.iload_n 2, 1) := by decide +kernel
theorem dX11_brokenPlan_29 : decode cX11_brokenPlan 29 = .ok (.invokevirtual 436, 3) := by decide +kernel
theorem dX11_brokenPlan_32 : decode cX11_brokenPlan 32 = .ok (.iload_n 1, 1) := by decide +kernel
theorem dX11_brokenPlan_33 : decode cX11_brokenPlan 33 = .ok (.iconst (-1), 1) := by decide +kernel
theorem dX11_brokenPlan_34 : decode cX11_brokenPlan 34 = .ok (.if_icmp .ne 10, 3) := by decide +kernel
theorem dX11_brokenPlan_37 : decode cX11_brokenPlan 37 = .ok (.aload_n 0, 1) := by decide +kernel
theorem dX11_brokenPlan_38 : decode cX11_brokenPlan 38 = .ok (.getfield 414, 3) := by decide +kernel
theorem dX11_brokenPlan_41 : decode cX11_brokenPlan 41 = .ok (.goto 29, 3) := by decide +kernel
theorem dX11_brokenPlan_44 : decode cX11_brokenPlan 44 = .ok (.iload_n 1, 1) := by decide +kernel
theorem dX11_brokenPlan_45 : decode cX11_brokenPlan 45 = .ok (.i2l, 1) := by decide +kernel
theorem dX11_brokenPlan_46 : decode cX11_brokenPlan 46 = .ok (.lconst 0, 1) := by decide +kernel
theorem dX11_brokenPlan_47 : decode cX11_brokenPlan 47 = .ok (.aload_n 0, 1) := by decide +kernel
theorem dX11_brokenPlan_48 : decode cX11_brokenPlan 48 = .ok (.getfield 414, 3) := by decide +kernel
theorem dX11_brokenPlan_51 : decode cX11_brokenPlan 51 = .ok (.iconst 1, 1) := by decide +kernel
theorem dX11_brokenPlan_52 : decode cX11_brokenPlan 52 = .ok (.isub, 1) := by decide +kernel
theorem dX11_brokenPlan_53 : decode cX11_brokenPlan 53 = .ok (.i2l, 1) := by decide +kernel
theorem dX11_brokenPlan_54 : decode cX11_brokenPlan 54 = .ok (.invokestatic 132, 3) := by decide +kernel
theorem dX11_brokenPlan_57 : decode cX11_brokenPlan 57 = .ok (.ifCond .eq 12, 3) := by decide +kernel
theorem dX11_brokenPlan_60 : decode cX11_brokenPlan 60 = .ok (.aload_n 0, 1) := by decide +kernel
theorem dX11_brokenPlan_61 : decode cX11_brokenPlan 61 = .ok (.getfield 74, 3) := by decide +kernel
theorem dX11_brokenPlan_64 : decode cX11_brokenPlan 64 = .ok (.iload_n 1, 1) := by decide +kernel
theorem dX11_brokenPlan_65 : decode cX11_brokenPlan 65 = .ok (.iaload, 1) := by decide +kernel
theorem dX11_brokenPlan_66 : decode cX11_brokenPlan 66 = .ok (.goto 4, 3) := by decide +kernel
theorem dX11_brokenPlan_69 : decode cX11_brokenPlan 69 = .ok (.iconst (-1), 1) := by decide +kernel
theorem dX11_brokenPlan_70 : decode cX11_brokenPlan 70 = .ok (.ireturn, 1) := by decide +kernel
theorem dX11_brokenStarts_0 : decode cX11_brokenStarts 0 = .ok (.aload_n 0, 1) := by decide +kernel
theorem dX11_brokenStarts_1 : decode cX11_brokenStarts 1 = .ok (.iconst 0, 1) := by decide +kernel
theorem dX11_brokenStarts_2 : decode cX11_brokenStarts 2 = .ok (.putfield 80, 3) := by decide +kernel
theorem dX11_brokenStarts_5 : decode cX11_brokenStarts 5 = .ok (.iload_n 1, 1) := by decide +kernel
theorem dX11_brokenStarts_6 : decode cX11_brokenStarts 6 = .ok (.i2l, 1) := by decide +kernel
theorem dX11_brokenStarts_7 : decode cX11_brokenStarts 7 = .ok (.lconst 0, 1) := by decide +kernel
theorem dX11_brokenStarts_8 : decode cX11_brokenStarts 8 = .ok (.lconst 1, 1) := by decide +kernel
theorem dX11_brokenStarts_9 : decode cX11_brokenStarts 9 = .ok (.invokestatic 132, 3) := by decide +kernel
theorem dX11_brokenStarts_12 : decode cX11_brokenStarts 12 = .ok (.ifCond .eq 10, 3) := by decide +kernel
theorem dX11_brokenStarts_15 : decode cX11_brokenStarts 15 = .ok (.aload_n 0, 1) := by decide +kernel
theorem dX11_brokenStarts_16 : decode cX11_brokenStarts 16 = .ok (.invokevirtual 396, 3) := by decide +kernel
theorem dX11_brokenStarts_19 : decode cX11_brokenStarts 19 = .ok (.ifCond .ne 6, 3) := by decide +kernel
theorem dX11_brokenStarts_22 : decode cX11_brokenStarts 22 = .ok (.bipush (-2), 2) := by decide +kernel
theorem dX11_brokenStarts_24 : decode cX11_brokenStarts 24 = .ok (.ireturn, 1) := by decide +kernel
theorem dX11_brokenStarts_25 : decode cX11_brokenStarts 25 = .ok (.aload_n 0, 1) := by decide +kernel
theorem dX11_brokenStarts_26 : decode cX11_brokenStarts 26 = .ok (.invokevirtual 408, 3) := by decide +kernel
theorem dX11_brokenStarts_29 : decode cX11_brokenStarts 29 = .ok (.iload_n 1, 1) := by decide +kernel
theorem dX11_brokenStarts_30 : decode cX11_brokenStarts 30 = .ok (.ifCond .ne 10, 3) := by decide +kernel
theorem dX11_brokenStarts_33 : decode cX11_brokenStarts 33 = .ok (.aload_n 0, 1) := by decide +kernel
theorem dX11_brokenStarts_34 : decode cX11_brokenStarts 34 = .ok (.getfield 402, 3) := by decide +kernel
theorem dX11_brokenStarts_37 : decode cX11_brokenStarts 37 = .ok (.goto 7, 3) := by decide +kernel
theorem dX11_brokenStarts_40 : decode cX11_brokenStarts 40 = .ok (.aload_n 0, 1) := by decide +kernel
theorem dX11_brokenStarts_41 : decode cX11_brokenStarts 41 = .ok (.getfield 405, 3) := by decide +kernel
theorem dX11_brokenStarts_44 : decode cX11_brokenStarts 44 = .ok (.ireturn, 1) := by decide +kernel
theorem dX11_byChance_0 : decode cX11_byChance 0 = .ok (.aload_n 0, 1) := by decide +kernel
theorem dX11_byChance_1 : decode cX11_byChance 1 = .ok (.iconst 0, 1) := by decide +kernel
theorem dX11_byChance_2 : decode cX11_byChance 2 = .ok (.putfield 80, 3) := by decide +kernel
theorem dX11_byChance_5 : decode cX11_byChance 5 = .ok (.aload_n 0, 1) := by decide +kernel
theorem dX11_byChance_6 : decode cX11_byChance 6 = .ok (.getfield 232, 3) := by decide +kernel
theorem dX11_byChance_9 : decode cX11_byChance 9 = .ok (.ifCond .eq 28, 3) := by decide +kernel
theorem dX11_byChance_12 : decode cX11_byChance 12 = .ok (.iload_n 1, 1) := by decide +kernel
theorem dX11_byChance_13 : decode cX11_byChance 13 = .ok (.i2l, 1) := by decide +kernel
theorem dX11_byChance_14 : decode cX11_byChance 14 = .ok (.lconst 1, 1) := by decide +kernel
theorem dX11_byChance_15 : decode cX11_byChance 15 = .ok (.ldc2_w 446, 3) := by decide +kernel
theorem dX11_byChance_18 : decode cX11_byChance 18 = .ok (.invokestatic 132, 3) := by decide +kernel
theorem dX11_byChance_21 : decode cX11_byChance 21 = .ok (.ifCond .eq 16, 3) := by decide +kernel
theorem dX11_byChance_24 : decode cX11_byChance 24 = .ok (.iload 4, 2) := by decide +kernel
theorem dX11_byChance_26 : decode cX11_byChance 26 = .ok (.i2l, 1) := by decide +kernel
theorem dX11_byChance_27 : decode cX11_byChance 27 = .ok (.lconst 0, 1) := by decide +kernel
theorem dX11_byChance_28 : decode cX11_byChance 28 = .ok (.ldc2_w 267, 3) := by decide +kernel
theorem dX11_byChance_31 : decode cX11_byChance 31 = .ok (.invokestatic 132, 3) := by decide +kernel
theorem dX11_byChance_34 : decode cX11_byChance 34 = .ok (.ifCond .ne 6, 3) := by decide +kernel
theorem dX11_byChance_37 : decode cX11_byChance 37 = .ok (.bipush (-2), 2) := by decide +kernel
theorem dX11_byChance_39 : decode cX11_byChance 39 = .ok (.ireturn, 1) := by decide +kernel
theorem dX11_byChance_40 : decode cX11_byChance 40 = .ok (.aload_n 0, 1) := by decide +kernel
theorem dX11_byChance_41 : decode cX11_byChance 41 = .ok (.invokevirtual 329, 3) := by decide +kernel
theorem dX11_byChance_44 : decode cX11_byChance 44 = .ok (.aload_n 0, 1) := by decide +kernel
theorem dX11_byChance_45 : decode cX11_byChance 45 = .ok (.getfield 228, 3) := by decide +kernel
theorem dX11_byChance_48 : decode cX11_byChance 48 = .ok (.lstore 5, 2) := by decide +kernel
theorem dX11_byChance_50 : decode cX11_byChance 50 = .ok (.iconst 0, 1) := by decide +kernel
theorem dX11_byChance_51 : decode cX11_byChance 51 = .ok (.istore 7, 2) := by decide +kernel
theorem dX11_byChance_53 : decode cX11_byChance 53 = .ok (.iconst 0, 1) := by decide +kernel
theorem dX11_byChance_54 : decode cX11_byChance 54 = .ok (.istore 8, 2) := by decide +kernel
theorem dX11_byChance_56 : decode cX11_byChance 56 = .ok (.iconst (-1), 1) := by decide +kernel
theorem dX11_byChance_57 : decode cX11_byChance 57 = .ok (.istore 9, 2) := by decide +kernel
theorem dX11_byChance_59 : decode cX11_byChance 59 = .ok (.iconst 0, 1) := by decide +kernel
theorem dX11_byChance_60 : decode cX11_byChance 60 = .ok (.istore 10, 2) := by decide +kernel
theorem dX11_byChance_62 : decode cX11_byChance 62 = .ok (.iconst 0, 1) := by decide +kernel
theorem dX11_byChance_63 : decode cX11_byChance 63 = .ok (.istore 11, 2) := by decide +kernel
theorem dX11_byChance_65 : decode cX11_byChance 65 = .ok (.aload_n 0, 1) := by decide +kernel
theorem dX11_byChance_66 : decode cX11_byChance 66 = .ok (.iload 11, 2) := by decide +kernel
theorem dX11_byChance_68 : decode cX11_byChance 68 = .ok (.invokevirtual 274, 3) := by decide +kernel
theorem dX11_byChance_71 : decode cX11_byChance 71 = .ok (.ifCond .eq 9, 3) := by decide +kernel
theorem dX11_byChance_74 : decode cX11_byChance 74 = .ok (.iinc 11 1, 3) := by decide +kernel
theorem dX11_byChance_77 : decode cX11_byChance 77 = .ok (.goto (-12), 3) := by decide +kernel
theorem dX11_byChance_80 : decode cX11_byChance 80 = .ok (.iconst 0, 1) := by decide +kernel
theorem dX11_byChance_81 : decode cX11_byChance 81 = .ok (.istore 12, 2) := by decide +kernel
theorem dX11_byChance_83 : decode cX11_byChance 83 = .ok (.iload 12, 2) := by decide +kernel
theorem dX11_byChance_85 : decode cX11_byChance 85 = .ok (.iload_n 1, 1) := by decide +kernel
theorem dX11_byChance_86 : decode cX11_byChance 86 = .ok (.if_icmp .ge 100, 3) := by decide +kernel
theorem dX11_byChance_89 : decode cX11_byChance 89 = .ok (.aload_n 0, 1) := by decide +kernel
theorem dX11_byChance_90 : decode cX11_byChance 90 = .ok (.lload_n 2, 1) := by decide +kernel
theorem dX11_byChance_91 : decode cX11_byChance 91 = .ok (.iload 12, 2) := by decide +kernel
theorem dX11_byChance_93 : decode cX11_byChance 93 = .ok (.i2l, 1) := by decide +kernel
theorem dX11_byChance_94 : decode cX11_byChance 94 = .ok (.ladd, 1) := by decide +kernel
theorem dX11_byChance_95 : decode cX11_byChance 95 = .ok (.putfield 228, 3) := by decide +kernel
theorem dX11_byChance_98 : decode cX11_byChance 98 = .ok (.aload_n 0, 1) := by decide +kernel
theorem dX11_byChance_99 : decode cX11_byChance 99 = .ok (.iconst 2, 1) := by decide +kernel
theorem dX11_byChance_100 : decode cX11_byChance 100 = .ok (.iconst 0, 1) := by decide +kernel
theorem dX11_byChance_101 : decode cX11_byChance 101 = .ok (.invokevirtual 389, 3) := by decide +kernel
theorem dX11_byChance_104 : decode cX11_byChance 104 = .ok (.aload_n 0, 1) := by decide +kernel
theorem dX11_byChance_105 : decode cX11_byChance 105 = .ok (.invokevirtual 392, 3) := by decide +kernel
theorem dX11_byChance_108 : decode cX11_byChance 108 = .ok (.istore 13, 2) := by decide +kernel
theorem dX11_byChance_110 : decode cX11_byChance 110 = .ok (.iload 7, 2) := by decide +kernel
theorem dX11_byChance_112 : decode cX11_byChance 112 = .ok (.iload 13, 2) := by decide +kernel
theorem dX11_byChance_114 : decode cX11_byChance 114 = .ok (.ifCond .eq 7, 3) := by decide +kernel
theorem dX11_byChance_117 : decode cX11_byChance 117 = .ok (.iconst 1, 1) := by decide +kernel
theorem dX11_byChance_118 : decode cX11_byChance 118 = .ok (.goto 4, 3) := by decide +kernel
theorem dX11_byChance_121 : decode cX11_byChance 121 = .ok (.iconst 0, 1) := by decide +kernel
theorem dX11_byChance_122 : decode cX11_byChance 122 = .ok (.iadd, 1) := by decide +kernel
theorem dX11_byChance_123 : decode cX11_byChance 123 = .ok (.istore 7, 2) := by decide +kernel
theorem dX11_byChance_125 : decode cX11_byChance 125 = .ok (.iload 8, 2) := by decide +kernel
theorem dX11_byChance_127 : decode cX11_byChance 127 = .ok (.aload_n 0, 1) := by decide +kernel
theorem dX11_byChance_128 : decode cX11_byChance 128 = .ok (.getfield 254, 3) := by decide +kernel
theorem dX11_byChance_131 : decode cX11_byChance 131 = .ok (.iadd, 1) := by decide +kernel
theorem dX11_byChance_132 : decode cX11_byChance 132 = .ok (.istore 8, 2) := by decide +kernel
theorem dX11_byChance_134 : decode cX11_byChance 134 = .ok (.iload 13, 2) := by decide +kernel
theorem dX11_byChance_136 : decode cX11_byChance 136 = .ok (.ifCond .ne 14, 3) := by decide +kernel
theorem dX11_byChance_139 : decode cX11_byChance 139 = .ok (.iload 9, 2) := by decide +kernel
theorem dX11_byChance_141 : decode cX11_byChance 141 = .ok (.iconst (-1), 1) := by decide +kernel
theorem dX11_byChance_142 : decode cX11_byChance 142 = .ok (.if_icmp .ne 8, 3) := by decide +kernel
theorem dX11_byChance_145 : decode cX11_byChance 145 = .ok (.iload 12, 2) := by decide +kernel
theorem dX11_byChance_147 : decode cX11_byChance 147 = .ok (.goto 5, 3) := by decide +kernel
theorem dX11_byChance_150 : decode cX11_byChance 150 = .ok (.iload 9, 2) := by decide +kernel
theorem dX11_byChance_152 : decode cX11_byChance 152 = .ok (.istore 9, 2) := by decide +kernel
theorem dX11_byChance_154 : decode cX11_byChance 154 = .ok (.iload 10, 2) := by decide +kernel
theorem dX11_byChance_156 : decode cX11_byChance 156 = .ok (.iload 13, 2) := by decide +kernel
theorem dX11_byChance_158 : decode cX11_byChance 158 = .ok (.ifCond .eq 18, 3) := by decide +kernel
theorem dX11_byChance_161 : decode cX11_byChance 161 = .ok (.aload_n 0, 1) := by decide +kernel
theorem dX11_byChance_162 : decode cX11_byChance 162 = .ok (.getfield 26, 3) := by decide +kernel
theorem dX11_byChance_165 : decode cX11_byChance 165 = .ok (.iload 11, 2) := by decide +kernel
theorem dX11_byChance_167 : decode cX11_byChance 167 = .ok (.iaload, 1) := by decide +kernel
theorem dX11_byChance_168 : decode cX11_byChance 168 = .ok (.iconst 1, 1) := by decide +kernel
theorem dX11_byChance_169 : decode cX11_byChance 169 = .ok (.if_icmp .ne 7, 3) := by decide +kernel
theorem dX11_byChance_172 : decode cX11_byChance 172 = .ok (.iconst 1, 1) := by decide +kernel
theorem dX11_byChance_173 : decode cX11_byChance 173 = .ok (.goto 4, 3) := by decide +kernel
theorem dX11_byChance_176 : decode cX11_byChance 176 = .ok (.iconst 0, 1) := by decide +kernel
theorem dX11_byChance_177 : decode cX11_byChance 177 = .ok (.iadd, 1) := by decide +kernel
theorem dX11_byChance_178 : decode cX11_byChance 178 = .ok (.istore 10, 2) := by decide +kernel
theorem dX11_byChance_180 : decode cX11_byChance 180 = .ok (.iinc 12 1, 3) := by decide +kernel
theorem dX11_byChance_183 : decode cX11_byChance 183 = .ok (.goto (-100), 3) := by decide +kernel
theorem dX11_byChance_186 : decode cX11_byChance 186 = .ok (.aload_n 0, 1) := by decide +kernel
theorem dX11_byChance_187 : decode cX11_byChance 187 = .ok (.lload 5, 2) := by decide +kernel
theorem dX11_byChance_189 : decode cX11_byChance 189 = .ok (.putfield 228, 3) := by decide +kernel
theorem dX11_byChance_192 : decode cX11_byChance 192 = .ok (.iload 4, 2) := by decide +kernel
theorem dX11_byChance_194 : decode cX11_byChance 194 = .ok (.ifCond .ne 8, 3) := by decide +kernel
theorem dX11_byChance_197 : decode cX11_byChance 197 = .ok (.iload 7, 2) := by decide +kernel
theorem dX11_byChance_199 : decode cX11_byChance 199 = .ok (.goto 27, 3) := by decide +kernel
theorem dX11_byChance_202 : decode cX11_byChance 202 = .ok (.iload 4, 2) := by decide +kernel
theorem dX11_byChance_204 : decode cX11_byChance 204 = .ok (.iconst 1, 1) := by decide +kernel
theorem dX11_byChance_205 : decode cX11_byChance 205 = .ok (.if_icmp .ne 8, 3) := by decide +kernel
theorem dX11_byChance_208 : decode cX11_byChance 208 = .ok (.iload 8, 2) := by decide +kernel
theorem dX11_byChance_210 : decode cX11_byChance 210 = .ok (.goto 16, 3) := by decide +kernel
theorem dX11_byChance_213 : decode cX11_byChance 213 = .ok (.iload 4, 2) := by decide +kernel
theorem dX11_byChance_215 : decode cX11_byChance 215 = .ok (.iconst 2, 1) := by decide +kernel
theorem dX11_byChance_216 : decode cX11_byChance 216 = .ok (.if_icmp .ne 8, 3) := by decide +kernel
theorem dX11_byChance_219 : decode cX11_byChance 219 = .ok (.iload 9, 2) := by decide +kernel
theorem dX11_byChance_221 : decode cX11_byChance 221 = .ok (.goto 5, 3) := by decide +kernel
theorem dX11_byChance_224 : decode cX11_byChance 224 = .ok (.iload 10, 2) := by decide +kernel
theorem dX11_byChance_226 : decode cX11_byChance 226 = .ok (.ireturn, 1) := by decide +kernel
theorem dX11_bytesOf_0 : decode cX11_bytesOf 0 = .ok (.iconst 0, 1) := by decide +kernel
theorem dX11_bytesOf_1 : decode cX11_bytesOf 1 = .ok (.istore_n 1, 1) := by decide +kernel
theorem dX11_bytesOf_2 : decode cX11_bytesOf 2 = .ok (.iconst 0, 1) := by decide +kernel
theorem dX11_bytesOf_3 : decode cX11_bytesOf 3 = .ok (.istore_n 2, 1) := by decide +kernel
theorem dX11_bytesOf_4 : decode cX11_bytesOf 4 = .ok (.iload_n 2, 1) := by decide +kernel
theorem dX11_bytesOf_5 : decode cX11_bytesOf 5 = .ok (.iconst 4, 1) := by decide +kernel
theorem dX11_bytesOf_6 : decode cX11_bytesOf 6 = .ok (.if_icmp .ge 30, 3) := by decide +kernel
theorem dX11_bytesOf_9 : decode cX11_bytesOf 9 = .ok (.iload_n 1, 1) := by decide +kernel
theorem dX11_bytesOf_10 : decode cX11_bytesOf 10 = .ok (.iload_n 0, 1) := by decide +kernel
theorem dX11_bytesOf_11 : decode cX11_bytesOf 11 = .ok (.bipush 8, 2) := by decide +kernel
theorem dX11_bytesOf_13 : decode cX11_bytesOf 13 = .ok (.iload_n 2, 1) := by decide +kernel
theorem dX11_bytesOf_14 : decode cX11_bytesOf 14 = .ok (.imul, 1) := by decide +kernel
theorem dX11_bytesOf_15 : decode cX11_bytesOf 15 = .ok (.ishr, 1) := by decide +kernel
theorem dX11_bytesOf_16 : decode cX11_bytesOf 16 = .ok (.sipush 255, 3) := by decide +kernel
theorem dX11_bytesOf_19 : decode cX11_bytesOf 19 = .ok (.iand, 1) := by decide +kernel
theorem dX11_bytesOf_20 : decode cX11_bytesOf 20 = .ok (.ifCond .ne 7, 3) := by decide +kernel
theorem dX11_bytesOf_23 : decode cX11_bytesOf 23 = .ok (.iconst 0, 1) := by decide +kernel
theorem dX11_bytesOf_24 : decode cX11_bytesOf 24 = .ok (.goto 4, 3) := by decide +kernel
theorem dX11_bytesOf_27 : decode cX11_bytesOf 27 = .ok (.iconst 1, 1) := by decide +kernel
theorem dX11_bytesOf_28 : decode cX11_bytesOf 28 = .ok (.iadd, 1) := by decide +kernel
theorem dX11_bytesOf_29 : decode cX11_bytesOf 29 = .ok (.istore_n 1, 1) := by decide +kernel
theorem dX11_bytesOf_30 : decode cX11_bytesOf 30 = .ok (.iinc 2 1, 3) := by decide +kernel
theorem dX11_bytesOf_33 : decode cX11_bytesOf 33 = .ok (.goto (-29), 3) := by decide +kernel
theorem dX11_bytesOf_36 : decode cX11_bytesOf 36 = .ok (.iload_n 1, 1) := by decide +kernel
theorem dX11_bytesOf_37 : decode cX11_bytesOf 37 = .ok (.ireturn, 1) := by decide +kernel
theorem dX11_canBreak_0 : decode cX11_canBreak 0 = .ok (.aload_n 0, 1) := by decide +kernel
theorem dX11_canBreak_1 : decode cX11_canBreak 1 = .ok (.iconst 0, 1) := by decide +kernel
theorem dX11_canBreak_2 : decode cX11_canBreak 2 = .ok (.putfield 80, 3) := by decide +kernel
theorem dX11_canBreak_5 : decode cX11_canBreak 5 = .ok (.iload_n 1, 1) := by decide +kernel
theorem dX11_canBreak_6 : decode cX11_canBreak 6 = .ok (.i2l, 1) := by decide +kernel
theorem dX11_canBreak_7 : decode cX11_canBreak 7 = .ok (.lconst 0, 1) := by decide +kernel
theorem dX11_canBreak_8 : decode cX11_canBreak 8 = .ok (.lconst 1, 1) := by decide +kernel
theorem dX11_canBreak_9 : decode cX11_canBreak 9 = .ok (.invokestatic 132, 3) := by decide +kernel
theorem dX11_canBreak_12 : decode cX11_canBreak 12 = .ok (.ifCond .eq 18, 3) := by decide +kernel
theorem dX11_canBreak_15 : decode cX11_canBreak 15 = .ok (.aload_n 0, 1) := by decide +kernel
theorem dX11_canBreak_16 : decode cX11_canBreak 16 = .ok (.getfield 232, 3) := by decide +kernel
theorem dX11_canBreak_19 : decode cX11_canBreak 19 = .ok (.ifCond .eq 11, 3) := by decide +kernel
theorem dX11_canBreak_22 : decode cX11_canBreak 22 = .ok (.aload_n 0, 1) := by decide +kernel
theorem dX11_canBreak_23 : decode cX11_canBreak 23 = .ok (.getfield 215, 3) := by decide +kernel
theorem dX11_canBreak_26 : decode cX11_canBreak 26 = .ok (.iconst 5, 1) := by decide +kernel
theorem dX11_canBreak_27 : decode cX11_canBreak 27 = .ok (.if_icmp .le 6, 3) := by decide +kernel
theorem dX11_canBreak_30 : decode cX11_canBreak 30 = .ok (.bipush (-2), 2) := by decide +kernel
theorem dX11_canBreak_32 : decode cX11_canBreak 32 = .ok (.ireturn, 1) := by decide +kernel
theorem dX11_canBreak_33 : decode cX11_canBreak 33 = .ok (.aload_n 0, 1) := by decide +kernel
theorem dX11_canBreak_34 : decode cX11_canBreak 34 = .ok (.invokevirtual 329, 3) := by decide +kernel
theorem dX11_canBreak_37 : decode cX11_canBreak 37 = .ok (.aload_n 0, 1) := by decide +kernel
theorem dX11_canBreak_38 : decode cX11_canBreak 38 = .ok (.getfield 226, 3) := by decide +kernel
theorem dX11_canBreak_41 : decode cX11_canBreak 41 = .ok (.invokestatic 383, 3) := by decide +kernel
theorem dX11_canBreak_44 : decode cX11_canBreak 44 = .ok (.istore_n 2, 1) := by decide +kernel
theorem dX11_canBreak_45 : decode cX11_canBreak 45 = .ok (.iconst 0, 1) := by decide +kernel
theorem dX11_canBreak_46 : decode cX11_canBreak 46 = .ok (.istore_n 3, 1) := by decide +kernel
theorem dX11_canBreak_47 : decode cX11_canBreak 47 = .ok (.iload_n 3, 1) := by decide +kernel
theorem dX11_canBreak_48 : decode cX11_canBreak 48 = .ok (.iconst 1, 1) := by decide +kernel
theorem dX11_canBreak_49 : decode cX11_canBreak 49 = .ok (.aload_n 0, 1) := by decide +kernel
theorem dX11_canBreak_50 : decode cX11_canBreak 50 = .ok (.getfield 215, 3) := by decide +kernel
theorem dX11_canBreak_53 : decode cX11_canBreak 53 = .ok (.ishl, 1) := by decide +kernel
theorem dX11_canBreak_54 : decode cX11_canBreak 54 = .ok (.iconst 1, 1) := by decide +kernel
theorem dX11_canBreak_55 : decode cX11_canBreak 55 = .ok (.isub, 1) := by decide +kernel
theorem dX11_canBreak_56 : decode cX11_canBreak 56 = .ok (.if_icmp .ge 38, 3) := by decide +kernel
theorem dX11_canBreak_59 : decode cX11_canBreak 59 = .ok (.aload_n 0, 1) := by decide +kernel
theorem dX11_canBreak_60 : decode cX11_canBreak 60 = .ok (.iload_n 3, 1) := by decide +kernel
theorem dX11_canBreak_61 : decode cX11_canBreak 61 = .ok (.putfield 226, 3) := by decide +kernel
theorem dX11_canBreak_64 : decode cX11_canBreak 64 = .ok (.iload_n 3, 1) := by decide +kernel
theorem dX11_canBreak_65 : decode cX11_canBreak 65 = .ok (.invokestatic 383, 3) := by decide +kernel
theorem dX11_canBreak_68 : decode cX11_canBreak 68 = .ok (.iload_n 2, 1) := by decide +kernel
theorem dX11_canBreak_69 : decode cX11_canBreak 69 = .ok (.if_icmp .ne 19, 3) := by decide +kernel
theorem dX11_canBreak_72 : decode cX11_canBreak 72 = .ok (.aload_n 0, 1) := by decide +kernel
theorem dX11_canBreak_73 : decode cX11_canBreak 73 = .ok (.aload_n 0, 1) := by decide +kernel
theorem dX11_canBreak_74 : decode cX11_canBreak 74 = .ok (.getfield 220, 3) := by decide +kernel
theorem dX11_canBreak_77 : decode cX11_canBreak 77 = .ok (.invokevirtual 386, 3) := by decide +kernel
theorem dX11_canBreak_80 : decode cX11_canBreak 80 = .ok (.bipush 12, 2) := by decide +kernel
theorem dX11_canBreak_82 : decode cX11_canBreak 82 = .ok (.if_icmp .le 6, 3) := by decide +kernel
theorem dX11_canBreak_85 : decode cX11_canBreak 85 = .ok (.bipush (-2), 2) := by decide +kernel
theorem dX11_canBreak_87 : decode cX11_canBreak 87 = .ok (.ireturn, 1) := by decide +kernel
theorem dX11_canBreak_88 : decode cX11_canBreak 88 = .ok (.iinc 3 1, 3) := by decide +kernel
theorem dX11_canBreak_91 : decode cX11_canBreak 91 = .ok (.goto (-44), 3) := by decide +kernel
theorem dX11_canBreak_94 : decode cX11_canBreak 94 = .ok (.iconst 0, 1) := by decide +kernel
theorem dX11_canBreak_95 : decode cX11_canBreak 95 = .ok (.istore_n 3, 1) := by decide +kernel
theorem dX11_canBreak_96 : decode cX11_canBreak 96 = .ok (.iconst (-1), 1) := by decide +kernel
theorem dX11_canBreak_97 : decode cX11_canBreak 97 = .ok (.istore 4, 2) := by decide +kernel
theorem dX11_canBreak_99 : decode cX11_canBreak 99 = .ok (.iconst 0, 1) := by decide +kernel
theorem dX11_canBreak_100 : decode cX11_canBreak 100 = .ok (.istore 5, 2) := by decide +kernel
theorem dX11_canBreak_102 : decode cX11_canBreak 102 = .ok (.iload 5, 2) := by decide +kernel
theorem dX11_canBreak_104 : decode cX11_canBreak 104 = .ok (.iconst 1, 1) := by decide +kernel
theorem dX11_canBreak_105 : decode cX11_canBreak 105 = .ok (.aload_n 0, 1) := by decide +kernel
theorem dX11_canBreak_106 : decode cX11_canBreak 106 = .ok (.getfield 215, 3) := by decide +kernel
theorem dX11_canBreak_109 : decode cX11_canBreak 109 = .ok (.ishl, 1) := by decide +kernel
theorem dX11_canBreak_110 : decode cX11_canBreak 110 = .ok (.iconst 1, 1) := by decide +kernel
theorem dX11_canBreak_111 : decode cX11_canBreak 111 = .ok (.isub, 1) := by decide +kernel
theorem dX11_canBreak_112 : decode cX11_canBreak 112 = .ok (.if_icmp .ge 55, 3) := by decide +kernel
theorem dX11_canBreak_115 : decode cX11_canBreak 115 = .ok (.iload 5, 2) := by decide +kernel
theorem dX11_canBreak_117 : decode cX11_canBreak 117 = .ok (.invokestatic 383, 3) := by decide +kernel
theorem dX11_canBreak_120 : decode cX11_canBreak 120 = .ok (.iload_n 2, 1) := by decide +kernel
theorem dX11_canBreak_121 : decode cX11_canBreak 121 = .ok (.if_icmp .eq 6, 3) := by decide +kernel
theorem dX11_canBreak_124 : decode cX11_canBreak 124 = .ok (.goto 37, 3) := by decide +kernel
theorem dX11_canBreak_127 : decode cX11_canBreak 127 = .ok (.aload_n 0, 1) := by decide +kernel
theorem dX11_canBreak_128 : decode cX11_canBreak 128 = .ok (.iload 5, 2) := by decide +kernel
theorem dX11_canBreak_130 : decode cX11_canBreak 130 = .ok (.putfield 226, 3) := by decide +kernel
theorem dX11_canBreak_133 : decode cX11_canBreak 133 = .ok (.aload_n 0, 1) := by decide +kernel
theorem dX11_canBreak_134 : decode cX11_canBreak 134 = .ok (.invokevirtual 411, 3) := by decide +kernel
theorem dX11_canBreak_137 : decode cX11_canBreak 137 = .ok (.ifCond .ne 6, 3) := by decide +kernel
theorem dX11_canBreak_140 : decode cX11_canBreak 140 = .ok (.goto 21, 3) := by decide +kernel
theorem dX11_canBreak_143 : decode cX11_canBreak 143 = .ok (.iinc 3 1, 3) := by decide +kernel
theorem dX11_canBreak_146 : decode cX11_canBreak 146 = .ok (.iload 4, 2) := by decide +kernel
theorem dX11_canBreak_148 : decode cX11_canBreak 148 = .ok (.iconst (-1), 1) := by decide +kernel
theorem dX11_canBreak_149 : decode cX11_canBreak 149 = .ok (.if_icmp .ne 8, 3) := by decide +kernel
theorem dX11_canBreak_152 : decode cX11_canBreak 152 = .ok (.iload 5, 2) := by decide +kernel
theorem dX11_canBreak_154 : decode cX11_canBreak 154 = .ok (.goto 5, 3) := by decide +kernel
theorem dX11_canBreak_157 : decode cX11_canBreak 157 = .ok (.iload 4, 2) := by decide +kernel
theorem dX11_canBreak_159 : decode cX11_canBreak 159 = .ok (.istore 4, 2) := by decide +kernel
theorem dX11_canBreak_161 : decode cX11_canBreak 161 = .ok (.iinc 5 1, 3) := by decide +kernel
theorem dX11_canBreak_164 : decode cX11_canBreak 164 = .ok (.goto (-62), 3) := by decide +kernel
theorem dX11_canBreak_167 : decode cX11_canBreak 167 = .ok (.iload_n 1, 1) := by decide +kernel
theorem dX11_canBreak_168 : decode cX11_canBreak 168 = .ok (.ifCond .ne 7, 3) := by decide +kernel
theorem dX11_canBreak_171 : decode cX11_canBreak 171 = .ok (.iload_n 3, 1) := by decide +kernel
theorem dX11_canBreak_172 : decode cX11_canBreak 172 = .ok (.goto 5, 3) := by decide +kernel
theorem dX11_canBreak_175 : decode cX11_canBreak 175 = .ok (.iload 4, 2) := by decide +kernel
theorem dX11_canBreak_177 : decode cX11_canBreak 177 = .ok (.ireturn, 1) := by decide +kernel
theorem dX11_canSearch_0 : decode cX11_canSearch 0 = .ok (.aload_n 0, 1) := by decide +kernel
theorem dX11_canSearch_1 : decode cX11_canSearch 1 = .ok (.getfield 232, 3) := by decide +kernel
theorem dX11_canSearch_4 : decode cX11_canSearch 4 = .ok (.ifCond .ne 5, 3) := by decide +kernel
theorem dX11_canSearch_7 : decode cX11_canSearch 7 = .ok (.iconst 0, 1) := by decide +kernel
theorem dX11_canSearch_8 : decode cX11_canSearch 8 = .ok (.ireturn, 1) := by decide +kernel
theorem dX11_canSearch_9 : decode cX11_canSearch 9 = .ok (.aload_n 0, 1) := by decide +kernel
theorem dX11_canSearch_10 : decode cX11_canSearch 10 = .ok (.invokevirtual 329, 3) := by decide +kernel
theorem dX11_canSearch_13 : decode cX11_canSearch 13 = .ok (.aload_n 0, 1) := by decide +kernel
theorem dX11_canSearch_14 : decode cX11_canSearch 14 = .ok (.aload_n 0, 1) := by decide +kernel
theorem dX11_canSearch_15 : decode cX11_canSearch 15 = .ok (.getfield 220, 3) := by decide +kernel
theorem dX11_canSearch_18 : decode cX11_canSearch 18 = .ok (.invokevirtual 386, 3) := by decide +kernel
theorem dX11_canSearch_21 : decode cX11_canSearch 21 = .ok (.bipush 12, 2) := by decide +kernel
theorem dX11_canSearch_23 : decode cX11_canSearch 23 = .ok (.if_icmp .gt 7, 3) := by decide +kernel
theorem dX11_canSearch_26 : decode cX11_canSearch 26 = .ok (.iconst 1, 1) := by decide +kernel
theorem dX11_canSearch_27 : decode cX11_canSearch 27 = .ok (.goto 4, 3) := by decide +kernel
theorem dX11_canSearch_30 : decode cX11_canSearch 30 = .ok (.iconst 0, 1) := by decide +kernel
theorem dX11_canSearch_31 : decode cX11_canSearch 31 = .ok (.ireturn, 1) := by decide +kernel
theorem dX11_council_0 : decode cX11_council 0 = .ok (.aload_n 0, 1) := by decide +kernel
theorem dX11_council_1 : decode cX11_council 1 = .ok (.iconst 0, 1) := by decide +kernel
theorem dX11_council_2 : decode cX11_council 2 = .ok (.putfield 80, 3) := by decide +kernel
theorem dX11_council_5 : decode cX11_council 5 = .ok (.aload_n 0, 1) := by decide +kernel
theorem dX11_council_6 : decode cX11_council 6 = .ok (.invokevirtual 206, 3) := by decide +kernel
theorem dX11_council_9 : decode cX11_council 9 = .ok (.iconst (-1), 1) := by decide +kernel
theorem dX11_council_10 : decode cX11_council 10 = .ok (.if_icmp .eq 5, 3) := by decide +kernel
theorem dX11_council_13 : decode cX11_council 13 = .ok (.iconst (-1), 1) := by decide +kernel
theorem dX11_council_14 : decode cX11_council 14 = .ok (.ireturn, 1) := by decide +kernel
theorem dX11_council_15 : decode cX11_council 15 = .ok (.aload_n 0, 1) := by decide +kernel
theorem dX11_council_16 : decode cX11_council 16 = .ok (.iconst 0, 1) := by decide +kernel
theorem dX11_council_17 : decode cX11_council 17 = .ok (.putfield 84, 3) := by decide +kernel
theorem dX11_council_20 : decode cX11_council 20 = .ok (.aload_n 0, 1) := by decide +kernel
theorem dX11_council_21 : decode cX11_council 21 = .ok (.aload_n 0, 1) := by decide +kernel
theorem dX11_council_22 : decode cX11_council 22 = .ok (.getfield 178, 3) := by decide +kernel
theorem dX11_council_25 : decode cX11_council 25 = .ok (.putfield 212, 3) := by decide +kernel
theorem dX11_council_28 : decode cX11_council 28 = .ok (.aload_n 0, 1) := by decide +kernel
theorem dX11_council_29 : decode cX11_council 29 = .ok (.aload_n 0, 1) := by decide +kernel
theorem dX11_council_30 : decode cX11_council 30 = .ok (.getfield 13, 3) := by decide +kernel
theorem dX11_council_33 : decode cX11_council 33 = .ok (.iconst 0, 1) := by decide +kernel
theorem dX11_council_34 : decode cX11_council 34 = .ok (.iaload, 1) := by decide +kernel
theorem dX11_council_35 : decode cX11_council 35 = .ok (.putfield 215, 3) := by decide +kernel
theorem dX11_council_38 : decode cX11_council 38 = .ok (.aload_n 0, 1) := by decide +kernel
theorem dX11_council_39 : decode cX11_council 39 = .ok (.aload_n 0, 1) := by decide +kernel
theorem dX11_council_40 : decode cX11_council 40 = .ok (.getfield 13, 3) := by decide +kernel
theorem dX11_council_43 : decode cX11_council 43 = .ok (.iconst 1, 1) := by decide +kernel
theorem dX11_council_44 : decode cX11_council 44 = .ok (.iaload, 1) := by decide +kernel
theorem dX11_council_45 : decode cX11_council 45 = .ok (.putfield 218, 3) := by decide +kernel
theorem dX11_council_48 : decode cX11_council 48 = .ok (.aload_n 0, 1) := by decide +kernel
theorem dX11_council_49 : decode cX11_council 49 = .ok (.aload_n 0, 1) := by decide +kernel
theorem dX11_council_50 : decode cX11_council 50 = .ok (.getfield 13, 3) := by decide +kernel
theorem dX11_council_53 : decode cX11_council 53 = .ok (.iconst 2, 1) := by decide +kernel
theorem dX11_council_54 : decode cX11_council 54 = .ok (.iaload, 1) := by decide +kernel
theorem dX11_council_55 : decode cX11_council 55 = .ok (.putfield 220, 3) := by decide +kernel
theorem dX11_council_58 : decode cX11_council 58 = .ok (.aload_n 0, 1) := by decide +kernel
theorem dX11_council_59 : decode cX11_council 59 = .ok (.aload_n 0, 1) := by decide +kernel
theorem dX11_council_60 : decode cX11_council 60 = .ok (.getfield 13, 3) := by decide +kernel
theorem dX11_council_63 : decode cX11_council 63 = .ok (.iconst 5, 1) := by decide +kernel
theorem dX11_council_64 : decode cX11_council 64 = .ok (.iaload, 1) := by decide +kernel
theorem dX11_council_65 : decode cX11_council 65 = .ok (.putfield 222, 3) := by decide +kernel
theorem dX11_council_68 : decode cX11_council 68 = .ok (.aload_n 0, 1) := by decide +kernel
theorem dX11_council_69 : decode cX11_council 69 = .ok (.aload_n 0, 1) := by decide +kernel
theorem dX11_council_70 : decode cX11_council 70 = .ok (.getfield 13, 3) := by decide +kernel
theorem dX11_council_73 : decode cX11_council 73 = .ok (.iconst 3, 1) := by decide +kernel
theorem dX11_council_74 : decode cX11_council 74 = .ok (.iaload, 1) := by decide +kernel
theorem dX11_council_75 : decode cX11_council 75 = .ok (.putfield 224, 3) := by decide +kernel
theorem dX11_council_78 : decode cX11_council 78 = .ok (.aload_n 0, 1) := by decide +kernel
theorem dX11_council_79 : decode cX11_council 79 = .ok (.aload_n 0, 1) := by decide +kernel
theorem dX11_council_80 : decode cX11_council 80 = .ok (.getfield 13, 3) := by decide +kernel
theorem dX11_council_83 : decode cX11_council 83 = .ok (.iconst 4, 1) := by decide +kernel
theorem dX11_council_84 : decode cX11_council 84 = .ok (.iaload, 1) := by decide +kernel
theorem dX11_council_85 : decode cX11_council 85 = .ok (.putfield 226, 3) := by decide +kernel
theorem dX11_council_88 : decode cX11_council 88 = .ok (.aload_n 0, 1) := by decide +kernel
theorem dX11_council_89 : decode cX11_council 89 = .ok (.lload_n 1, 1) := by decide +kernel
theorem dX11_council_90 : decode cX11_council 90 = .ok (.putfield 228, 3) := by decide +kernel
theorem dX11_council_93 : decode cX11_council 93 = .ok (.aload_n 0, 1) := by decide +kernel
theorem dX11_council_94 : decode cX11_council 94 = .ok (.iconst 1, 1) := by decide +kernel
theorem dX11_council_95 : decode cX11_council 95 = .ok (.putfield 232, 3) := by decide +kernel
theorem dX11_council_98 : decode cX11_council 98 = .ok (.aload_n 0, 1) := by decide +kernel
theorem dX11_council_99 : decode cX11_council 99 = .ok (.iconst 0, 1) := by decide +kernel
theorem dX11_council_100 : decode cX11_council 100 = .ok (.putfield 236, 3) := by decide +kernel
theorem dX11_council_103 : decode cX11_council 103 = .ok (.aload_n 0, 1) := by decide +kernel
theorem dX11_council_104 : decode cX11_council 104 = .ok (.iconst 0, 1) := by decide +kernel
theorem dX11_council_105 : decode cX11_council 105 = .ok (.putfield 239, 3) := by decide +kernel
theorem dX11_council_108 : decode cX11_council 108 = .ok (.aload_n 0, 1) := by decide +kernel
theorem dX11_council_109 : decode cX11_council 109 = .ok (.iconst 0, 1) := by decide +kernel
theorem dX11_council_110 : decode cX11_council 110 = .ok (.putfield 242, 3) := by decide +kernel
theorem dX11_council_113 : decode cX11_council 113 = .ok (.aload_n 0, 1) := by decide +kernel
theorem dX11_council_114 : decode cX11_council 114 = .ok (.invokevirtual 245, 3) := by decide +kernel
theorem dX11_council_117 : decode cX11_council 117 = .ok (.aload_n 0, 1) := by decide +kernel
theorem dX11_council_118 : decode cX11_council 118 = .ok (.getfield 215, 3) := by decide +kernel
theorem dX11_council_121 : decode cX11_council 121 = .ok (.ireturn, 1) := by decide +kernel
theorem dX11_count_0 : decode cX11_count 0 = .ok (.aload_n 0, 1) := by decide +kernel
theorem dX11_count_1 : decode cX11_count 1 = .ok (.iconst 0, 1) := by decide +kernel
theorem dX11_count_2 : decode cX11_count 2 = .ok (.putfield 80, 3) := by decide +kernel
theorem dX11_count_5 : decode cX11_count 5 = .ok (.iload_n 1, 1) := by decide +kernel
theorem dX11_count_6 : decode cX11_count 6 = .ok (.ifCond .ne 10, 3) := by decide +kernel
theorem dX11_count_9 : decode cX11_count 9 = .ok (.aload_n 0, 1) := by decide +kernel
theorem dX11_count_10 : decode cX11_count 10 = .ok (.getfield 84, 3) := by decide +kernel
theorem dX11_count_13 : decode cX11_count 13 = .ok (.goto 42, 3) := by decide +kernel
theorem dX11_count_16 : decode cX11_count 16 = .ok (.iload_n 1, 1) := by decide +kernel
theorem dX11_count_17 : decode cX11_count 17 = .ok (.iconst 1, 1) := by decide +kernel
theorem dX11_count_18 : decode cX11_count 18 = .ok (.if_icmp .ne 10, 3) := by decide +kernel
theorem dX11_count_21 : decode cX11_count 21 = .ok (.aload_n 0, 1) := by decide +kernel
theorem dX11_count_22 : decode cX11_count 22 = .ok (.getfield 239, 3) := by decide +kernel
theorem dX11_count_25 : decode cX11_count 25 = .ok (.goto 30, 3) := by decide +kernel
theorem dX11_count_28 : decode cX11_count 28 = .ok (.iload_n 1, 1) := by decide +kernel
theorem dX11_count_29 : decode cX11_count 29 = .ok (.iconst 2, 1) := by decide +kernel
theorem dX11_count_30 : decode cX11_count 30 = .ok (.if_icmp .ne 24, 3) := by decide +kernel
theorem dX11_count_33 : decode cX11_count 33 = .ok (.aload_n 0, 1) := by decide +kernel
theorem dX11_count_34 : decode cX11_count 34 = .ok (.getfield 232, 3) := by decide +kernel
theorem dX11_count_37 : decode cX11_count 37 = .ok (.ifCond .eq 13, 3) := by decide +kernel
theorem dX11_count_40 : decode cX11_count 40 = .ok (.aload_n 0, 1) := by decide +kernel
theorem dX11_count_41 : decode cX11_count 41 = .ok (.getfield 57, 3) := by decide +kernel
theorem dX11_count_44 : decode cX11_count 44 = .ok (.bipush 72, 2) := by decide +kernel
theorem dX11_count_46 : decode cX11_count 46 = .ok (.iaload, 1) := by decide +kernel
theorem dX11_count_47 : decode cX11_count 47 = .ok (.goto 8, 3) := by decide +kernel
theorem dX11_count_50 : decode cX11_count 50 = .ok (.iconst 0, 1) := by decide +kernel
theorem dX11_count_51 : decode cX11_count 51 = .ok (.goto 4, 3) := by decide +kernel
theorem dX11_count_54 : decode cX11_count 54 = .ok (.iconst (-1), 1) := by decide +kernel
theorem dX11_count_55 : decode cX11_count 55 = .ok (.ireturn, 1) := by decide +kernel
theorem dX11_end_0 : decode cX11_end 0 = .ok (.aload_n 0, 1) := by decide +kernel
theorem dX11_end_1 : decode cX11_end 1 = .ok (.iconst 0, 1) := by decide +kernel
theorem dX11_end_2 : decode cX11_end 2 = .ok (.putfield 80, 3) := by decide +kernel
theorem dX11_end_5 : decode cX11_end 5 = .ok (.iload_n 1, 1) := by decide +kernel
theorem dX11_end_6 : decode cX11_end 6 = .ok (.ifCond .lt 11, 3) := by decide +kernel
theorem dX11_end_9 : decode cX11_end 9 = .ok (.iload_n 1, 1) := by decide +kernel
theorem dX11_end_10 : decode cX11_end 10 = .ok (.aload_n 0, 1) := by decide +kernel
theorem dX11_end_11 : decode cX11_end 11 = .ok (.getfield 84, 3) := by decide +kernel
theorem dX11_end_14 : decode cX11_end 14 = .ok (.if_icmp .le 5, 3) := by decide +kernel
theorem dX11_end_17 : decode cX11_end 17 = .ok (.iconst 0, 1) := by decide +kernel
theorem dX11_end_18 : decode cX11_end 18 = .ok (.ireturn, 1) := by decide +kernel
theorem dX11_end_19 : decode cX11_end 19 = .ok (.aload_n 0, 1) := by decide +kernel
theorem dX11_end_20 : decode cX11_end 20 = .ok (.iload_n 1, 1) := by decide +kernel
theorem dX11_end_21 : decode cX11_end 21 = .ok (.putfield 84, 3) := by decide +kernel
theorem dX11_end_24 : decode cX11_end 24 = .ok (.iconst 1, 1) := by decide +kernel
theorem dX11_end_25 : decode cX11_end 25 = .ok (.ireturn, 1) := by decide +kernel
theorem dX11_fails_0 : decode cX11_fails 0 = .ok (.aload_n 0, 1) := by decide +kernel
theorem dX11_fails_1 : decode cX11_fails 1 = .ok (.getfield 102, 3) := by decide +kernel
theorem dX11_fails_4 : decode cX11_fails 4 = .ok (.iconst (-1), 1) := by decide +kernel
theorem dX11_fails_5 : decode cX11_fails 5 = .ok (.if_icmp .ne 8, 3) := by decide +kernel
theorem dX11_fails_8 : decode cX11_fails 8 = .ok (.aload_n 0, 1) := by decide +kernel
theorem dX11_fails_9 : decode cX11_fails 9 = .ok (.iload_n 1, 1) := by decide +kernel
theorem dX11_fails_10 : decode cX11_fails 10 = .ok (.putfield 102, 3) := by decide +kernel
theorem dX11_fails_13 : decode cX11_fails 13 = .ok (.return_, 1) := by decide +kernel
theorem dX11_falseOnes_0 : decode cX11_falseOnes 0 = .ok (.aload_n 0, 1) := by decide +kernel
theorem dX11_falseOnes_1 : decode cX11_falseOnes 1 = .ok (.iconst 0, 1) := by decide +kernel
theorem dX11_falseOnes_2 : decode cX11_falseOnes 2 = .ok (.putfield 80, 3) := by decide +kernel
theorem dX11_falseOnes_5 : decode cX11_falseOnes 5 = .ok (.aload_n 0, 1) := by decide +kernel
theorem dX11_falseOnes_6 : decode cX11_falseOnes 6 = .ok (.getfield 232, 3) := by decide +kernel
theorem dX11_falseOnes_9 : decode cX11_falseOnes 9 = .ok (.ifCond .ne 9, 3) := by decide +kernel
theorem dX11_falseOnes_12 : decode cX11_falseOnes 12 = .ok (.aload_n 0, 1) := by decide +kernel
theorem dX11_falseOnes_13 : decode cX11_falseOnes 13 = .ok (.iconst 0, 1) := by decide +kernel
theorem dX11_falseOnes_14 : decode cX11_falseOnes 14 = .ok (.invokevirtual 341, 3) := by decide +kernel
theorem dX11_falseOnes_17 : decode cX11_falseOnes 17 = .ok (.ireturn, 1) := by decide +kernel
theorem dX11_falseOnes_18 : decode cX11_falseOnes 18 = .ok (.iload_n 1, 1) := by decide +kernel
theorem dX11_falseOnes_19 : decode cX11_falseOnes 19 = .ok (.i2l, 1) := by decide +kernel
theorem dX11_falseOnes_20 : decode cX11_falseOnes 20 = .ok (.lconst 0, 1) := by decide +kernel
theorem dX11_falseOnes_21 : decode cX11_falseOnes 21 = .ok (.iconst 1, 1) := by decide +kernel
theorem dX11_falseOnes_22 : decode cX11_falseOnes 22 = .ok (.aload_n 0, 1) := by decide +kernel
theorem dX11_falseOnes_23 : decode cX11_falseOnes 23 = .ok (.getfield 215, 3) := by decide +kernel
theorem dX11_falseOnes_26 : decode cX11_falseOnes 26 = .ok (.ishl, 1) := by decide +kernel
theorem dX11_falseOnes_27 : decode cX11_falseOnes 27 = .ok (.iconst 2, 1) := by decide +kernel
theorem dX11_falseOnes_28 : decode cX11_falseOnes 28 = .ok (.isub, 1) := by decide +kernel
theorem dX11_falseOnes_29 : decode cX11_falseOnes 29 = .ok (.i2l, 1) := by decide +kernel
theorem dX11_falseOnes_30 : decode cX11_falseOnes 30 = .ok (.invokestatic 132, 3) := by decide +kernel
theorem dX11_falseOnes_33 : decode cX11_falseOnes 33 = .ok (.ifCond .ne 9, 3) := by decide +kernel
theorem dX11_falseOnes_36 : decode cX11_falseOnes 36 = .ok (.aload_n 0, 1) := by decide +kernel
theorem dX11_falseOnes_37 : decode cX11_falseOnes 37 = .ok (.iconst 1, 1) := by decide +kernel
theorem dX11_falseOnes_38 : decode cX11_falseOnes 38 = .ok (.invokevirtual 341, 3) := by decide +kernel
theorem dX11_falseOnes_41 : decode cX11_falseOnes 41 = .ok (.ireturn, 1) := by decide +kernel
theorem dX11_falseOnes_42 : decode cX11_falseOnes 42 = .ok (.aload_n 0, 1) := by decide +kernel
theorem dX11_falseOnes_43 : decode cX11_falseOnes 43 = .ok (.invokevirtual 329, 3) := by decide +kernel
theorem dX11_falseOnes_46 : decode cX11_falseOnes 46 = .ok (.aload_n 0, 1) := by decide +kernel
theorem dX11_falseOnes_47 : decode cX11_falseOnes 47 = .ok (.getfield 251, 3) := by decide +kernel
theorem dX11_falseOnes_50 : decode cX11_falseOnes 50 = .ok (.ifCond .le 9, 3) := by decide +kernel
theorem dX11_falseOnes_53 : decode cX11_falseOnes 53 = .ok (.aload_n 0, 1) := by decide +kernel
theorem dX11_falseOnes_54 : decode cX11_falseOnes 54 = .ok (.iconst 3, 1) := by decide +kernel
theorem dX11_falseOnes_55 : decode cX11_falseOnes 55 = .ok (.invokevirtual 341, 3) := by decide +kernel
theorem dX11_falseOnes_58 : decode cX11_falseOnes 58 = .ok (.ireturn, 1) := by decide +kernel
theorem dX11_falseOnes_59 : decode cX11_falseOnes 59 = .ok (.aload_n 0, 1) := by decide +kernel
theorem dX11_falseOnes_60 : decode cX11_falseOnes 60 = .ok (.invokevirtual 326, 3) := by decide +kernel
theorem dX11_falseOnes_63 : decode cX11_falseOnes 63 = .ok (.aload_n 0, 1) := by decide +kernel
theorem dX11_falseOnes_64 : decode cX11_falseOnes 64 = .ok (.getfield 226, 3) := by decide +kernel
theorem dX11_falseOnes_67 : decode cX11_falseOnes 67 = .ok (.istore_n 2, 1) := by decide +kernel
theorem dX11_falseOnes_68 : decode cX11_falseOnes 68 = .ok (.aload_n 0, 1) := by decide +kernel
theorem dX11_falseOnes_69 : decode cX11_falseOnes 69 = .ok (.iload_n 1, 1) := by decide +kernel
theorem dX11_falseOnes_70 : decode cX11_falseOnes 70 = .ok (.putfield 226, 3) := by decide +kernel
theorem dX11_falseOnes_73 : decode cX11_falseOnes 73 = .ok (.iconst 0, 1) := by decide +kernel
theorem dX11_falseOnes_74 : decode cX11_falseOnes 74 = .ok (.istore_n 3, 1) := by decide +kernel
theorem dX11_falseOnes_75 : decode cX11_falseOnes 75 = .ok (.iconst 0, 1) := by decide +kernel
theorem dX11_falseOnes_76 : decode cX11_falseOnes 76 = .ok (.istore 4, 2) := by decide +kernel
theorem dX11_falseOnes_78 : decode cX11_falseOnes 78 = .ok (.iload 4, 2) := by decide +kernel
theorem dX11_falseOnes_80 : decode cX11_falseOnes 80 = .ok (.aload_n 0, 1) := by decide +kernel
theorem dX11_falseOnes_81 : decode cX11_falseOnes 81 = .ok (.getfield 236, 3) := by decide +kernel
theorem dX11_falseOnes_84 : decode cX11_falseOnes 84 = .ok (.if_icmp .ge 71, 3) := by decide +kernel
theorem dX11_falseOnes_87 : decode cX11_falseOnes 87 = .ok (.iload_n 1, 1) := by decide +kernel
theorem dX11_falseOnes_88 : decode cX11_falseOnes 88 = .ok (.aload_n 0, 1) := by decide +kernel
theorem dX11_falseOnes_89 : decode cX11_falseOnes 89 = .ok (.getfield 23, 3) := by decide +kernel
theorem dX11_falseOnes_92 : decode cX11_falseOnes 92 = .ok (.iconst 5, 1) := by decide +kernel
theorem dX11_falseOnes_93 : decode cX11_falseOnes 93 = .ok (.iload 4, 2) := by decide +kernel
theorem dX11_falseOnes_95 : decode cX11_falseOnes 95 = .ok (.imul, 1) := by decide +kernel
theorem dX11_falseOnes_96 : decode cX11_falseOnes 96 = .ok (.iconst 2, 1) := by decide +kernel
theorem dX11_falseOnes_97 : decode cX11_falseOnes 97 = .ok (.iadd, 1) := by decide +kernel
theorem dX11_falseOnes_98 : decode cX11_falseOnes 98 = .ok (.iaload, 1) := by decide +kernel
theorem dX11_falseOnes_99 : decode cX11_falseOnes 99 = .ok (.invokestatic 161, 3) := by decide +kernel
theorem dX11_falseOnes_102 : decode cX11_falseOnes 102 = .ok (.ifCond .ne 6, 3) := by decide +kernel
theorem dX11_falseOnes_105 : decode cX11_falseOnes 105 = .ok (.goto 44, 3) := by decide +kernel
theorem dX11_falseOnes_108 : decode cX11_falseOnes 108 = .ok (.iconst 0, 1) := by decide +kernel
theorem dX11_falseOnes_109 : decode cX11_falseOnes 109 = .ok (.istore 5, 2) := by decide +kernel
theorem dX11_falseOnes_111 : decode cX11_falseOnes 111 = .ok (.iload 5, 2) := by decide +kernel
theorem dX11_falseOnes_113 : decode cX11_falseOnes 113 = .ok (.iconst 5, 1) := by decide +kernel
theorem dX11_falseOnes_114 : decode cX11_falseOnes 114 = .ok (.if_icmp .ge 32, 3) := by decide +kernel
theorem dX11_falseOnes_117 : decode cX11_falseOnes 117 = .ok (.aload_n 0, 1) := by decide +kernel
theorem dX11_falseOnes_118 : decode cX11_falseOnes 118 = .ok (.getfield 23, 3) := by decide +kernel
theorem dX11_falseOnes_121 : decode cX11_falseOnes 121 = .ok (.iconst 5, 1) := by decide +kernel
theorem dX11_falseOnes_122 : decode cX11_falseOnes 122 = .ok (.iload_n 3, 1) := by decide +kernel
theorem dX11_falseOnes_123 : decode cX11_falseOnes 123 = .ok (.imul, 1) := by decide +kernel
theorem dX11_falseOnes_124 : decode cX11_falseOnes 124 = .ok (.iload 5, 2) := by decide +kernel
theorem dX11_falseOnes_126 : decode cX11_falseOnes 126 = .ok (.iadd, 1) := by decide +kernel
theorem dX11_falseOnes_127 : decode cX11_falseOnes 127 = .ok (.aload_n 0, 1) := by decide +kernel
theorem dX11_falseOnes_128 : decode cX11_falseOnes 128 = .ok (.getfield 23, 3) := by decide +kernel
theorem dX11_falseOnes_131 : decode cX11_falseOnes 131 = .ok (.iconst 5, 1) := by decide +kernel
theorem dX11_falseOnes_132 : decode cX11_falseOnes 132 = .ok (.iload 4, 2) := by decide +kernel
theorem dX11_falseOnes_134 : decode cX11_falseOnes 134 = .ok (.imul, 1) := by decide +kernel
theorem dX11_falseOnes_135 : decode cX11_falseOnes 135 = .ok (.iload 5, 2) := by decide +kernel
theorem dX11_falseOnes_137 : decode cX11_falseOnes 137 = .ok (.iadd, 1) := by decide +kernel
theorem dX11_falseOnes_138 : decode cX11_falseOnes 138 = .ok (.iaload, 1) := by decide +kernel
theorem dX11_falseOnes_139 : decode cX11_falseOnes 139 = .ok (.iastore, 1) := by decide +kernel
theorem dX11_falseOnes_140 : decode cX11_falseOnes 140 = .ok (.iinc 5 1, 3) := by decide +kernel
theorem dX11_falseOnes_143 : decode cX11_falseOnes 143 = .ok (.goto (-32), 3) := by decide +kernel
theorem dX11_falseOnes_146 : decode cX11_falseOnes 146 = .ok (.iinc 3 1, 3) := by decide +kernel
theorem dX11_falseOnes_149 : decode cX11_falseOnes 149 = .ok (.iinc 4 1, 3) := by decide +kernel
theorem dX11_falseOnes_152 : decode cX11_falseOnes 152 = .ok (.goto (-74), 3) := by decide +kernel
theorem dX11_falseOnes_155 : decode cX11_falseOnes 155 = .ok (.aload_n 0, 1) := by decide +kernel
theorem dX11_falseOnes_156 : decode cX11_falseOnes 156 = .ok (.iload_n 3, 1) := by decide +kernel
theorem dX11_falseOnes_157 : decode cX11_falseOnes 157 = .ok (.putfield 236, 3) := by decide +kernel
theorem dX11_falseOnes_160 : decode cX11_falseOnes 160 = .ok (.aload_n 0, 1) := by decide +kernel
theorem dX11_falseOnes_161 : decode cX11_falseOnes 161 = .ok (.invokevirtual 323, 3) := by decide +kernel
theorem dX11_falseOnes_164 : decode cX11_falseOnes 164 = .ok (.iload_n 2, 1) := by decide +kernel
theorem dX11_falseOnes_165 : decode cX11_falseOnes 165 = .ok (.ireturn, 1) := by decide +kernel
theorem dX11_fault_0 : decode cX11_fault 0 = .ok (.aload_n 0, 1) := by decide +kernel
theorem dX11_fault_1 : decode cX11_fault 1 = .ok (.iconst 0, 1) := by decide +kernel
theorem dX11_fault_2 : decode cX11_fault 2 = .ok (.putfield 80, 3) := by decide +kernel
theorem dX11_fault_5 : decode cX11_fault 5 = .ok (.iload_n 1, 1) := by decide +kernel
theorem dX11_fault_6 : decode cX11_fault 6 = .ok (.ifCond .ne 10, 3) := by decide +kernel
theorem dX11_fault_9 : decode cX11_fault 9 = .ok (.aload_n 0, 1) := by decide +kernel
theorem dX11_fault_10 : decode cX11_fault 10 = .ok (.invokevirtual 206, 3) := by decide +kernel
theorem dX11_fault_13 : decode cX11_fault 13 = .ok (.goto 17, 3) := by decide +kernel
theorem dX11_fault_16 : decode cX11_fault 16 = .ok (.iload_n 1, 1) := by decide +kernel
theorem dX11_fault_17 : decode cX11_fault 17 = .ok (.iconst 1, 1) := by decide +kernel
theorem dX11_fault_18 : decode cX11_fault 18 = .ok (.if_icmp .ne 10, 3) := by decide +kernel
theorem dX11_fault_21 : decode cX11_fault 21 = .ok (.aload_n 0, 1) := by decide +kernel
theorem dX11_fault_22 : decode cX11_fault 22 = .ok (.invokevirtual 209, 3) := by decide +kernel
theorem dX11_fault_25 : decode cX11_fault 25 = .ok (.goto 5, 3) := by decide +kernel
theorem dX11_fault_28 : decode cX11_fault 28 = .ok (.bipush (-2), 2) := by decide +kernel
theorem dX11_fault_30 : decode cX11_fault 30 = .ok (.ireturn, 1) := by decide +kernel
theorem dX11_feed_0 : decode cX11_feed 0 = .ok (.aload_n 0, 1) := by decide +kernel
theorem dX11_feed_1 : decode cX11_feed 1 = .ok (.iconst 0, 1) := by decide +kernel
theorem dX11_feed_2 : decode cX11_feed 2 = .ok (.putfield 80, 3) := by decide +kernel
theorem dX11_feed_5 : decode cX11_feed 5 = .ok (.aload_n 0, 1) := by decide +kernel
theorem dX11_feed_6 : decode cX11_feed 6 = .ok (.getfield 84, 3) := by decide +kernel
theorem dX11_feed_9 : decode cX11_feed 9 = .ok (.iload_n 1, 1) := by decide +kernel
theorem dX11_feed_10 : decode cX11_feed 10 = .ok (.invokestatic 87, 3) := by decide +kernel
theorem dX11_feed_13 : decode cX11_feed 13 = .ok (.iadd, 1) := by decide +kernel
theorem dX11_feed_14 : decode cX11_feed 14 = .ok (.iload_n 2, 1) := by decide +kernel
theorem dX11_feed_15 : decode cX11_feed 15 = .ok (.invokestatic 87, 3) := by decide +kernel
theorem dX11_feed_18 : decode cX11_feed 18 = .ok (.iadd, 1) := by decide +kernel
theorem dX11_feed_19 : decode cX11_feed 19 = .ok (.iload_n 3, 1) := by decide +kernel
theorem dX11_feed_20 : decode cX11_feed 20 = .ok (.invokestatic 87, 3) := by decide +kernel
theorem dX11_feed_23 : decode cX11_feed 23 = .ok (.iadd, 1) := by decide +kernel
theorem dX11_feed_24 : decode cX11_feed 24 = .ok (.iload 4, 2) := by decide +kernel
theorem dX11_feed_26 : decode cX11_feed 26 = .ok (.invokestatic 87, 3) := by decide +kernel
theorem dX11_feed_29 : decode cX11_feed 29 = .ok (.iadd, 1) := by decide +kernel
theorem dX11_feed_30 : decode cX11_feed 30 = .ok (.iload 5, 2) := by decide +kernel
theorem dX11_feed_32 : decode cX11_feed 32 = .ok (.invokestatic 87, 3) := by decide +kernel
theorem dX11_feed_35 : decode cX11_feed 35 = .ok (.iadd, 1) := by decide +kernel
theorem dX11_feed_36 : decode cX11_feed 36 = .ok (.sipush 500, 3) := by decide +kernel
theorem dX11_feed_39 : decode cX11_feed 39 = .ok (.if_icmp .le 5, 3) := by decide +kernel
theorem dX11_feed_42 : decode cX11_feed 42 = .ok (.iconst (-1), 1) := by decide +kernel
theorem dX11_feed_43 : decode cX11_feed 43 = .ok (.ireturn, 1) := by decide +kernel
theorem dX11_feed_44 : decode cX11_feed 44 = .ok (.aload_n 0, 1) := by decide +kernel
theorem dX11_feed_45 : decode cX11_feed 45 = .ok (.iload_n 1, 1) := by decide +kernel
theorem dX11_feed_46 : decode cX11_feed 46 = .ok (.invokevirtual 91, 3) := by decide +kernel
theorem dX11_feed_49 : decode cX11_feed 49 = .ok (.aload_n 0, 1) := by decide +kernel
theorem dX11_feed_50 : decode cX11_feed 50 = .ok (.iload_n 2, 1) := by decide +kernel
theorem dX11_feed_51 : decode cX11_feed 51 = .ok (.invokevirtual 91, 3) := by decide +kernel
theorem dX11_feed_54 : decode cX11_feed 54 = .ok (.aload_n 0, 1) := by decide +kernel
theorem dX11_feed_55 : decode cX11_feed 55 = .ok (.iload_n 3, 1) := by decide +kernel
theorem dX11_feed_56 : decode cX11_feed 56 = .ok (.invokevirtual 91, 3) := by decide +kernel
theorem dX11_feed_59 : decode cX11_feed 59 = .ok (.aload_n 0, 1) := by decide +kernel
theorem dX11_feed_60 : decode cX11_feed 60 = .ok (.iload 4, 2) := by decide +kernel
theorem dX11_feed_62 : decode cX11_feed 62 = .ok (.invokevirtual 91, 3) := by decide +kernel
theorem dX11_feed_65 : decode cX11_feed 65 = .ok (.aload_n 0, 1) := by decide +kernel
theorem dX11_feed_66 : decode cX11_feed 66 = .ok (.iload 5, 2) := by decide +kernel
theorem dX11_feed_68 : decode cX11_feed 68 = .ok (.invokevirtual 91, 3) := by decide +kernel
theorem dX11_feed_71 : decode cX11_feed 71 = .ok (.aload_n 0, 1) := by decide +kernel
theorem dX11_feed_72 : decode cX11_feed 72 = .ok (.getfield 84, 3) := by decide +kernel
theorem dX11_feed_75 : decode cX11_feed 75 = .ok (.ireturn, 1) := by decide +kernel
theorem dX11_free_0 : decode cX11_free 0 = .ok (.aload_n 0, 1) := by decide +kernel
theorem dX11_free_1 : decode cX11_free 1 = .ok (.iconst 0, 1) := by decide +kernel
theorem dX11_free_2 : decode cX11_free 2 = .ok (.putfield 80, 3) := by decide +kernel
theorem dX11_free_5 : decode cX11_free 5 = .ok (.aload_n 0, 1) := by decide +kernel
theorem dX11_free_6 : decode cX11_free 6 = .ok (.getfield 232, 3) := by decide +kernel
theorem dX11_free_9 : decode cX11_free 9 = .ok (.ifCond .ne 5, 3) := by decide +kernel
theorem dX11_free_12 : decode cX11_free 12 = .ok (.iconst (-1), 1) := by decide +kernel
theorem dX11_free_13 : decode cX11_free 13 = .ok (.ireturn, 1) := by decide +kernel
theorem dX11_free_14 : decode cX11_free 14 = .ok (.aload_n 0, 1) := by decide +kernel
theorem dX11_free_15 : decode cX11_free 15 = .ok (.invokevirtual 329, 3) := by decide +kernel
theorem dX11_free_18 : decode cX11_free 18 = .ok (.aload_n 0, 1) := by decide +kernel
theorem dX11_free_19 : decode cX11_free 19 = .ok (.aload_n 0, 1) := by decide +kernel
theorem dX11_free_20 : decode cX11_free 20 = .ok (.getfield 220, 3) := by decide +kernel
theorem dX11_free_23 : decode cX11_free 23 = .ok (.invokevirtual 386, 3) := by decide +kernel
theorem dX11_free_26 : decode cX11_free 26 = .ok (.ireturn, 1) := by decide +kernel
theorem dX11_greatest_0 : decode cX11_greatest 0 = .ok (.aload_n 0, 1) := by decide +kernel
theorem dX11_greatest_1 : decode cX11_greatest 1 = .ok (.iconst 0, 1) := by decide +kernel
theorem dX11_greatest_2 : decode cX11_greatest 2 = .ok (.putfield 80, 3) := by decide +kernel
theorem dX11_greatest_5 : decode cX11_greatest 5 = .ok (.iload_n 1, 1) := by decide +kernel
theorem dX11_greatest_6 : decode cX11_greatest 6 = .ok (.i2l, 1) := by decide +kernel
theorem dX11_greatest_7 : decode cX11_greatest 7 = .ok (.lconst 0, 1) := by decide +kernel
theorem dX11_greatest_8 : decode cX11_greatest 8 = .ok (.lconst 1, 1) := by decide +kernel
theorem dX11_greatest_9 : decode cX11_greatest 9 = .ok (.invokestatic 132, 3) := by decide +kernel
theorem dX11_greatest_12 : decode cX11_greatest 12 = .ok (.ifCond .eq 31, 3) := by decide +kernel
theorem dX11_greatest_15 : decode cX11_greatest 15 = .ok (.iload_n 2, 1) := by decide +kernel
theorem dX11_greatest_16 : decode cX11_greatest 16 = .ok (.i2l, 1) := by decide +kernel
theorem dX11_greatest_17 : decode cX11_greatest 17 = .ok (.lconst 1, 1) := by decide +kernel
theorem dX11_greatest_18 : decode cX11_greatest 18 = .ok (.ldc2_w 381, 3) := by decide +kernel
theorem dX11_greatest_21 : decode cX11_greatest 21 = .ok (.invokestatic 132, 3) := by decide +kernel
theorem dX11_greatest_24 : decode cX11_greatest 24 = .ok (.ifCond .eq 19, 3) := by decide +kernel
theorem dX11_greatest_27 : decode cX11_greatest 27 = .ok (.iload_n 2, 1) := by decide +kernel
theorem dX11_greatest_28 : decode cX11_greatest 28 = .ok (.iconst 1, 1) := by decide +kernel
theorem dX11_greatest_29 : decode cX11_greatest 29 = .ok (.isub, 1) := by decide +kernel
theorem dX11_greatest_30 : decode cX11_greatest 30 = .ok (.iload_n 1, 1) := by decide +kernel
theorem dX11_greatest_31 : decode cX11_greatest 31 = .ok (.ifCond .ne 7, 3) := by decide +kernel
theorem dX11_greatest_34 : decode cX11_greatest 34 = .ok (.iconst 3, 1) := by decide +kernel
theorem dX11_greatest_35 : decode cX11_greatest 35 = .ok (.goto 4, 3) := by decide +kernel
theorem dX11_greatest_38 : decode cX11_greatest 38 = .ok (.iconst 4, 1) := by decide +kernel
theorem dX11_greatest_39 : decode cX11_greatest 39 = .ok (.idiv, 1) := by decide +kernel
theorem dX11_greatest_40 : decode cX11_greatest 40 = .ok (.goto 4, 3) := by decide +kernel
theorem dX11_greatest_43 : decode cX11_greatest 43 = .ok (.iconst (-1), 1) := by decide +kernel
theorem dX11_greatest_44 : decode cX11_greatest 44 = .ok (.ireturn, 1) := by decide +kernel
theorem dX11_has_0 : decode cX11_has 0 = .ok (.iload_n 0, 1) := by decide +kernel
theorem dX11_has_1 : decode cX11_has 1 = .ok (.iload_n 1, 1) := by decide +kernel
theorem dX11_has_2 : decode cX11_has 2 = .ok (.ishr, 1) := by decide +kernel
theorem dX11_has_3 : decode cX11_has 3 = .ok (.iconst 1, 1) := by decide +kernel
theorem dX11_has_4 : decode cX11_has 4 = .ok (.iand, 1) := by decide +kernel
theorem dX11_has_5 : decode cX11_has 5 = .ok (.iconst 1, 1) := by decide +kernel
theorem dX11_has_6 : decode cX11_has 6 = .ok (.if_icmp .ne 7, 3) := by decide +kernel
theorem dX11_has_9 : decode cX11_has 9 = .ok (.iconst 1, 1) := by decide +kernel
theorem dX11_has_10 : decode cX11_has 10 = .ok (.goto 4, 3) := by decide +kernel
theorem dX11_has_13 : decode cX11_has 13 = .ok (.iconst 0, 1) := by decide +kernel
theorem dX11_has_14 : decode cX11_has 14 = .ok (.ireturn, 1) := by decide +kernel
theorem dX11_heard_0 : decode cX11_heard 0 = .ok (.aload_n 0, 1) := by decide +kernel
theorem dX11_heard_1 : decode cX11_heard 1 = .ok (.iconst 0, 1) := by decide +kernel
theorem dX11_heard_2 : decode cX11_heard 2 = .ok (.putfield 80, 3) := by decide +kernel
theorem dX11_heard_5 : decode cX11_heard 5 = .ok (.aload_n 0, 1) := by decide +kernel
theorem dX11_heard_6 : decode cX11_heard 6 = .ok (.iload_n 1, 1) := by decide +kernel
theorem dX11_heard_7 : decode cX11_heard 7 = .ok (.iload_n 2, 1) := by decide +kernel
theorem dX11_heard_8 : decode cX11_heard 8 = .ok (.invokevirtual 344, 3) := by decide +kernel
theorem dX11_heard_11 : decode cX11_heard 11 = .ok (.ifCond .eq 38, 3) := by decide +kernel
theorem dX11_heard_14 : decode cX11_heard 14 = .ok (.aload_n 0, 1) := by decide +kernel
theorem dX11_heard_15 : decode cX11_heard 15 = .ok (.iload_n 3, 1) := by decide +kernel
theorem dX11_heard_16 : decode cX11_heard 16 = .ok (.invokevirtual 347, 3) := by decide +kernel
theorem dX11_heard_19 : decode cX11_heard 19 = .ok (.ifCond .eq 30, 3) := by decide +kernel
theorem dX11_heard_22 : decode cX11_heard 22 = .ok (.aload_n 0, 1) := by decide +kernel
theorem dX11_heard_23 : decode cX11_heard 23 = .ok (.iload 4, 2) := by decide +kernel
theorem dX11_heard_25 : decode cX11_heard 25 = .ok (.invokevirtual 347, 3) := by decide +kernel
theorem dX11_heard_28 : decode cX11_heard 28 = .ok (.ifCond .eq 21, 3) := by decide +kernel
theorem dX11_heard_31 : decode cX11_heard 31 = .ok (.aload_n 0, 1) := by decide +kernel
theorem dX11_heard_32 : decode cX11_heard 32 = .ok (.invokevirtual 287, 3) := by decide +kernel
theorem dX11_heard_35 : decode cX11_heard 35 = .ok (.iload_n 1, 1) := by decide +kernel
theorem dX11_heard_36 : decode cX11_heard 36 = .ok (.imul, 1) := by decide +kernel
theorem dX11_heard_37 : decode cX11_heard 37 = .ok (.iload_n 2, 1) := by decide +kernel
theorem dX11_heard_38 : decode cX11_heard 38 = .ok (.iadd, 1) := by decide +kernel
theorem dX11_heard_39 : decode cX11_heard 39 = .ok (.aload_n 0, 1) := by decide +kernel
theorem dX11_heard_40 : decode cX11_heard 40 = .ok (.getfield 57, 3) := by decide +kernel
theorem dX11_heard_43 : decode cX11_heard 43 = .ok (.bipush 72, 2) := by decide +kernel
theorem dX11_heard_45 : decode cX11_heard 45 = .ok (.iaload, 1) := by decide +kernel
theorem dX11_heard_46 : decode cX11_heard 46 = .ok (.if_icmp .lt 5, 3) := by decide +kernel
theorem dX11_heard_49 : decode cX11_heard 49 = .ok (.iconst (-1), 1) := by decide +kernel
theorem dX11_heard_50 : decode cX11_heard 50 = .ok (.ireturn, 1) := by decide +kernel
theorem dX11_heard_51 : decode cX11_heard 51 = .ok (.aload_n 0, 1) := by decide +kernel
theorem dX11_heard_52 : decode cX11_heard 52 = .ok (.getfield 57, 3) := by decide +kernel
theorem dX11_heard_55 : decode cX11_heard 55 = .ok (.bipush 80, 2) := by decide +kernel
theorem dX11_heard_57 : decode cX11_heard 57 = .ok (.bipush 81, 2) := by decide +kernel
theorem dX11_heard_59 : decode cX11_heard 59 = .ok (.iconst 3, 1) := by decide +kernel
theorem dX11_heard_60 : decode cX11_heard 60 = .ok (.iload_n 1, 1) := by decide +kernel
theorem dX11_heard_61 : decode cX11_heard 61 = .ok (.imul, 1) := by decide +kernel
theorem dX11_heard_62 : decode cX11_heard 62 = .ok (.iload_n 2, 1) := by decide +kernel
theorem dX11_heard_63 : decode cX11_heard 63 = .ok (.iadd, 1) := by decide +kernel
theorem dX11_heard_64 : decode cX11_heard 64 = .ok (.imul, 1) := by decide +kernel
theorem dX11_heard_65 : decode cX11_heard 65 = .ok (.iadd, 1) := by decide +kernel
theorem dX11_heard_66 : decode cX11_heard 66 = .ok (.bipush 9, 2) := by decide +kernel
theorem dX11_heard_68 : decode cX11_heard 68 = .ok (.iload_n 3, 1) := by decide +kernel
theorem dX11_heard_69 : decode cX11_heard 69 = .ok (.imul, 1) := by decide +kernel
theorem dX11_heard_70 : decode cX11_heard 70 = .ok (.iadd, 1) := by decide +kernel
theorem dX11_heard_71 : decode cX11_heard 71 = .ok (.iload 4, 2) := by decide +kernel
theorem dX11_heard_73 : decode cX11_heard 73 = .ok (.iadd, 1) := by decide +kernel
theorem dX11_heard_74 : decode cX11_heard 74 = .ok (.iaload, 1) := by decide +kernel
theorem dX11_heard_75 : decode cX11_heard 75 = .ok (.ireturn, 1) := by decide +kernel
theorem dX11_held_0 : decode cX11_held 0 = .ok (.aload_n 0, 1) := by decide +kernel
theorem dX11_held_1 : decode cX11_held 1 = .ok (.iconst 0, 1) := by decide +kernel
theorem dX11_held_2 : decode cX11_held 2 = .ok (.putfield 80, 3) := by decide +kernel
theorem dX11_held_5 : decode cX11_held 5 = .ok (.aload_n 0, 1) := by decide +kernel
theorem dX11_held_6 : decode cX11_held 6 = .ok (.invokevirtual 396, 3) := by decide +kernel
theorem dX11_held_9 : decode cX11_held 9 = .ok (.ifCond .ne 6, 3) := by decide +kernel
theorem dX11_held_12 : decode cX11_held 12 = .ok (.bipush (-2), 2) := by decide +kernel
theorem dX11_held_14 : decode cX11_held 14 = .ok (.ireturn, 1) := by decide +kernel
theorem dX11_held_15 : decode cX11_held 15 = .ok (.aload_n 0, 1) := by decide +kernel
theorem dX11_held_16 : decode cX11_held 16 = .ok (.iload_n 2, 1) := by decide +kernel
theorem dX11_held_17 : decode cX11_held 17 = .ok (.invokevirtual 347, 3) := by decide +kernel
theorem dX11_held_20 : decode cX11_held 20 = .ok (.ifCond .eq 25, 3) := by decide +kernel
theorem dX11_held_23 : decode cX11_held 23 = .ok (.iload_n 1, 1) := by decide +kernel
theorem dX11_held_24 : decode cX11_held 24 = .ok (.i2l, 1) := by decide +kernel
theorem dX11_held_25 : decode cX11_held 25 = .ok (.lconst 0, 1) := by decide +kernel
theorem dX11_held_26 : decode cX11_held 26 = .ok (.iconst 1, 1) := by decide +kernel
theorem dX11_held_27 : decode cX11_held 27 = .ok (.aload_n 0, 1) := by decide +kernel
theorem dX11_held_28 : decode cX11_held 28 = .ok (.aload_n 0, 1) := by decide +kernel
theorem dX11_held_29 : decode cX11_held 29 = .ok (.getfield 220, 3) := by decide +kernel
theorem dX11_held_32 : decode cX11_held 32 = .ok (.invokevirtual 386, 3) := by decide +kernel
theorem dX11_held_35 : decode cX11_held 35 = .ok (.ishl, 1) := by decide +kernel
theorem dX11_held_36 : decode cX11_held 36 = .ok (.iconst 1, 1) := by decide +kernel
theorem dX11_held_37 : decode cX11_held 37 = .ok (.isub, 1) := by decide +kernel
theorem dX11_held_38 : decode cX11_held 38 = .ok (.i2l, 1) := by decide +kernel
theorem dX11_held_39 : decode cX11_held 39 = .ok (.invokestatic 132, 3) := by decide +kernel
theorem dX11_held_42 : decode cX11_held 42 = .ok (.ifCond .ne 5, 3) := by decide +kernel
theorem dX11_held_45 : decode cX11_held 45 = .ok (.iconst (-1), 1) := by decide +kernel
theorem dX11_held_46 : decode cX11_held 46 = .ok (.ireturn, 1) := by decide +kernel
theorem dX11_held_47 : decode cX11_held 47 = .ok (.aload_n 0, 1) := by decide +kernel
theorem dX11_held_48 : decode cX11_held 48 = .ok (.iconst 1, 1) := by decide +kernel
theorem dX11_held_49 : decode cX11_held 49 = .ok (.iload_n 1, 1) := by decide +kernel
theorem dX11_held_50 : decode cX11_held 50 = .ok (.invokevirtual 389, 3) := by decide +kernel
theorem dX11_held_53 : decode cX11_held 53 = .ok (.aload_n 0, 1) := by decide +kernel
theorem dX11_held_54 : decode cX11_held 54 = .ok (.getfield 26, 3) := by decide +kernel
theorem dX11_held_57 : decode cX11_held 57 = .ok (.iload_n 2, 1) := by decide +kernel
theorem dX11_held_58 : decode cX11_held 58 = .ok (.iaload, 1) := by decide +kernel
theorem dX11_held_59 : decode cX11_held 59 = .ok (.ireturn, 1) := by decide +kernel
theorem dX11_here_0 : decode cX11_here 0 = .ok (.aload_n 0, 1) := by decide +kernel
theorem dX11_here_1 : decode cX11_here 1 = .ok (.getfield 95, 3) := by decide +kernel
theorem dX11_here_4 : decode cX11_here 4 = .ok (.aload_n 0, 1) := by decide +kernel
theorem dX11_here_5 : decode cX11_here 5 = .ok (.getfield 84, 3) := by decide +kernel
theorem dX11_here_8 : decode cX11_here 8 = .ok (.if_icmp .ge 19, 3) := by decide +kernel
theorem dX11_here_11 : decode cX11_here 11 = .ok (.aload_n 0, 1) := by decide +kernel
theorem dX11_here_12 : decode cX11_here 12 = .ok (.getfield 9, 3) := by decide +kernel
theorem dX11_here_15 : decode cX11_here 15 = .ok (.aload_n 0, 1) := by decide +kernel
theorem dX11_here_16 : decode cX11_here 16 = .ok (.getfield 95, 3) := by decide +kernel
theorem dX11_here_19 : decode cX11_here 19 = .ok (.baload, 1) := by decide +kernel
theorem dX11_here_20 : decode cX11_here 20 = .ok (.sipush 255, 3) := by decide +kernel
theorem dX11_here_23 : decode cX11_here 23 = .ok (.iand, 1) := by decide +kernel
theorem dX11_here_24 : decode cX11_here 24 = .ok (.goto 4, 3) := by decide +kernel
theorem dX11_here_27 : decode cX11_here 27 = .ok (.iconst (-1), 1) := by decide +kernel
theorem dX11_here_28 : decode cX11_here 28 = .ok (.ireturn, 1) := by decide +kernel
theorem dX11_image_0 : decode cX11_image 0 = .ok (.aload_n 0, 1) := by decide +kernel
theorem dX11_image_1 : decode cX11_image 1 = .ok (.iconst 0, 1) := by decide +kernel
theorem dX11_image_2 : decode cX11_image 2 = .ok (.putfield 80, 3) := by decide +kernel
theorem dX11_image_5 : decode cX11_image 5 = .ok (.aload_n 0, 1) := by decide +kernel
theorem dX11_image_6 : decode cX11_image 6 = .ok (.getfield 232, 3) := by decide +kernel
theorem dX11_image_9 : decode cX11_image 9 = .ok (.ifCond .ne 5, 3) := by decide +kernel
theorem dX11_image_12 : decode cX11_image 12 = .ok (.iconst (-1), 1) := by decide +kernel
theorem dX11_image_13 : decode cX11_image 13 = .ok (.ireturn, 1) := by decide +kernel
theorem dX11_image_14 : decode cX11_image 14 = .ok (.iconst 0, 1) := by decide +kernel
theorem dX11_image_15 : decode cX11_image 15 = .ok (.istore_n 1, 1) := by decide +kernel
theorem dX11_image_16 : decode cX11_image 16 = .ok (.iload_n 1, 1) := by decide +kernel
theorem dX11_image_17 : decode cX11_image 17 = .ok (.sipush 2126, 3) := by decide +kernel
theorem dX11_image_20 : decode cX11_image 20 = .ok (.if_icmp .ge 21, 3) := by decide +kernel
theorem dX11_image_23 : decode cX11_image 23 = .ok (.aload_n 0, 1) := by decide +kernel
theorem dX11_image_24 : decode cX11_image 24 = .ok (.getfield 60, 3) := by decide +kernel
theorem dX11_image_27 : decode cX11_image 27 = .ok (.iload_n 1, 1) := by decide +kernel
theorem dX11_image_28 : decode cX11_image 28 = .ok (.aload_n 0, 1) := by decide +kernel
theorem dX11_image_29 : decode cX11_image 29 = .ok (.getfield 57, 3) := by decide +kernel
theorem dX11_image_32 : decode cX11_image 32 = .ok (.iload_n 1, 1) := by decide +kernel
theorem dX11_image_33 : decode cX11_image 33 = .ok (.iaload, 1) := by decide +kernel
theorem dX11_image_34 : decode cX11_image 34 = .ok (.iastore, 1) := by decide +kernel
theorem dX11_image_35 : decode cX11_image 35 = .ok (.iinc 1 1, 3) := by decide +kernel
theorem dX11_image_38 : decode cX11_image 38 = .ok (.goto (-22), 3) := by decide +kernel
theorem dX11_image_41 : decode cX11_image 41 = .ok (.aload_n 0, 1) := by decide +kernel
theorem dX11_image_42 : decode cX11_image 42 = .ok (.aload_n 0, 1) := by decide +kernel
theorem dX11_image_43 : decode cX11_image 43 = .ok (.getfield 320, 3) := by decide +kernel
theorem dX11_image_46 : decode cX11_image 46 = .ok (.putfield 352, 3) := by decide +kernel
theorem dX11_image_49 : decode cX11_image 49 = .ok (.aload_n 0, 1) := by decide +kernel
theorem dX11_image_50 : decode cX11_image 50 = .ok (.iconst 1, 1) := by decide +kernel
theorem dX11_image_51 : decode cX11_image 51 = .ok (.putfield 242, 3) := by decide +kernel
theorem dX11_image_54 : decode cX11_image 54 = .ok (.aload_n 0, 1) := by decide +kernel
theorem dX11_image_55 : decode cX11_image 55 = .ok (.getfield 57, 3) := by decide +kernel
theorem dX11_image_58 : decode cX11_image 58 = .ok (.bipush 72, 2) := by decide +kernel
theorem dX11_image_60 : decode cX11_image 60 = .ok (.iaload, 1) := by decide +kernel
theorem dX11_image_61 : decode cX11_image 61 = .ok (.ireturn, 1) := by decide +kernel
theorem dX11_init_0 : decode cX11_init 0 = .ok (.aload_n 0, 1) := by decide +kernel
theorem dX11_init_1 : decode cX11_init 1 = .ok (.invokespecial 3, 3) := by decide +kernel
theorem dX11_init_4 : decode cX11_init 4 = .ok (.aload_n 0, 1) := by decide +kernel
theorem dX11_init_5 : decode cX11_init 5 = .ok (.sipush 500, 3) := by decide +kernel
theorem dX11_init_8 : decode cX11_init 8 = .ok (.newarray .byte, 2) := by decide +kernel
theorem dX11_init_10 : decode cX11_init 10 = .ok (.putfield 9, 3) := by decide +kernel
theorem dX11_init_13 : decode cX11_init 13 = .ok (.aload_n 0, 1) := by decide +kernel
theorem dX11_init_14 : decode cX11_init 14 = .ok (.bipush 6, 2) := by decide +kernel
theorem dX11_init_16 : decode cX11_init 16 = .ok (.newarray .int, 2) := by decide +kernel
theorem dX11_init_18 : decode cX11_init 18 = .ok (.putfield 13, 3) := by decide +kernel
theorem dX11_init_21 : decode cX11_init 21 = .ok (.aload_n 0, 1) := by decide +kernel
theorem dX11_init_22 : decode cX11_init 22 = .ok (.bipush 100, 2) := by decide +kernel
theorem dX11_init_24 : decode cX11_init 24 = .ok (.newarray .int, 2) := by decide +kernel
theorem dX11_init_26 : decode cX11_init 26 = .ok (.putfield 17, 3) := by decide +kernel
theorem dX11_init_29 : decode cX11_init 29 = .ok (.aload_n 0, 1) := by decide +kernel
theorem dX11_init_30 : decode cX11_init 30 = .ok (.bipush 100, 2) := by decide +kernel
theorem dX11_init_32 : decode cX11_init 32 = .ok (.newarray .int, 2) := by decide +kernel
theorem dX11_init_34 : decode cX11_init 34 = .ok (.putfield 20, 3) := by decide +kernel
theorem dX11_init_37 : decode cX11_init 37 = .ok (.aload_n 0, 1) := by decide +kernel
theorem dX11_init_38 : decode cX11_init 38 = .ok (.sipush 150, 3) := by decide +kernel
theorem dX11_init_41 : decode cX11_init 41 = .ok (.newarray .int, 2) := by decide +kernel
theorem dX11_init_43 : decode cX11_init 43 = .ok (.putfield 23, 3) := by decide +kernel
theorem dX11_init_46 : decode cX11_init 46 = .ok (.aload_n 0, 1) := by decide +kernel
theorem dX11_init_47 : decode cX11_init 47 = .ok (.bipush 9, 2) := by decide +kernel
theorem dX11_init_49 : decode cX11_init 49 = .ok (.newarray .int, 2) := by decide +kernel
theorem dX11_init_51 : decode cX11_init 51 = .ok (.putfield 26, 3) := by decide +kernel
theorem dX11_init_54 : decode cX11_init 54 = .ok (.aload_n 0, 1) := by decide +kernel
theorem dX11_init_55 : decode cX11_init 55 = .ok (.bipush 9, 2) := by decide +kernel
theorem dX11_init_57 : decode cX11_init 57 = .ok (.newarray .int, 2) := by decide +kernel
theorem dX11_init_59 : decode cX11_init 59 = .ok (.putfield 29, 3) := by decide +kernel
theorem dX11_init_62 : decode cX11_init 62 = .ok (.aload_n 0, 1) := by decide +kernel
theorem dX11_init_63 : decode cX11_init 63 = .ok (.bipush 9, 2) := by decide +kernel
theorem dX11_init_65 : decode cX11_init 65 = .ok (.newarray .int, 2) := by decide +kernel
theorem dX11_init_67 : decode cX11_init 67 = .ok (.putfield 32, 3) := by decide +kernel
theorem dX11_init_70 : decode cX11_init 70 = .ok (.aload_n 0, 1) := by decide +kernel
theorem dX11_init_71 : decode cX11_init 71 = .ok (.bipush 9, 2) := by decide +kernel
theorem dX11_init_73 : decode cX11_init 73 = .ok (.newarray .int, 2) := by decide +kernel
theorem dX11_init_75 : decode cX11_init 75 = .ok (.putfield 35, 3) := by decide +kernel
theorem dX11_init_78 : decode cX11_init 78 = .ok (.aload_n 0, 1) := by decide +kernel
theorem dX11_init_79 : decode cX11_init 79 = .ok (.bipush 9, 2) := by decide +kernel
theorem dX11_init_81 : decode cX11_init 81 = .ok (.newarray .int, 2) := by decide +kernel
theorem dX11_init_83 : decode cX11_init 83 = .ok (.putfield 38, 3) := by decide +kernel
theorem dX11_init_86 : decode cX11_init 86 = .ok (.aload_n 0, 1) := by decide +kernel
theorem dX11_init_87 : decode cX11_init 87 = .ok (.bipush 9, 2) := by decide +kernel
theorem dX11_init_89 : decode cX11_init 89 = .ok (.newarray .int, 2) := by decide +kernel
theorem dX11_init_91 : decode cX11_init 91 = .ok (.putfield 41, 3) := by decide +kernel
theorem dX11_init_94 : decode cX11_init 94 = .ok (.aload_n 0, 1) := by decide +kernel
theorem dX11_init_95 : decode cX11_init 95 = .ok (.bipush 9, 2) := by decide +kernel
theorem dX11_init_97 : decode cX11_init 97 = .ok (.newarray .int, 2) := by decide +kernel
theorem dX11_init_99 : decode cX11_init 99 = .ok (.putfield 44, 3) := by decide +kernel
theorem dX11_init_102 : decode cX11_init 102 = .ok (.aload_n 0, 1) := by decide +kernel
theorem dX11_init_103 : decode cX11_init 103 = .ok (.bipush 81, 2) := by decide +kernel
theorem dX11_init_105 : decode cX11_init 105 = .ok (.newarray .int, 2) := by decide +kernel
theorem dX11_init_107 : decode cX11_init 107 = .ok (.putfield 47, 3) := by decide +kernel
theorem dX11_init_110 : decode cX11_init 110 = .ok (.aload_n 0, 1) := by decide +kernel
theorem dX11_init_111 : decode cX11_init 111 = .ok (.bipush 9, 2) := by decide +kernel
theorem dX11_init_113 : decode cX11_init 113 = .ok (.newarray .boolean, 2) := by decide +kernel
theorem dX11_init_115 : decode cX11_init 115 = .ok (.putfield 50, 3) := by decide +kernel
theorem dX11_init_118 : decode cX11_init 118 = .ok (.aload_n 0, 1) := by decide +kernel
theorem dX11_init_119 : decode cX11_init 119 = .ok (.bipush 9, 2) := by decide +kernel
theorem dX11_init_121 : decode cX11_init 121 = .ok (.newarray .boolean, 2) := by decide +kernel
theorem dX11_init_123 : decode cX11_init 123 = .ok (.putfield 54, 3) := by decide +kernel
theorem dX11_init_126 : decode cX11_init 126 = .ok (.aload_n 0, 1) := by decide +kernel
theorem dX11_init_127 : decode cX11_init 127 = .ok (.sipush 2126, 3) := by decide +kernel
theorem dX11_init_130 : decode cX11_init 130 = .ok (.newarray .int, 2) := by decide +kernel
theorem dX11_init_132 : decode cX11_init 132 = .ok (.putfield 57, 3) := by decide +kernel
theorem dX11_init_135 : decode cX11_init 135 = .ok (.aload_n 0, 1) := by decide +kernel
theorem dX11_init_136 : decode cX11_init 136 = .ok (.sipush 2126, 3) := by decide +kernel
theorem dX11_init_139 : decode cX11_init 139 = .ok (.newarray .int, 2) := by decide +kernel
theorem dX11_init_141 : decode cX11_init 141 = .ok (.putfield 60, 3) := by decide +kernel
theorem dX11_init_144 : decode cX11_init 144 = .ok (.aload_n 0, 1) := by decide +kernel
theorem dX11_init_145 : decode cX11_init 145 = .ok (.ldc 63, 2) := by decide +kernel
theorem dX11_init_147 : decode cX11_init 147 = .ok (.newarray .int, 2) := by decide +kernel
theorem dX11_init_149 : decode cX11_init 149 = .ok (.putfield 64, 3) := by decide +kernel
theorem dX11_init_152 : decode cX11_init 152 = .ok (.aload_n 0, 1) := by decide +kernel
theorem dX11_init_153 : decode cX11_init 153 = .ok (.bipush 20, 2) := by decide +kernel
theorem dX11_init_155 : decode cX11_init 155 = .ok (.newarray .long, 2) := by decide +kernel
theorem dX11_init_157 : decode cX11_init 157 = .ok (.putfield 67, 3) := by decide +kernel
theorem dX11_init_160 : decode cX11_init 160 = .ok (.aload_n 0, 1) := by decide +kernel
theorem dX11_init_161 : decode cX11_init 161 = .ok (.iconst 5, 1) := by decide +kernel
theorem dX11_init_162 : decode cX11_init 162 = .ok (.newarray .int, 2) := by decide +kernel
theorem dX11_init_164 : decode cX11_init 164 = .ok (.putfield 71, 3) := by decide +kernel
theorem dX11_init_167 : decode cX11_init 167 = .ok (.aload_n 0, 1) := by decide +kernel
theorem dX11_init_168 : decode cX11_init 168 = .ok (.sipush 400, 3) := by decide +kernel
theorem dX11_init_171 : decode cX11_init 171 = .ok (.newarray .int, 2) := by decide +kernel
theorem dX11_init_173 : decode cX11_init 173 = .ok (.putfield 74, 3) := by decide +kernel
theorem dX11_init_176 : decode cX11_init 176 = .ok (.aload_n 0, 1) := by decide +kernel
theorem dX11_init_177 : decode cX11_init 177 = .ok (.sipush 200, 3) := by decide +kernel
theorem dX11_init_180 : decode cX11_init 180 = .ok (.newarray .int, 2) := by decide +kernel
theorem dX11_init_182 : decode cX11_init 182 = .ok (.putfield 77, 3) := by decide +kernel
theorem dX11_init_185 : decode cX11_init 185 = .ok (.return_, 1) := by decide +kernel
theorem dX11_isDigit_0 : decode cX11_isDigit 0 = .ok (.iload_n 0, 1) := by decide +kernel
theorem dX11_isDigit_1 : decode cX11_isDigit 1 = .ok (.bipush 48, 2) := by decide +kernel
theorem dX11_isDigit_3 : decode cX11_isDigit 3 = .ok (.if_icmp .lt 13, 3) := by decide +kernel
theorem dX11_isDigit_6 : decode cX11_isDigit 6 = .ok (.iload_n 0, 1) := by decide +kernel
theorem dX11_isDigit_7 : decode cX11_isDigit 7 = .ok (.bipush 57, 2) := by decide +kernel
theorem dX11_isDigit_9 : decode cX11_isDigit 9 = .ok (.if_icmp .gt 7, 3) := by decide +kernel
theorem dX11_isDigit_12 : decode cX11_isDigit 12 = .ok (.iconst 1, 1) := by decide +kernel
theorem dX11_isDigit_13 : decode cX11_isDigit 13 = .ok (.goto 4, 3) := by decide +kernel
theorem dX11_isDigit_16 : decode cX11_isDigit 16 = .ok (.iconst 0, 1) := by decide +kernel
theorem dX11_isDigit_17 : decode cX11_isDigit 17 = .ok (.ireturn, 1) := by decide +kernel
theorem dX11_isIn_0 : decode cX11_isIn 0 = .ok (.lload_n 0, 1) := by decide +kernel
theorem dX11_isIn_1 : decode cX11_isIn 1 = .ok (.lload_n 2, 1) := by decide +kernel
theorem dX11_isIn_2 : decode cX11_isIn 2 = .ok (.lcmp, 1) := by decide +kernel
theorem dX11_isIn_3 : decode cX11_isIn 3 = .ok (.ifCond .lt 14, 3) := by decide +kernel
theorem dX11_isIn_6 : decode cX11_isIn 6 = .ok (.lload_n 0, 1) := by decide +kernel
theorem dX11_isIn_7 : decode cX11_isIn 7 = .ok (.lload 4, 2) := by decide +kernel
theorem dX11_isIn_9 : decode cX11_isIn 9 = .ok (.lcmp, 1) := by decide +kernel
theorem dX11_isIn_10 : decode cX11_isIn 10 = .ok (.ifCond .gt 7, 3) := by decide +kernel
theorem dX11_isIn_13 : decode cX11_isIn 13 = .ok (.iconst 1, 1) := by decide +kernel
theorem dX11_isIn_14 : decode cX11_isIn 14 = .ok (.goto 4, 3) := by decide +kernel
theorem dX11_isIn_17 : decode cX11_isIn 17 = .ok (.iconst 0, 1) := by decide +kernel
theorem dX11_isIn_18 : decode cX11_isIn 18 = .ok (.ireturn, 1) := by decide +kernel
theorem dX11_isPeer_0 : decode cX11_isPeer 0 = .ok (.aload_n 0, 1) := by decide +kernel
theorem dX11_isPeer_1 : decode cX11_isPeer 1 = .ok (.getfield 232, 3) := by decide +kernel
theorem dX11_isPeer_4 : decode cX11_isPeer 4 = .ok (.ifCond .eq 23, 3) := by decide +kernel
theorem dX11_isPeer_7 : decode cX11_isPeer 7 = .ok (.iload_n 1, 1) := by decide +kernel
theorem dX11_isPeer_8 : decode cX11_isPeer 8 = .ok (.i2l, 1) := by decide +kernel
theorem dX11_isPeer_9 : decode cX11_isPeer 9 = .ok (.lconst 0, 1) := by decide +kernel
theorem dX11_isPeer_10 : decode cX11_isPeer 10 = .ok (.aload_n 0, 1) := by decide +kernel
theorem dX11_isPeer_11 : decode cX11_isPeer 11 = .ok (.getfield 215, 3) := by decide +kernel
theorem dX11_isPeer_14 : decode cX11_isPeer 14 = .ok (.iconst 1, 1) := by decide +kernel
theorem dX11_isPeer_15 : decode cX11_isPeer 15 = .ok (.isub, 1) := by decide +kernel
theorem dX11_isPeer_16 : decode cX11_isPeer 16 = .ok (.i2l, 1) := by decide +kernel
theorem dX11_isPeer_17 : decode cX11_isPeer 17 = .ok (.invokestatic 132, 3) := by decide +kernel
theorem dX11_isPeer_20 : decode cX11_isPeer 20 = .ok (.ifCond .eq 7, 3) := by decide +kernel
theorem dX11_isPeer_23 : decode cX11_isPeer 23 = .ok (.iconst 1, 1) := by decide +kernel
theorem dX11_isPeer_24 : decode cX11_isPeer 24 = .ok (.goto 4, 3) := by decide +kernel
theorem dX11_isPeer_27 : decode cX11_isPeer 27 = .ok (.iconst 0, 1) := by decide +kernel
theorem dX11_isPeer_28 : decode cX11_isPeer 28 = .ok (.ireturn, 1) := by decide +kernel
theorem dX11_isRound_0 : decode cX11_isRound 0 = .ok (.aload_n 0, 1) := by decide +kernel
theorem dX11_isRound_1 : decode cX11_isRound 1 = .ok (.getfield 232, 3) := by decide +kernel
theorem dX11_isRound_4 : decode cX11_isRound 4 = .ok (.ifCond .eq 39, 3) := by decide +kernel
theorem dX11_isRound_7 : decode cX11_isRound 7 = .ok (.iload_n 1, 1) := by decide +kernel
theorem dX11_isRound_8 : decode cX11_isRound 8 = .ok (.i2l, 1) := by decide +kernel
theorem dX11_isRound_9 : decode cX11_isRound 9 = .ok (.lconst 0, 1) := by decide +kernel
theorem dX11_isRound_10 : decode cX11_isRound 10 = .ok (.aload_n 0, 1) := by decide +kernel
theorem dX11_isRound_11 : decode cX11_isRound 11 = .ok (.getfield 220, 3) := by decide +kernel
theorem dX11_isRound_14 : decode cX11_isRound 14 = .ok (.iconst 1, 1) := by decide +kernel
theorem dX11_isRound_15 : decode cX11_isRound 15 = .ok (.isub, 1) := by decide +kernel
theorem dX11_isRound_16 : decode cX11_isRound 16 = .ok (.i2l, 1) := by decide +kernel
theorem dX11_isRound_17 : decode cX11_isRound 17 = .ok (.invokestatic 132, 3) := by decide +kernel
theorem dX11_isRound_20 : decode cX11_isRound 20 = .ok (.ifCond .eq 23, 3) := by decide +kernel
theorem dX11_isRound_23 : decode cX11_isRound 23 = .ok (.iload_n 2, 1) := by decide +kernel
theorem dX11_isRound_24 : decode cX11_isRound 24 = .ok (.i2l, 1) := by decide +kernel
theorem dX11_isRound_25 : decode cX11_isRound 25 = .ok (.lconst 0, 1) := by decide +kernel
theorem dX11_isRound_26 : decode cX11_isRound 26 = .ok (.aload_n 0, 1) := by decide +kernel
theorem dX11_isRound_27 : decode cX11_isRound 27 = .ok (.invokevirtual 287, 3) := by decide +kernel
theorem dX11_isRound_30 : decode cX11_isRound 30 = .ok (.iconst 1, 1) := by decide +kernel
theorem dX11_isRound_31 : decode cX11_isRound 31 = .ok (.isub, 1) := by decide +kernel
theorem dX11_isRound_32 : decode cX11_isRound 32 = .ok (.i2l, 1) := by decide +kernel
theorem dX11_isRound_33 : decode cX11_isRound 33 = .ok (.invokestatic 132, 3) := by decide +kernel
theorem dX11_isRound_36 : decode cX11_isRound 36 = .ok (.ifCond .eq 7, 3) := by decide +kernel
theorem dX11_isRound_39 : decode cX11_isRound 39 = .ok (.iconst 1, 1) := by decide +kernel
theorem dX11_isRound_40 : decode cX11_isRound 40 = .ok (.goto 4, 3) := by decide +kernel
theorem dX11_isRound_43 : decode cX11_isRound 43 = .ok (.iconst 0, 1) := by decide +kernel
theorem dX11_isRound_44 : decode cX11_isRound 44 = .ok (.ireturn, 1) := by decide +kernel
theorem dX11_letters_0 : decode cX11_letters 0 = .ok (.aload_n 0, 1) := by decide +kernel
theorem dX11_letters_1 : decode cX11_letters 1 = .ok (.iconst 0, 1) := by decide +kernel
theorem dX11_letters_2 : decode cX11_letters 2 = .ok (.putfield 80, 3) := by decide +kernel
theorem dX11_letters_5 : decode cX11_letters 5 = .ok (.aload_n 0, 1) := by decide +kernel
theorem dX11_letters_6 : decode cX11_letters 6 = .ok (.getfield 232, 3) := by decide +kernel
theorem dX11_letters_9 : decode cX11_letters 9 = .ok (.ifCond .ne 5, 3) := by decide +kernel
theorem dX11_letters_12 : decode cX11_letters 12 = .ok (.iconst (-1), 1) := by decide +kernel
theorem dX11_letters_13 : decode cX11_letters 13 = .ok (.ireturn, 1) := by decide +kernel
theorem dX11_letters_14 : decode cX11_letters 14 = .ok (.iload_n 1, 1) := by decide +kernel
theorem dX11_letters_15 : decode cX11_letters 15 = .ok (.tableswitch 81 0 3 #[29, 37, 45, 54], 29) := by decide +kernel
theorem dX11_letters_44 : decode cX11_letters 44 = .ok (.aload_n 0, 1) := by decide +kernel
theorem dX11_letters_45 : decode cX11_letters 45 = .ok (.getfield 57, 3) := by decide +kernel
theorem dX11_letters_48 : decode cX11_letters 48 = .ok (.bipush 73, 2) := by decide +kernel
theorem dX11_letters_50 : decode cX11_letters 50 = .ok (.iaload, 1) := by decide +kernel
theorem dX11_letters_51 : decode cX11_letters 51 = .ok (.ireturn, 1) := by decide +kernel
theorem dX11_letters_52 : decode cX11_letters 52 = .ok (.aload_n 0, 1) := by decide +kernel
theorem dX11_letters_53 : decode cX11_letters 53 = .ok (.getfield 57, 3) := by decide +kernel
theorem dX11_letters_56 : decode cX11_letters 56 = .ok (.bipush 74, 2) := by decide +kernel
theorem dX11_letters_58 : decode cX11_letters 58 = .ok (.iaload, 1) := by decide +kernel
theorem dX11_letters_59 : decode cX11_letters 59 = .ok (.ireturn, 1) := by decide +kernel
theorem dX11_letters_60 : decode cX11_letters 60 = .ok (.aload_n 0, 1) := by decide +kernel
theorem dX11_letters_61 : decode cX11_letters 61 = .ok (.aload_n 0, 1) := by decide +kernel
theorem dX11_letters_62 : decode cX11_letters 62 = .ok (.getfield 212, 3) := by decide +kernel
theorem dX11_letters_65 : decode cX11_letters 65 = .ok (.invokevirtual 378, 3) := by decide +kernel
theorem dX11_letters_68 : decode cX11_letters 68 = .ok (.ireturn, 1) := by decide +kernel
theorem dX11_letters_69 : decode cX11_letters 69 = .ok (.aload_n 0, 1) := by decide +kernel
theorem dX11_letters_70 : decode cX11_letters 70 = .ok (.invokevirtual 358, 3) := by decide +kernel
theorem dX11_letters_73 : decode cX11_letters 73 = .ok (.ifCond .ne 7, 3) := by decide +kernel
theorem dX11_letters_76 : decode cX11_letters 76 = .ok (.iconst 0, 1) := by decide +kernel
theorem dX11_letters_77 : decode cX11_letters 77 = .ok (.goto 18, 3) := by decide +kernel
theorem dX11_letters_80 : decode cX11_letters 80 = .ok (.aload_n 0, 1) := by decide +kernel
theorem dX11_letters_81 : decode cX11_letters 81 = .ok (.getfield 57, 3) := by decide +kernel
theorem dX11_letters_84 : decode cX11_letters 84 = .ok (.sipush 1970, 3) := by decide +kernel
theorem dX11_letters_87 : decode cX11_letters 87 = .ok (.aload_n 0, 1) := by decide +kernel
theorem dX11_letters_88 : decode cX11_letters 88 = .ok (.invokevirtual 358, 3) := by decide +kernel
theorem dX11_letters_91 : decode cX11_letters 91 = .ok (.iadd, 1) := by decide +kernel
theorem dX11_letters_92 : decode cX11_letters 92 = .ok (.iconst 1, 1) := by decide +kernel
theorem dX11_letters_93 : decode cX11_letters 93 = .ok (.isub, 1) := by decide +kernel
theorem dX11_letters_94 : decode cX11_letters 94 = .ok (.iaload, 1) := by decide +kernel
theorem dX11_letters_95 : decode cX11_letters 95 = .ok (.ireturn, 1) := by decide +kernel
theorem dX11_letters_96 : decode cX11_letters 96 = .ok (.iconst (-1), 1) := by decide +kernel
theorem dX11_letters_97 : decode cX11_letters 97 = .ok (.ireturn, 1) := by decide +kernel
theorem dX11_line_0 : decode cX11_line 0 = .ok (.aload_n 0, 1) := by decide +kernel
theorem dX11_line_1 : decode cX11_line 1 = .ok (.iload_n 1, 1) := by decide +kernel
theorem dX11_line_2 : decode cX11_line 2 = .ok (.i2l, 1) := by decide +kernel
theorem dX11_line_3 : decode cX11_line 3 = .ok (.lconst 0, 1) := by decide +kernel
theorem dX11_line_4 : decode cX11_line 4 = .ok (.aload_n 0, 1) := by decide +kernel
theorem dX11_line_5 : decode cX11_line 5 = .ok (.getfield 248, 3) := by decide +kernel
theorem dX11_line_8 : decode cX11_line 8 = .ok (.iconst 1, 1) := by decide +kernel
theorem dX11_line_9 : decode cX11_line 9 = .ok (.isub, 1) := by decide +kernel
theorem dX11_line_10 : decode cX11_line 10 = .ok (.i2l, 1) := by decide +kernel
theorem dX11_line_11 : decode cX11_line 11 = .ok (.invokestatic 132, 3) := by decide +kernel
theorem dX11_line_14 : decode cX11_line 14 = .ok (.ifCond .eq 19, 3) := by decide +kernel
theorem dX11_line_17 : decode cX11_line 17 = .ok (.iload_n 2, 1) := by decide +kernel
theorem dX11_line_18 : decode cX11_line 18 = .ok (.i2l, 1) := by decide +kernel
theorem dX11_line_19 : decode cX11_line 19 = .ok (.lconst 0, 1) := by decide +kernel
theorem dX11_line_20 : decode cX11_line 20 = .ok (.ldc2_w 355, 3) := by decide +kernel
theorem dX11_line_23 : decode cX11_line 23 = .ok (.invokestatic 132, 3) := by decide +kernel
theorem dX11_line_26 : decode cX11_line 26 = .ok (.ifCond .eq 7, 3) := by decide +kernel
theorem dX11_line_29 : decode cX11_line 29 = .ok (.iconst 0, 1) := by decide +kernel
theorem dX11_line_30 : decode cX11_line 30 = .ok (.goto 4, 3) := by decide +kernel
theorem dX11_line_33 : decode cX11_line 33 = .ok (.iconst 1, 1) := by decide +kernel
theorem dX11_line_34 : decode cX11_line 34 = .ok (.putfield 80, 3) := by decide +kernel
theorem dX11_line_37 : decode cX11_line 37 = .ok (.aload_n 0, 1) := by decide +kernel
theorem dX11_line_38 : decode cX11_line 38 = .ok (.getfield 80, 3) := by decide +kernel
theorem dX11_line_41 : decode cX11_line 41 = .ok (.ifCond .le 7, 3) := by decide +kernel
theorem dX11_line_44 : decode cX11_line 44 = .ok (.iconst 0, 1) := by decide +kernel
theorem dX11_line_45 : decode cX11_line 45 = .ok (.goto 13, 3) := by decide +kernel
theorem dX11_line_48 : decode cX11_line 48 = .ok (.aload_n 0, 1) := by decide +kernel
theorem dX11_line_49 : decode cX11_line 49 = .ok (.getfield 17, 3) := by decide +kernel
theorem dX11_line_52 : decode cX11_line 52 = .ok (.iconst 5, 1) := by decide +kernel
theorem dX11_line_53 : decode cX11_line 53 = .ok (.iload_n 1, 1) := by decide +kernel
theorem dX11_line_54 : decode cX11_line 54 = .ok (.imul, 1) := by decide +kernel
theorem dX11_line_55 : decode cX11_line 55 = .ok (.iload_n 2, 1) := by decide +kernel
theorem dX11_line_56 : decode cX11_line 56 = .ok (.iadd, 1) := by decide +kernel
theorem dX11_line_57 : decode cX11_line 57 = .ok (.iaload, 1) := by decide +kernel
theorem dX11_line_58 : decode cX11_line 58 = .ok (.ireturn, 1) := by decide +kernel
theorem dX11_look_0 : decode cX11_look 0 = .ok (.aload_n 0, 1) := by decide +kernel
theorem dX11_look_1 : decode cX11_look 1 = .ok (.invokevirtual 98, 3) := by decide +kernel
theorem dX11_look_4 : decode cX11_look 4 = .ok (.bipush 32, 2) := by decide +kernel
theorem dX11_look_6 : decode cX11_look 6 = .ok (.if_icmp .ne 16, 3) := by decide +kernel
theorem dX11_look_9 : decode cX11_look 9 = .ok (.aload_n 0, 1) := by decide +kernel
theorem dX11_look_10 : decode cX11_look 10 = .ok (.dup, 1) := by decide +kernel
theorem dX11_look_11 : decode cX11_look 11 = .ok (.getfield 95, 3) := by decide +kernel
theorem dX11_look_14 : decode cX11_look 14 = .ok (.iconst 1, 1) := by decide +kernel
theorem dX11_look_15 : decode cX11_look 15 = .ok (.iadd, 1) := by decide +kernel
theorem dX11_look_16 : decode cX11_look 16 = .ok (.putfield 95, 3) := by decide +kernel
theorem dX11_look_19 : decode cX11_look 19 = .ok (.goto (-19), 3) := by decide +kernel
theorem dX11_look_22 : decode cX11_look 22 = .ok (.aload_n 0, 1) := by decide +kernel
theorem dX11_look_23 : decode cX11_look 23 = .ok (.invokevirtual 98, 3) := by decide +kernel
theorem dX11_look_26 : decode cX11_look 26 = .ok (.ireturn, 1) := by decide +kernel
theorem dX11_most_0 : decode cX11_most 0 = .ok (.aload_n 0, 1) := by decide +kernel
theorem dX11_most_1 : decode cX11_most 1 = .ok (.iconst 0, 1) := by decide +kernel
theorem dX11_most_2 : decode cX11_most 2 = .ok (.putfield 80, 3) := by decide +kernel
theorem dX11_most_5 : decode cX11_most 5 = .ok (.aload_n 0, 1) := by decide +kernel
theorem dX11_most_6 : decode cX11_most 6 = .ok (.getfield 232, 3) := by decide +kernel
theorem dX11_most_9 : decode cX11_most 9 = .ok (.ifCond .eq 15, 3) := by decide +kernel
theorem dX11_most_12 : decode cX11_most 12 = .ok (.iload_n 1, 1) := by decide +kernel
theorem dX11_most_13 : decode cX11_most 13 = .ok (.i2l, 1) := by decide +kernel
theorem dX11_most_14 : decode cX11_most 14 = .ok (.lconst 0, 1) := by decide +kernel
theorem dX11_most_15 : decode cX11_most 15 = .ok (.ldc2_w 355, 3) := by decide +kernel
theorem dX11_most_18 : decode cX11_most 18 = .ok (.invokestatic 132, 3) := by decide +kernel
theorem dX11_most_21 : decode cX11_most 21 = .ok (.ifCond .ne 5, 3) := by decide +kernel
theorem dX11_most_24 : decode cX11_most 24 = .ok (.iconst (-1), 1) := by decide +kernel
theorem dX11_most_25 : decode cX11_most 25 = .ok (.ireturn, 1) := by decide +kernel
theorem dX11_most_26 : decode cX11_most 26 = .ok (.iload_n 1, 1) := by decide +kernel
theorem dX11_most_27 : decode cX11_most 27 = .ok (.iconst 2, 1) := by decide +kernel
theorem dX11_most_28 : decode cX11_most 28 = .ok (.if_icmp .ge 18, 3) := by decide +kernel
theorem dX11_most_31 : decode cX11_most 31 = .ok (.aload_n 0, 1) := by decide +kernel
theorem dX11_most_32 : decode cX11_most 32 = .ok (.iload_n 1, 1) := by decide +kernel
theorem dX11_most_33 : decode cX11_most 33 = .ok (.iconst 1, 1) := by decide +kernel
theorem dX11_most_34 : decode cX11_most 34 = .ok (.if_icmp .ne 7, 3) := by decide +kernel
theorem dX11_most_37 : decode cX11_most 37 = .ok (.iconst 1, 1) := by decide +kernel
theorem dX11_most_38 : decode cX11_most 38 = .ok (.goto 4, 3) := by decide +kernel
theorem dX11_most_41 : decode cX11_most 41 = .ok (.iconst 0, 1) := by decide +kernel
theorem dX11_most_42 : decode cX11_most 42 = .ok (.invokevirtual 460, 3) := by decide +kernel
theorem dX11_most_45 : decode cX11_most 45 = .ok (.ireturn, 1) := by decide +kernel
theorem dX11_most_46 : decode cX11_most 46 = .ok (.iload_n 1, 1) := by decide +kernel
theorem dX11_most_47 : decode cX11_most 47 = .ok (.iconst 3, 1) := by decide +kernel
theorem dX11_most_48 : decode cX11_most 48 = .ok (.if_icmp .ne 8, 3) := by decide +kernel
theorem dX11_most_51 : decode cX11_most 51 = .ok (.aload_n 0, 1) := by decide +kernel
theorem dX11_most_52 : decode cX11_most 52 = .ok (.invokevirtual 464, 3) := by decide +kernel
theorem dX11_most_55 : decode cX11_most 55 = .ok (.ireturn, 1) := by decide +kernel
theorem dX11_most_56 : decode cX11_most 56 = .ok (.iconst 0, 1) := by decide +kernel
theorem dX11_most_57 : decode cX11_most 57 = .ok (.istore_n 2, 1) := by decide +kernel
theorem dX11_most_58 : decode cX11_most 58 = .ok (.iconst (-1), 1) := by decide +kernel
theorem dX11_most_59 : decode cX11_most 59 = .ok (.istore_n 3, 1) := by decide +kernel
theorem dX11_most_60 : decode cX11_most 60 = .ok (.iconst 0, 1) := by decide +kernel
theorem dX11_most_61 : decode cX11_most 61 = .ok (.istore 4, 2) := by decide +kernel
theorem dX11_most_63 : decode cX11_most 63 = .ok (.iload 4, 2) := by decide +kernel
theorem dX11_most_65 : decode cX11_most 65 = .ok (.aload_n 0, 1) := by decide +kernel
theorem dX11_most_66 : decode cX11_most 66 = .ok (.invokevirtual 358, 3) := by decide +kernel
theorem dX11_most_69 : decode cX11_most 69 = .ok (.if_icmp .ge 60, 3) := by decide +kernel
theorem dX11_most_72 : decode cX11_most 72 = .ok (.iload_n 2, 1) := by decide +kernel
theorem dX11_most_73 : decode cX11_most 73 = .ok (.aload_n 0, 1) := by decide +kernel
theorem dX11_most_74 : decode cX11_most 74 = .ok (.iload 4, 2) := by decide +kernel
theorem dX11_most_76 : decode cX11_most 76 = .ok (.iconst 1, 1) := by decide +kernel
theorem dX11_most_77 : decode cX11_most 77 = .ok (.iconst 0, 1) := by decide +kernel
theorem dX11_most_78 : decode cX11_most 78 = .ok (.invokevirtual 439, 3) := by decide +kernel
theorem dX11_most_81 : decode cX11_most 81 = .ok (.ifCond .le 7, 3) := by decide +kernel
theorem dX11_most_84 : decode cX11_most 84 = .ok (.iconst 1, 1) := by decide +kernel
theorem dX11_most_85 : decode cX11_most 85 = .ok (.goto 4, 3) := by decide +kernel
theorem dX11_most_88 : decode cX11_most 88 = .ok (.iconst 0, 1) := by decide +kernel
theorem dX11_most_89 : decode cX11_most 89 = .ok (.iadd, 1) := by decide +kernel
theorem dX11_most_90 : decode cX11_most 90 = .ok (.istore_n 2, 1) := by decide +kernel
theorem dX11_most_91 : decode cX11_most 91 = .ok (.iload_n 3, 1) := by decide +kernel
theorem dX11_most_92 : decode cX11_most 92 = .ok (.iconst (-1), 1) := by decide +kernel
theorem dX11_most_93 : decode cX11_most 93 = .ok (.if_icmp .eq 23, 3) := by decide +kernel
theorem dX11_most_96 : decode cX11_most 96 = .ok (.aload_n 0, 1) := by decide +kernel
theorem dX11_most_97 : decode cX11_most 97 = .ok (.iload 4, 2) := by decide +kernel
theorem dX11_most_99 : decode cX11_most 99 = .ok (.bipush 7, 2) := by decide +kernel
theorem dX11_most_101 : decode cX11_most 101 = .ok (.iconst 1, 1) := by decide +kernel
theorem dX11_most_102 : decode cX11_most 102 = .ok (.invokevirtual 439, 3) := by decide +kernel
theorem dX11_most_105 : decode cX11_most 105 = .ok (.aload_n 0, 1) := by decide +kernel
theorem dX11_most_106 : decode cX11_most 106 = .ok (.iload_n 3, 1) := by decide +kernel
theorem dX11_most_107 : decode cX11_most 107 = .ok (.bipush 7, 2) := by decide +kernel
theorem dX11_most_109 : decode cX11_most 109 = .ok (.iconst 1, 1) := by decide +kernel
theorem dX11_most_110 : decode cX11_most 110 = .ok (.invokevirtual 439, 3) := by decide +kernel
theorem dX11_most_113 : decode cX11_most 113 = .ok (.if_icmp .le 8, 3) := by decide +kernel
theorem dX11_most_116 : decode cX11_most 116 = .ok (.iload 4, 2) := by decide +kernel
theorem dX11_most_118 : decode cX11_most 118 = .ok (.goto 4, 3) := by decide +kernel
theorem dX11_most_121 : decode cX11_most 121 = .ok (.iload_n 3, 1) := by decide +kernel
theorem dX11_most_122 : decode cX11_most 122 = .ok (.istore_n 3, 1) := by decide +kernel
theorem dX11_most_123 : decode cX11_most 123 = .ok (.iinc 4 1, 3) := by decide +kernel
theorem dX11_most_126 : decode cX11_most 126 = .ok (.goto (-63), 3) := by decide +kernel
theorem dX11_most_129 : decode cX11_most 129 = .ok (.iload_n 1, 1) := by decide +kernel
theorem dX11_most_130 : decode cX11_most 130 = .ok (.iconst 2, 1) := by decide +kernel
theorem dX11_most_131 : decode cX11_most 131 = .ok (.if_icmp .ne 7, 3) := by decide +kernel
theorem dX11_most_134 : decode cX11_most 134 = .ok (.iload_n 2, 1) := by decide +kernel
theorem dX11_most_135 : decode cX11_most 135 = .ok (.goto 4, 3) := by decide +kernel
theorem dX11_most_138 : decode cX11_most 138 = .ok (.iload_n 3, 1) := by decide +kernel
theorem dX11_most_139 : decode cX11_most 139 = .ok (.ireturn, 1) := by decide +kernel
theorem dX11_needed_0 : decode cX11_needed 0 = .ok (.aload_n 0, 1) := by decide +kernel
theorem dX11_needed_1 : decode cX11_needed 1 = .ok (.iconst 0, 1) := by decide +kernel
theorem dX11_needed_2 : decode cX11_needed 2 = .ok (.putfield 80, 3) := by decide +kernel
theorem dX11_needed_5 : decode cX11_needed 5 = .ok (.aload_n 0, 1) := by decide +kernel
theorem dX11_needed_6 : decode cX11_needed 6 = .ok (.getfield 232, 3) := by decide +kernel
theorem dX11_needed_9 : decode cX11_needed 9 = .ok (.ifCond .ne 5, 3) := by decide +kernel
theorem dX11_needed_12 : decode cX11_needed 12 = .ok (.iconst (-1), 1) := by decide +kernel
theorem dX11_needed_13 : decode cX11_needed 13 = .ok (.ireturn, 1) := by decide +kernel
theorem dX11_needed_14 : decode cX11_needed 14 = .ok (.aload_n 0, 1) := by decide +kernel
theorem dX11_needed_15 : decode cX11_needed 15 = .ok (.invokevirtual 329, 3) := by decide +kernel
theorem dX11_needed_18 : decode cX11_needed 18 = .ok (.aload_n 0, 1) := by decide +kernel
theorem dX11_needed_19 : decode cX11_needed 19 = .ok (.getfield 220, 3) := by decide +kernel
theorem dX11_needed_22 : decode cX11_needed 22 = .ok (.istore_n 1, 1) := by decide +kernel
theorem dX11_needed_23 : decode cX11_needed 23 = .ok (.iconst (-1), 1) := by decide +kernel
theorem dX11_needed_24 : decode cX11_needed 24 = .ok (.istore_n 2, 1) := by decide +kernel
theorem dX11_needed_25 : decode cX11_needed 25 = .ok (.iconst 1, 1) := by decide +kernel
theorem dX11_needed_26 : decode cX11_needed 26 = .ok (.istore_n 3, 1) := by decide +kernel
theorem dX11_needed_27 : decode cX11_needed 27 = .ok (.iload_n 3, 1) := by decide +kernel
theorem dX11_needed_28 : decode cX11_needed 28 = .ok (.bipush 6, 2) := by decide +kernel
theorem dX11_needed_30 : decode cX11_needed 30 = .ok (.if_icmp .gt 39, 3) := by decide +kernel
theorem dX11_needed_33 : decode cX11_needed 33 = .ok (.iload_n 2, 1) := by decide +kernel
theorem dX11_needed_34 : decode cX11_needed 34 = .ok (.iconst (-1), 1) := by decide +kernel
theorem dX11_needed_35 : decode cX11_needed 35 = .ok (.if_icmp .ne 34, 3) := by decide +kernel
theorem dX11_needed_38 : decode cX11_needed 38 = .ok (.aload_n 0, 1) := by decide +kernel
theorem dX11_needed_39 : decode cX11_needed 39 = .ok (.iload_n 3, 1) := by decide +kernel
theorem dX11_needed_40 : decode cX11_needed 40 = .ok (.invokevirtual 386, 3) := by decide +kernel
theorem dX11_needed_43 : decode cX11_needed 43 = .ok (.bipush 12, 2) := by decide +kernel
theorem dX11_needed_45 : decode cX11_needed 45 = .ok (.if_icmp .gt 24, 3) := by decide +kernel
theorem dX11_needed_48 : decode cX11_needed 48 = .ok (.aload_n 0, 1) := by decide +kernel
theorem dX11_needed_49 : decode cX11_needed 49 = .ok (.iload_n 3, 1) := by decide +kernel
theorem dX11_needed_50 : decode cX11_needed 50 = .ok (.putfield 220, 3) := by decide +kernel
theorem dX11_needed_53 : decode cX11_needed 53 = .ok (.aload_n 0, 1) := by decide +kernel
theorem dX11_needed_54 : decode cX11_needed 54 = .ok (.invokevirtual 399, 3) := by decide +kernel
theorem dX11_needed_57 : decode cX11_needed 57 = .ok (.iconst (-1), 1) := by decide +kernel
theorem dX11_needed_58 : decode cX11_needed 58 = .ok (.if_icmp .ne 5, 3) := by decide +kernel
theorem dX11_needed_61 : decode cX11_needed 61 = .ok (.iload_n 3, 1) := by decide +kernel
theorem dX11_needed_62 : decode cX11_needed 62 = .ok (.istore_n 2, 1) := by decide +kernel
theorem dX11_needed_63 : decode cX11_needed 63 = .ok (.iinc 3 1, 3) := by decide +kernel
theorem dX11_needed_66 : decode cX11_needed 66 = .ok (.goto (-39), 3) := by decide +kernel
theorem dX11_needed_69 : decode cX11_needed 69 = .ok (.aload_n 0, 1) := by decide +kernel
theorem dX11_needed_70 : decode cX11_needed 70 = .ok (.iload_n 1, 1) := by decide +kernel
theorem dX11_needed_71 : decode cX11_needed 71 = .ok (.putfield 220, 3) := by decide +kernel
theorem dX11_needed_74 : decode cX11_needed 74 = .ok (.iload_n 2, 1) := by decide +kernel
theorem dX11_needed_75 : decode cX11_needed 75 = .ok (.ireturn, 1) := by decide +kernel
theorem dX11_over_0 : decode cX11_over 0 = .ok (.aload_n 0, 1) := by decide +kernel
theorem dX11_over_1 : decode cX11_over 1 = .ok (.getfield 232, 3) := by decide +kernel
theorem dX11_over_4 : decode cX11_over 4 = .ok (.ifCond .eq 18, 3) := by decide +kernel
theorem dX11_over_7 : decode cX11_over 7 = .ok (.aload_n 0, 1) := by decide +kernel
theorem dX11_over_8 : decode cX11_over 8 = .ok (.getfield 57, 3) := by decide +kernel
theorem dX11_over_11 : decode cX11_over 11 = .ok (.bipush 72, 2) := by decide +kernel
theorem dX11_over_13 : decode cX11_over 13 = .ok (.iaload, 1) := by decide +kernel
theorem dX11_over_14 : decode cX11_over 14 = .ok (.aload_n 0, 1) := by decide +kernel
theorem dX11_over_15 : decode cX11_over 15 = .ok (.invokevirtual 287, 3) := by decide +kernel
theorem dX11_over_18 : decode cX11_over 18 = .ok (.idiv, 1) := by decide +kernel
theorem dX11_over_19 : decode cX11_over 19 = .ok (.goto 4, 3) := by decide +kernel
theorem dX11_over_22 : decode cX11_over 22 = .ok (.iconst 0, 1) := by decide +kernel
theorem dX11_over_23 : decode cX11_over 23 = .ok (.ireturn, 1) := by decide +kernel
theorem dX11_peer_0 : decode cX11_peer 0 = .ok (.aload_n 0, 1) := by decide +kernel
theorem dX11_peer_1 : decode cX11_peer 1 = .ok (.iconst 0, 1) := by decide +kernel
theorem dX11_peer_2 : decode cX11_peer 2 = .ok (.putfield 80, 3) := by decide +kernel
theorem dX11_peer_5 : decode cX11_peer 5 = .ok (.aload_n 0, 1) := by decide +kernel
theorem dX11_peer_6 : decode cX11_peer 6 = .ok (.iload_n 1, 1) := by decide +kernel
theorem dX11_peer_7 : decode cX11_peer 7 = .ok (.invokevirtual 347, 3) := by decide +kernel
theorem dX11_peer_10 : decode cX11_peer 10 = .ok (.ifCond .ne 5, 3) := by decide +kernel
theorem dX11_peer_13 : decode cX11_peer 13 = .ok (.iconst (-1), 1) := by decide +kernel
theorem dX11_peer_14 : decode cX11_peer 14 = .ok (.ireturn, 1) := by decide +kernel
theorem dX11_peer_15 : decode cX11_peer 15 = .ok (.aload_n 0, 1) := by decide +kernel
theorem dX11_peer_16 : decode cX11_peer 16 = .ok (.invokevirtual 329, 3) := by decide +kernel
theorem dX11_peer_19 : decode cX11_peer 19 = .ok (.iload_n 2, 1) := by decide +kernel
theorem dX11_peer_20 : decode cX11_peer 20 = .ok (.tableswitch 69 0 3 #[32, 39, 46, 60], 32) := by decide +kernel
theorem dX11_peer_52 : decode cX11_peer 52 = .ok (.aload_n 0, 1) := by decide +kernel
theorem dX11_peer_53 : decode cX11_peer 53 = .ok (.getfield 26, 3) := by decide +kernel
theorem dX11_peer_56 : decode cX11_peer 56 = .ok (.iload_n 1, 1) := by decide +kernel
theorem dX11_peer_57 : decode cX11_peer 57 = .ok (.iaload, 1) := by decide +kernel
theorem dX11_peer_58 : decode cX11_peer 58 = .ok (.ireturn, 1) := by decide +kernel
theorem dX11_peer_59 : decode cX11_peer 59 = .ok (.aload_n 0, 1) := by decide +kernel
theorem dX11_peer_60 : decode cX11_peer 60 = .ok (.getfield 29, 3) := by decide +kernel
theorem dX11_peer_63 : decode cX11_peer 63 = .ok (.iload_n 1, 1) := by decide +kernel
theorem dX11_peer_64 : decode cX11_peer 64 = .ok (.iaload, 1) := by decide +kernel
theorem dX11_peer_65 : decode cX11_peer 65 = .ok (.ireturn, 1) := by decide +kernel
theorem dX11_peer_66 : decode cX11_peer 66 = .ok (.aload_n 0, 1) := by decide +kernel
theorem dX11_peer_67 : decode cX11_peer 67 = .ok (.iload_n 1, 1) := by decide +kernel
theorem dX11_peer_68 : decode cX11_peer 68 = .ok (.invokevirtual 274, 3) := by decide +kernel
theorem dX11_peer_71 : decode cX11_peer 71 = .ok (.ifCond .eq 7, 3) := by decide +kernel
theorem dX11_peer_74 : decode cX11_peer 74 = .ok (.iconst 1, 1) := by decide +kernel
theorem dX11_peer_75 : decode cX11_peer 75 = .ok (.goto 4, 3) := by decide +kernel
theorem dX11_peer_78 : decode cX11_peer 78 = .ok (.iconst 0, 1) := by decide +kernel
theorem dX11_peer_79 : decode cX11_peer 79 = .ok (.ireturn, 1) := by decide +kernel
theorem dX11_peer_80 : decode cX11_peer 80 = .ok (.aload_n 0, 1) := by decide +kernel
theorem dX11_peer_81 : decode cX11_peer 81 = .ok (.getfield 224, 3) := by decide +kernel
theorem dX11_peer_84 : decode cX11_peer 84 = .ok (.iload_n 1, 1) := by decide +kernel
theorem dX11_peer_85 : decode cX11_peer 85 = .ok (.ishr, 1) := by decide +kernel
theorem dX11_peer_86 : decode cX11_peer 86 = .ok (.iconst 1, 1) := by decide +kernel
theorem dX11_peer_87 : decode cX11_peer 87 = .ok (.iand, 1) := by decide +kernel
theorem dX11_peer_88 : decode cX11_peer 88 = .ok (.ireturn, 1) := by decide +kernel
theorem dX11_peer_89 : decode cX11_peer 89 = .ok (.iconst (-1), 1) := by decide +kernel
theorem dX11_peer_90 : decode cX11_peer 90 = .ok (.ireturn, 1) := by decide +kernel
theorem dX11_plan_0 : decode cX11_plan 0 = .ok (.aload_n 0, 1) := by decide +kernel
theorem dX11_plan_1 : decode cX11_plan 1 = .ok (.iconst 0, 1) := by decide +kernel
theorem dX11_plan_2 : decode cX11_plan 2 = .ok (.putfield 80, 3) := by decide +kernel
theorem dX11_plan_5 : decode cX11_plan 5 = .ok (.aload_n 0, 1) := by decide +kernel
theorem dX11_plan_6 : decode cX11_plan 6 = .ok (.invokevirtual 209, 3) := by decide +kernel
theorem dX11_plan_9 : decode cX11_plan 9 = .ok (.iconst (-1), 1) := by decide +kernel
theorem dX11_plan_10 : decode cX11_plan 10 = .ok (.if_icmp .eq 5, 3) := by decide +kernel
theorem dX11_plan_13 : decode cX11_plan 13 = .ok (.iconst (-1), 1) := by decide +kernel
theorem dX11_plan_14 : decode cX11_plan 14 = .ok (.ireturn, 1) := by decide +kernel
theorem dX11_plan_15 : decode cX11_plan 15 = .ok (.aload_n 0, 1) := by decide +kernel
theorem dX11_plan_16 : decode cX11_plan 16 = .ok (.iconst 0, 1) := by decide +kernel
theorem dX11_plan_17 : decode cX11_plan 17 = .ok (.putfield 84, 3) := by decide +kernel
theorem dX11_plan_20 : decode cX11_plan 20 = .ok (.iconst 0, 1) := by decide +kernel
theorem dX11_plan_21 : decode cX11_plan 21 = .ok (.istore_n 1, 1) := by decide +kernel
theorem dX11_plan_22 : decode cX11_plan 22 = .ok (.iload_n 1, 1) := by decide +kernel
theorem dX11_plan_23 : decode cX11_plan 23 = .ok (.aload_n 0, 1) := by decide +kernel
theorem dX11_plan_24 : decode cX11_plan 24 = .ok (.getfield 17, 3) := by decide +kernel
theorem dX11_plan_27 : decode cX11_plan 27 = .ok (.arraylength, 1) := by decide +kernel
theorem dX11_plan_28 : decode cX11_plan 28 = .ok (.if_icmp .ge 21, 3) := by decide +kernel
theorem dX11_plan_31 : decode cX11_plan 31 = .ok (.aload_n 0, 1) := by decide +kernel
theorem dX11_plan_32 : decode cX11_plan 32 = .ok (.getfield 17, 3) := by decide +kernel
theorem dX11_plan_35 : decode cX11_plan 35 = .ok (.iload_n 1, 1) := by decide +kernel
theorem dX11_plan_36 : decode cX11_plan 36 = .ok (.aload_n 0, 1) := by decide +kernel
theorem dX11_plan_37 : decode cX11_plan 37 = .ok (.getfield 20, 3) := by decide +kernel
theorem dX11_plan_40 : decode cX11_plan 40 = .ok (.iload_n 1, 1) := by decide +kernel
theorem dX11_plan_41 : decode cX11_plan 41 = .ok (.iaload, 1) := by decide +kernel
theorem dX11_plan_42 : decode cX11_plan 42 = .ok (.iastore, 1) := by decide +kernel
theorem dX11_plan_43 : decode cX11_plan 43 = .ok (.iinc 1 1, 3) := by decide +kernel
theorem dX11_plan_46 : decode cX11_plan 46 = .ok (.goto (-24), 3) := by decide +kernel
theorem dX11_plan_49 : decode cX11_plan 49 = .ok (.aload_n 0, 1) := by decide +kernel
theorem dX11_plan_50 : decode cX11_plan 50 = .ok (.aload_n 0, 1) := by decide +kernel
theorem dX11_plan_51 : decode cX11_plan 51 = .ok (.getfield 184, 3) := by decide +kernel
theorem dX11_plan_54 : decode cX11_plan 54 = .ok (.putfield 248, 3) := by decide +kernel
theorem dX11_plan_57 : decode cX11_plan 57 = .ok (.aload_n 0, 1) := by decide +kernel
theorem dX11_plan_58 : decode cX11_plan 58 = .ok (.getfield 248, 3) := by decide +kernel
theorem dX11_plan_61 : decode cX11_plan 61 = .ok (.ireturn, 1) := by decide +kernel
theorem dX11_planLine_0 : decode cX11_planLine 0 = .ok (.aload_n 0, 1) := by decide +kernel
theorem dX11_planLine_1 : decode cX11_planLine 1 = .ok (.invokevirtual 105, 3) := by decide +kernel
theorem dX11_planLine_4 : decode cX11_planLine 4 = .ok (.istore_n 1, 1) := by decide +kernel
theorem dX11_planLine_5 : decode cX11_planLine 5 = .ok (.aload_n 0, 1) := by decide +kernel
theorem dX11_planLine_6 : decode cX11_planLine 6 = .ok (.getfield 184, 3) := by decide +kernel
theorem dX11_planLine_9 : decode cX11_planLine 9 = .ok (.bipush 20, 2) := by decide +kernel
theorem dX11_planLine_11 : decode cX11_planLine 11 = .ok (.if_icmp .ne 12, 3) := by decide +kernel
theorem dX11_planLine_14 : decode cX11_planLine 14 = .ok (.aload_n 0, 1) := by decide +kernel
theorem dX11_planLine_15 : decode cX11_planLine 15 = .ok (.aload_n 0, 1) := by decide +kernel
theorem dX11_planLine_16 : decode cX11_planLine 16 = .ok (.getfield 95, 3) := by decide +kernel
theorem dX11_planLine_19 : decode cX11_planLine 19 = .ok (.invokevirtual 136, 3) := by decide +kernel
theorem dX11_planLine_22 : decode cX11_planLine 22 = .ok (.return_, 1) := by decide +kernel
theorem dX11_planLine_23 : decode cX11_planLine 23 = .ok (.iconst 5, 1) := by decide +kernel
theorem dX11_planLine_24 : decode cX11_planLine 24 = .ok (.aload_n 0, 1) := by decide +kernel
theorem dX11_planLine_25 : decode cX11_planLine 25 = .ok (.getfield 184, 3) := by decide +kernel
theorem dX11_planLine_28 : decode cX11_planLine 28 = .ok (.imul, 1) := by decide +kernel
theorem dX11_planLine_29 : decode cX11_planLine 29 = .ok (.istore_n 2, 1) := by decide +kernel
theorem dX11_planLine_30 : decode cX11_planLine 30 = .ok (.aload_n 0, 1) := by decide +kernel
theorem dX11_planLine_31 : decode cX11_planLine 31 = .ok (.getfield 20, 3) := by decide +kernel
theorem dX11_planLine_34 : decode cX11_planLine 34 = .ok (.iload_n 2, 1) := by decide +kernel
theorem dX11_planLine_35 : decode cX11_planLine 35 = .ok (.aload_n 0, 1) := by decide +kernel
theorem dX11_planLine_36 : decode cX11_planLine 36 = .ok (.ldc 187, 2) := by decide +kernel
theorem dX11_planLine_38 : decode cX11_planLine 38 = .ok (.invokevirtual 141, 3) := by decide +kernel
theorem dX11_planLine_41 : decode cX11_planLine 41 = .ok (.ifCond .eq 12, 3) := by decide +kernel
theorem dX11_planLine_44 : decode cX11_planLine 44 = .ok (.aload_n 0, 1) := by decide +kernel
theorem dX11_planLine_45 : decode cX11_planLine 45 = .ok (.iconst 0, 1) := by decide +kernel
theorem dX11_planLine_46 : decode cX11_planLine 46 = .ok (.iconst 5, 1) := by decide +kernel
theorem dX11_planLine_47 : decode cX11_planLine 47 = .ok (.invokevirtual 165, 3) := by decide +kernel
theorem dX11_planLine_50 : decode cX11_planLine 50 = .ok (.goto 4, 3) := by decide +kernel
theorem dX11_planLine_53 : decode cX11_planLine 53 = .ok (.iconst (-1), 1) := by decide +kernel
theorem dX11_planLine_54 : decode cX11_planLine 54 = .ok (.iastore, 1) := by decide +kernel
theorem dX11_planLine_55 : decode cX11_planLine 55 = .ok (.aload_n 0, 1) := by decide +kernel
theorem dX11_planLine_56 : decode cX11_planLine 56 = .ok (.getfield 20, 3) := by decide +kernel
theorem dX11_planLine_59 : decode cX11_planLine 59 = .ok (.iload_n 2, 1) := by decide +kernel
theorem dX11_planLine_60 : decode cX11_planLine 60 = .ok (.iconst 1, 1) := by decide +kernel
theorem dX11_planLine_61 : decode cX11_planLine 61 = .ok (.iadd, 1) := by decide +kernel
theorem dX11_planLine_62 : decode cX11_planLine 62 = .ok (.aload_n 0, 1) := by decide +kernel
theorem dX11_planLine_63 : decode cX11_planLine 63 = .ok (.getfield 102, 3) := by decide +kernel
theorem dX11_planLine_66 : decode cX11_planLine 66 = .ok (.iconst (-1), 1) := by decide +kernel
theorem dX11_planLine_67 : decode cX11_planLine 67 = .ok (.if_icmp .ne 21, 3) := by decide +kernel
theorem dX11_planLine_70 : decode cX11_planLine 70 = .ok (.aload_n 0, 1) := by decide +kernel
theorem dX11_planLine_71 : decode cX11_planLine 71 = .ok (.ldc 189, 2) := by decide +kernel
theorem dX11_planLine_73 : decode cX11_planLine 73 = .ok (.invokevirtual 141, 3) := by decide +kernel
theorem dX11_planLine_76 : decode cX11_planLine 76 = .ok (.ifCond .eq 12, 3) := by decide +kernel
theorem dX11_planLine_79 : decode cX11_planLine 79 = .ok (.aload_n 0, 1) := by decide +kernel
theorem dX11_planLine_80 : decode cX11_planLine 80 = .ok (.iconst 0, 1) := by decide +kernel
theorem dX11_planLine_81 : decode cX11_planLine 81 = .ok (.iconst 2, 1) := by decide +kernel
theorem dX11_planLine_82 : decode cX11_planLine 82 = .ok (.invokevirtual 165, 3) := by decide +kernel
theorem dX11_planLine_85 : decode cX11_planLine 85 = .ok (.goto 4, 3) := by decide +kernel
theorem dX11_planLine_88 : decode cX11_planLine 88 = .ok (.iconst (-1), 1) := by decide +kernel
theorem dX11_planLine_89 : decode cX11_planLine 89 = .ok (.iastore, 1) := by decide +kernel
theorem dX11_planLine_90 : decode cX11_planLine 90 = .ok (.aload_n 0, 1) := by decide +kernel
theorem dX11_planLine_91 : decode cX11_planLine 91 = .ok (.getfield 20, 3) := by decide +kernel
theorem dX11_planLine_94 : decode cX11_planLine 94 = .ok (.iload_n 2, 1) := by decide +kernel
theorem dX11_planLine_95 : decode cX11_planLine 95 = .ok (.iconst 2, 1) := by decide +kernel
theorem dX11_planLine_96 : decode cX11_planLine 96 = .ok (.iadd, 1) := by decide +kernel
theorem dX11_planLine_97 : decode cX11_planLine 97 = .ok (.aload_n 0, 1) := by decide +kernel
theorem dX11_planLine_98 : decode cX11_planLine 98 = .ok (.getfield 102, 3) := by decide +kernel
theorem dX11_planLine_101 : decode cX11_planLine 101 = .ok (.iconst (-1), 1) := by decide +kernel
theorem dX11_planLine_102 : decode cX11_planLine 102 = .ok (.if_icmp .ne 22, 3) := by decide +kernel
theorem dX11_planLine_105 : decode cX11_planLine 105 = .ok (.aload_n 0, 1) := by decide +kernel
theorem dX11_planLine_106 : decode cX11_planLine 106 = .ok (.ldc 191, 2) := by decide +kernel
theorem dX11_planLine_108 : decode cX11_planLine 108 = .ok (.invokevirtual 141, 3) := by decide +kernel
theorem dX11_planLine_111 : decode cX11_planLine 111 = .ok (.ifCond .eq 13, 3) := by decide +kernel
theorem dX11_planLine_114 : decode cX11_planLine 114 = .ok (.aload_n 0, 1) := by decide +kernel
theorem dX11_planLine_115 : decode cX11_planLine 115 = .ok (.iconst 0, 1) := by decide +kernel
theorem dX11_planLine_116 : decode cX11_planLine 116 = .ok (.bipush 8, 2) := by decide +kernel
theorem dX11_planLine_118 : decode cX11_planLine 118 = .ok (.invokevirtual 165, 3) := by decide +kernel
theorem dX11_planLine_121 : decode cX11_planLine 121 = .ok (.goto 4, 3) := by decide +kernel
theorem dX11_planLine_124 : decode cX11_planLine 124 = .ok (.iconst (-1), 1) := by decide +kernel
theorem dX11_planLine_125 : decode cX11_planLine 125 = .ok (.iastore, 1) := by decide +kernel
theorem dX11_planLine_126 : decode cX11_planLine 126 = .ok (.aload_n 0, 1) := by decide +kernel
theorem dX11_planLine_127 : decode cX11_planLine 127 = .ok (.getfield 20, 3) := by decide +kernel
theorem dX11_planLine_130 : decode cX11_planLine 130 = .ok (.iload_n 2, 1) := by decide +kernel
theorem dX11_planLine_131 : decode cX11_planLine 131 = .ok (.iconst 3, 1) := by decide +kernel
theorem dX11_planLine_132 : decode cX11_planLine 132 = .ok (.iadd, 1) := by decide +kernel
theorem dX11_planLine_133 : decode cX11_planLine 133 = .ok (.aload_n 0, 1) := by decide +kernel
theorem dX11_planLine_134 : decode cX11_planLine 134 = .ok (.getfield 102, 3) := by decide +kernel
theorem dX11_planLine_137 : decode cX11_planLine 137 = .ok (.iconst (-1), 1) := by decide +kernel
theorem dX11_planLine_138 : decode cX11_planLine 138 = .ok (.if_icmp .ne 22, 3) := by decide +kernel
theorem dX11_planLine_141 : decode cX11_planLine 141 = .ok (.aload_n 0, 1) := by decide +kernel
theorem dX11_planLine_142 : decode cX11_planLine 142 = .ok (.ldc 193, 2) := by decide +kernel
theorem dX11_planLine_144 : decode cX11_planLine 144 = .ok (.invokevirtual 141, 3) := by decide +kernel
theorem dX11_planLine_147 : decode cX11_planLine 147 = .ok (.ifCond .eq 13, 3) := by decide +kernel
theorem dX11_planLine_150 : decode cX11_planLine 150 = .ok (.aload_n 0, 1) := by decide +kernel
theorem dX11_planLine_151 : decode cX11_planLine 151 = .ok (.iconst 0, 1) := by decide +kernel
theorem dX11_planLine_152 : decode cX11_planLine 152 = .ok (.bipush 8, 2) := by decide +kernel
theorem dX11_planLine_154 : decode cX11_planLine 154 = .ok (.invokevirtual 165, 3) := by decide +kernel
theorem dX11_planLine_157 : decode cX11_planLine 157 = .ok (.goto 4, 3) := by decide +kernel
theorem dX11_planLine_160 : decode cX11_planLine 160 = .ok (.iconst (-1), 1) := by decide +kernel
theorem dX11_planLine_161 : decode cX11_planLine 161 = .ok (.iastore, 1) := by decide +kernel
theorem dX11_planLine_162 : decode cX11_planLine 162 = .ok (.aload_n 0, 1) := by decide +kernel
theorem dX11_planLine_163 : decode cX11_planLine 163 = .ok (.getfield 102, 3) := by decide +kernel
theorem dX11_planLine_166 : decode cX11_planLine 166 = .ok (.iconst (-1), 1) := by decide +kernel
theorem dX11_planLine_167 : decode cX11_planLine 167 = .ok (.if_icmp .eq 4, 3) := by decide +kernel
theorem dX11_planLine_170 : decode cX11_planLine 170 = .ok (.return_, 1) := by decide +kernel
theorem dX11_planLine_171 : decode cX11_planLine 171 = .ok (.aload_n 0, 1) := by decide +kernel
theorem dX11_planLine_172 : decode cX11_planLine 172 = .ok (.invokevirtual 105, 3) := by decide +kernel
theorem dX11_planLine_175 : decode cX11_planLine 175 = .ok (.istore_n 1, 1) := by decide +kernel
theorem dX11_planLine_176 : decode cX11_planLine 176 = .ok (.iload_n 1, 1) := by decide +kernel
theorem dX11_planLine_177 : decode cX11_planLine 177 = .ok (.invokestatic 119, 3) := by decide +kernel
theorem dX11_planLine_180 : decode cX11_planLine 180 = .ok (.ifCond .eq 20, 3) := by decide +kernel
theorem dX11_planLine_183 : decode cX11_planLine 183 = .ok (.aload_n 0, 1) := by decide +kernel
theorem dX11_planLine_184 : decode cX11_planLine 184 = .ok (.getfield 20, 3) := by decide +kernel
theorem dX11_planLine_187 : decode cX11_planLine 187 = .ok (.iload_n 2, 1) := by decide +kernel
theorem dX11_planLine_188 : decode cX11_planLine 188 = .ok (.iconst 4, 1) := by decide +kernel
theorem dX11_planLine_189 : decode cX11_planLine 189 = .ok (.iadd, 1) := by decide +kernel
theorem dX11_planLine_190 : decode cX11_planLine 190 = .ok (.aload_n 0, 1) := by decide +kernel
theorem dX11_planLine_191 : decode cX11_planLine 191 = .ok (.iconst 0, 1) := by decide +kernel
theorem dX11_planLine_192 : decode cX11_planLine 192 = .ok (.iconst 2, 1) := by decide +kernel
theorem dX11_planLine_193 : decode cX11_planLine 193 = .ok (.invokevirtual 165, 3) := by decide +kernel
theorem dX11_planLine_196 : decode cX11_planLine 196 = .ok (.iastore, 1) := by decide +kernel
theorem dX11_planLine_197 : decode cX11_planLine 197 = .ok (.goto 96, 3) := by decide +kernel
theorem dX11_planLine_200 : decode cX11_planLine 200 = .ok (.aload_n 0, 1) := by decide +kernel
theorem dX11_planLine_201 : decode cX11_planLine 201 = .ok (.ldc 195, 2) := by decide +kernel
theorem dX11_planLine_203 : decode cX11_planLine 203 = .ok (.invokevirtual 141, 3) := by decide +kernel
theorem dX11_planLine_206 : decode cX11_planLine 206 = .ok (.ifCond .eq 15, 3) := by decide +kernel
theorem dX11_planLine_209 : decode cX11_planLine 209 = .ok (.aload_n 0, 1) := by decide +kernel
theorem dX11_planLine_210 : decode cX11_planLine 210 = .ok (.getfield 20, 3) := by decide +kernel
theorem dX11_planLine_213 : decode cX11_planLine 213 = .ok (.iload_n 2, 1) := by decide +kernel
theorem dX11_planLine_214 : decode cX11_planLine 214 = .ok (.iconst 4, 1) := by decide +kernel
theorem dX11_planLine_215 : decode cX11_planLine 215 = .ok (.iadd, 1) := by decide +kernel
theorem dX11_planLine_216 : decode cX11_planLine 216 = .ok (.iconst 3, 1) := by decide +kernel
theorem dX11_planLine_217 : decode cX11_planLine 217 = .ok (.iastore, 1) := by decide +kernel
theorem dX11_planLine_218 : decode cX11_planLine 218 = .ok (.goto 75, 3) := by decide +kernel
theorem dX11_planLine_221 : decode cX11_planLine 221 = .ok (.aload_n 0, 1) := by decide +kernel
theorem dX11_planLine_222 : decode cX11_planLine 222 = .ok (.ldc 197, 2) := by decide +kernel
theorem dX11_planLine_224 : decode cX11_planLine 224 = .ok (.invokevirtual 141, 3) := by decide +kernel
theorem dX11_planLine_227 : decode cX11_planLine 227 = .ok (.ifCond .eq 15, 3) := by decide +kernel
theorem dX11_planLine_230 : decode cX11_planLine 230 = .ok (.aload_n 0, 1) := by decide +kernel
theorem dX11_planLine_231 : decode cX11_planLine 231 = .ok (.getfield 20, 3) := by decide +kernel
theorem dX11_planLine_234 : decode cX11_planLine 234 = .ok (.iload_n 2, 1) := by decide +kernel
theorem dX11_planLine_235 : decode cX11_planLine 235 = .ok (.iconst 4, 1) := by decide +kernel
theorem dX11_planLine_236 : decode cX11_planLine 236 = .ok (.iadd, 1) := by decide +kernel
theorem dX11_planLine_237 : decode cX11_planLine 237 = .ok (.iconst 4, 1) := by decide +kernel
theorem dX11_planLine_238 : decode cX11_planLine 238 = .ok (.iastore, 1) := by decide +kernel
theorem dX11_planLine_239 : decode cX11_planLine 239 = .ok (.goto 54, 3) := by decide +kernel
theorem dX11_planLine_242 : decode cX11_planLine 242 = .ok (.aload_n 0, 1) := by decide +kernel
theorem dX11_planLine_243 : decode cX11_planLine 243 = .ok (.ldc 199, 2) := by decide +kernel
theorem dX11_planLine_245 : decode cX11_planLine 245 = .ok (.invokevirtual 141, 3) := by decide +kernel
theorem dX11_planLine_248 : decode cX11_planLine 248 = .ok (.ifCond .eq 15, 3) := by decide +kernel
theorem dX11_planLine_251 : decode cX11_planLine 251 = .ok (.aload_n 0, 1) := by decide +kernel
theorem dX11_planLine_252 : decode cX11_planLine 252 = .ok (.getfield 20, 3) := by decide +kernel
theorem dX11_planLine_255 : decode cX11_planLine 255 = .ok (.iload_n 2, 1) := by decide +kernel
theorem dX11_planLine_256 : decode cX11_planLine 256 = .ok (.iconst 4, 1) := by decide +kernel
theorem dX11_planLine_257 : decode cX11_planLine 257 = .ok (.iadd, 1) := by decide +kernel
theorem dX11_planLine_258 : decode cX11_planLine 258 = .ok (.iconst 5, 1) := by decide +kernel
theorem dX11_planLine_259 : decode cX11_planLine 259 = .ok (.iastore, 1) := by decide +kernel
theorem dX11_planLine_260 : decode cX11_planLine 260 = .ok (.goto 33, 3) := by decide +kernel
theorem dX11_planLine_263 : decode cX11_planLine 263 = .ok (.aload_n 0, 1) := by decide +kernel
theorem dX11_planLine_264 : decode cX11_planLine 264 = .ok (.ldc 201, 2) := by decide +kernel
theorem dX11_planLine_266 : decode cX11_planLine 266 = .ok (.invokevirtual 141, 3) := by decide +kernel
theorem dX11_planLine_269 : decode cX11_planLine 269 = .ok (.ifCond .eq 16, 3) := by decide +kernel
theorem dX11_planLine_272 : decode cX11_planLine 272 = .ok (.aload_n 0, 1) := by decide +kernel
theorem dX11_planLine_273 : decode cX11_planLine 273 = .ok (.getfield 20, 3) := by decide +kernel
theorem dX11_planLine_276 : decode cX11_planLine 276 = .ok (.iload_n 2, 1) := by decide +kernel
theorem dX11_planLine_277 : decode cX11_planLine 277 = .ok (.iconst 4, 1) := by decide +kernel
theorem dX11_planLine_278 : decode cX11_planLine 278 = .ok (.iadd, 1) := by decide +kernel
theorem dX11_planLine_279 : decode cX11_planLine 279 = .ok (.bipush 6, 2) := by decide +kernel
theorem dX11_planLine_281 : decode cX11_planLine 281 = .ok (.iastore, 1) := by decide +kernel
theorem dX11_planLine_282 : decode cX11_planLine 282 = .ok (.goto 11, 3) := by decide +kernel
theorem dX11_planLine_285 : decode cX11_planLine 285 = .ok (.aload_n 0, 1) := by decide +kernel
theorem dX11_planLine_286 : decode cX11_planLine 286 = .ok (.aload_n 0, 1) := by decide +kernel
theorem dX11_planLine_287 : decode cX11_planLine 287 = .ok (.getfield 95, 3) := by decide +kernel
theorem dX11_planLine_290 : decode cX11_planLine 290 = .ok (.invokevirtual 136, 3) := by decide +kernel
theorem dX11_planLine_293 : decode cX11_planLine 293 = .ok (.aload_n 0, 1) := by decide +kernel
theorem dX11_planLine_294 : decode cX11_planLine 294 = .ok (.dup, 1) := by decide +kernel
theorem dX11_planLine_295 : decode cX11_planLine 295 = .ok (.getfield 184, 3) := by decide +kernel
theorem dX11_planLine_298 : decode cX11_planLine 298 = .ok (.iconst 1, 1) := by decide +kernel
theorem dX11_planLine_299 : decode cX11_planLine 299 = .ok (.iadd, 1) := by decide +kernel
theorem dX11_planLine_300 : decode cX11_planLine 300 = .ok (.putfield 184, 3) := by decide +kernel
theorem dX11_planLine_303 : decode cX11_planLine 303 = .ok (.return_, 1) := by decide +kernel
theorem dX11_readsCouncil_0 : decode cX11_readsCouncil 0 = .ok (.aload_n 0, 1) := by decide +kernel
theorem dX11_readsCouncil_1 : decode cX11_readsCouncil 1 = .ok (.iconst 0, 1) := by decide +kernel
theorem dX11_readsCouncil_2 : decode cX11_readsCouncil 2 = .ok (.putfield 95, 3) := by decide +kernel
theorem dX11_readsCouncil_5 : decode cX11_readsCouncil 5 = .ok (.aload_n 0, 1) := by decide +kernel
theorem dX11_readsCouncil_6 : decode cX11_readsCouncil 6 = .ok (.iconst (-1), 1) := by decide +kernel
theorem dX11_readsCouncil_7 : decode cX11_readsCouncil 7 = .ok (.putfield 102, 3) := by decide +kernel
theorem dX11_readsCouncil_10 : decode cX11_readsCouncil 10 = .ok (.aload_n 0, 1) := by decide +kernel
theorem dX11_readsCouncil_11 : decode cX11_readsCouncil 11 = .ok (.iconst 0, 1) := by decide +kernel
theorem dX11_readsCouncil_12 : decode cX11_readsCouncil 12 = .ok (.putfield 158, 3) := by decide +kernel
theorem dX11_readsCouncil_15 : decode cX11_readsCouncil 15 = .ok (.iconst 0, 1) := by decide +kernel
theorem dX11_readsCouncil_16 : decode cX11_readsCouncil 16 = .ok (.istore_n 1, 1) := by decide +kernel
theorem dX11_readsCouncil_17 : decode cX11_readsCouncil 17 = .ok (.iload_n 1, 1) := by decide +kernel
theorem dX11_readsCouncil_18 : decode cX11_readsCouncil 18 = .ok (.bipush 6, 2) := by decide +kernel
theorem dX11_readsCouncil_20 : decode cX11_readsCouncil 20 = .ok (.if_icmp .ge 16, 3) := by decide +kernel
theorem dX11_readsCouncil_23 : decode cX11_readsCouncil 23 = .ok (.aload_n 0, 1) := by decide +kernel
theorem dX11_readsCouncil_24 : decode cX11_readsCouncil 24 = .ok (.getfield 13, 3) := by decide +kernel
theorem dX11_readsCouncil_27 : decode cX11_readsCouncil 27 = .ok (.iload_n 1, 1) := by decide +kernel
theorem dX11_readsCouncil_28 : decode cX11_readsCouncil 28 = .ok (.iconst 0, 1) := by decide +kernel
theorem dX11_readsCouncil_29 : decode cX11_readsCouncil 29 = .ok (.iastore, 1) := by decide +kernel
theorem dX11_readsCouncil_30 : decode cX11_readsCouncil 30 = .ok (.iinc 1 1, 3) := by decide +kernel
theorem dX11_readsCouncil_33 : decode cX11_readsCouncil 33 = .ok (.goto (-16), 3) := by decide +kernel
theorem dX11_readsCouncil_36 : decode cX11_readsCouncil 36 = .ok (.aload_n 0, 1) := by decide +kernel
theorem dX11_readsCouncil_37 : decode cX11_readsCouncil 37 = .ok (.invokevirtual 105, 3) := by decide +kernel
theorem dX11_readsCouncil_40 : decode cX11_readsCouncil 40 = .ok (.istore_n 1, 1) := by decide +kernel
theorem dX11_readsCouncil_41 : decode cX11_readsCouncil 41 = .ok (.aload_n 0, 1) := by decide +kernel
theorem dX11_readsCouncil_42 : decode cX11_readsCouncil 42 = .ok (.aload_n 0, 1) := by decide +kernel
theorem dX11_readsCouncil_43 : decode cX11_readsCouncil 43 = .ok (.ldc 174, 2) := by decide +kernel
theorem dX11_readsCouncil_45 : decode cX11_readsCouncil 45 = .ok (.invokevirtual 141, 3) := by decide +kernel
theorem dX11_readsCouncil_48 : decode cX11_readsCouncil 48 = .ok (.ifCond .eq 7, 3) := by decide +kernel
theorem dX11_readsCouncil_51 : decode cX11_readsCouncil 51 = .ok (.iconst 0, 1) := by decide +kernel
theorem dX11_readsCouncil_52 : decode cX11_readsCouncil 52 = .ok (.goto 17, 3) := by decide +kernel
theorem dX11_readsCouncil_55 : decode cX11_readsCouncil 55 = .ok (.aload_n 0, 1) := by decide +kernel
theorem dX11_readsCouncil_56 : decode cX11_readsCouncil 56 = .ok (.ldc 176, 2) := by decide +kernel
theorem dX11_readsCouncil_58 : decode cX11_readsCouncil 58 = .ok (.invokevirtual 141, 3) := by decide +kernel
theorem dX11_readsCouncil_61 : decode cX11_readsCouncil 61 = .ok (.ifCond .eq 7, 3) := by decide +kernel
theorem dX11_readsCouncil_64 : decode cX11_readsCouncil 64 = .ok (.iconst 1, 1) := by decide +kernel
theorem dX11_readsCouncil_65 : decode cX11_readsCouncil 65 = .ok (.goto 4, 3) := by decide +kernel
theorem dX11_readsCouncil_68 : decode cX11_readsCouncil 68 = .ok (.iconst (-1), 1) := by decide +kernel
theorem dX11_readsCouncil_69 : decode cX11_readsCouncil 69 = .ok (.putfield 178, 3) := by decide +kernel
theorem dX11_readsCouncil_72 : decode cX11_readsCouncil 72 = .ok (.aload_n 0, 1) := by decide +kernel
theorem dX11_readsCouncil_73 : decode cX11_readsCouncil 73 = .ok (.getfield 178, 3) := by decide +kernel
theorem dX11_readsCouncil_76 : decode cX11_readsCouncil 76 = .ok (.iconst (-1), 1) := by decide +kernel
theorem dX11_readsCouncil_77 : decode cX11_readsCouncil 77 = .ok (.if_icmp .ne 11, 3) := by decide +kernel
theorem dX11_readsCouncil_80 : decode cX11_readsCouncil 80 = .ok (.aload_n 0, 1) := by decide +kernel
theorem dX11_readsCouncil_81 : decode cX11_readsCouncil 81 = .ok (.aload_n 0, 1) := by decide +kernel
theorem dX11_readsCouncil_82 : decode cX11_readsCouncil 82 = .ok (.getfield 95, 3) := by decide +kernel
theorem dX11_readsCouncil_85 : decode cX11_readsCouncil 85 = .ok (.invokevirtual 136, 3) := by decide +kernel
theorem dX11_readsCouncil_88 : decode cX11_readsCouncil 88 = .ok (.aload_n 0, 1) := by decide +kernel
theorem dX11_readsCouncil_89 : decode cX11_readsCouncil 89 = .ok (.getfield 102, 3) := by decide +kernel
theorem dX11_readsCouncil_92 : decode cX11_readsCouncil 92 = .ok (.iconst (-1), 1) := by decide +kernel
theorem dX11_readsCouncil_93 : decode cX11_readsCouncil 93 = .ok (.if_icmp .ne 29, 3) := by decide +kernel
theorem dX11_readsCouncil_96 : decode cX11_readsCouncil 96 = .ok (.aload_n 0, 1) := by decide +kernel
theorem dX11_readsCouncil_97 : decode cX11_readsCouncil 97 = .ok (.invokevirtual 105, 3) := by decide +kernel
theorem dX11_readsCouncil_100 : decode cX11_readsCouncil 100 = .ok (.bipush 59, 2) := by decide +kernel
theorem dX11_readsCouncil_102 : decode cX11_readsCouncil 102 = .ok (.if_icmp .ne 20, 3) := by decide +kernel
theorem dX11_readsCouncil_105 : decode cX11_readsCouncil 105 = .ok (.aload_n 0, 1) := by decide +kernel
theorem dX11_readsCouncil_106 : decode cX11_readsCouncil 106 = .ok (.dup, 1) := by decide +kernel
theorem dX11_readsCouncil_107 : decode cX11_readsCouncil 107 = .ok (.getfield 95, 3) := by decide +kernel
theorem dX11_readsCouncil_110 : decode cX11_readsCouncil 110 = .ok (.iconst 1, 1) := by decide +kernel
theorem dX11_readsCouncil_111 : decode cX11_readsCouncil 111 = .ok (.iadd, 1) := by decide +kernel
theorem dX11_readsCouncil_112 : decode cX11_readsCouncil 112 = .ok (.putfield 95, 3) := by decide +kernel
theorem dX11_readsCouncil_115 : decode cX11_readsCouncil 115 = .ok (.aload_n 0, 1) := by decide +kernel
theorem dX11_readsCouncil_116 : decode cX11_readsCouncil 116 = .ok (.invokevirtual 181, 3) := by decide +kernel
theorem dX11_readsCouncil_119 : decode cX11_readsCouncil 119 = .ok (.goto (-31), 3) := by decide +kernel
theorem dX11_readsCouncil_122 : decode cX11_readsCouncil 122 = .ok (.aload_n 0, 1) := by decide +kernel
theorem dX11_readsCouncil_123 : decode cX11_readsCouncil 123 = .ok (.getfield 102, 3) := by decide +kernel
theorem dX11_readsCouncil_126 : decode cX11_readsCouncil 126 = .ok (.iconst (-1), 1) := by decide +kernel
theorem dX11_readsCouncil_127 : decode cX11_readsCouncil 127 = .ok (.if_icmp .ne 30, 3) := by decide +kernel
theorem dX11_readsCouncil_130 : decode cX11_readsCouncil 130 = .ok (.aload_n 0, 1) := by decide +kernel
theorem dX11_readsCouncil_131 : decode cX11_readsCouncil 131 = .ok (.invokevirtual 105, 3) := by decide +kernel
theorem dX11_readsCouncil_134 : decode cX11_readsCouncil 134 = .ok (.iconst (-1), 1) := by decide +kernel
theorem dX11_readsCouncil_135 : decode cX11_readsCouncil 135 = .ok (.if_icmp .ne 14, 3) := by decide +kernel
theorem dX11_readsCouncil_138 : decode cX11_readsCouncil 138 = .ok (.aload_n 0, 1) := by decide +kernel
theorem dX11_readsCouncil_139 : decode cX11_readsCouncil 139 = .ok (.getfield 158, 3) := by decide +kernel
theorem dX11_readsCouncil_142 : decode cX11_readsCouncil 142 = .ok (.iconst 0, 1) := by decide +kernel
theorem dX11_readsCouncil_143 : decode cX11_readsCouncil 143 = .ok (.invokestatic 161, 3) := by decide +kernel
theorem dX11_readsCouncil_146 : decode cX11_readsCouncil 146 = .ok (.ifCond .ne 11, 3) := by decide +kernel
theorem dX11_readsCouncil_149 : decode cX11_readsCouncil 149 = .ok (.aload_n 0, 1) := by decide +kernel
theorem dX11_readsCouncil_150 : decode cX11_readsCouncil 150 = .ok (.aload_n 0, 1) := by decide +kernel
theorem dX11_readsCouncil_151 : decode cX11_readsCouncil 151 = .ok (.getfield 95, 3) := by decide +kernel
theorem dX11_readsCouncil_154 : decode cX11_readsCouncil 154 = .ok (.invokevirtual 136, 3) := by decide +kernel
theorem dX11_readsCouncil_157 : decode cX11_readsCouncil 157 = .ok (.aload_n 0, 1) := by decide +kernel
theorem dX11_readsCouncil_158 : decode cX11_readsCouncil 158 = .ok (.getfield 158, 3) := by decide +kernel
theorem dX11_readsCouncil_161 : decode cX11_readsCouncil 161 = .ok (.iconst 1, 1) := by decide +kernel
theorem dX11_readsCouncil_162 : decode cX11_readsCouncil 162 = .ok (.invokestatic 161, 3) := by decide +kernel
theorem dX11_readsCouncil_165 : decode cX11_readsCouncil 165 = .ok (.ifCond .ne 30, 3) := by decide +kernel
theorem dX11_readsCouncil_168 : decode cX11_readsCouncil 168 = .ok (.aload_n 0, 1) := by decide +kernel
theorem dX11_readsCouncil_169 : decode cX11_readsCouncil 169 = .ok (.getfield 13, 3) := by decide +kernel
theorem dX11_readsCouncil_172 : decode cX11_readsCouncil 172 = .ok (.iconst 1, 1) := by decide +kernel
theorem dX11_readsCouncil_173 : decode cX11_readsCouncil 173 = .ok (.aload_n 0, 1) := by decide +kernel
theorem dX11_readsCouncil_174 : decode cX11_readsCouncil 174 = .ok (.getfield 13, 3) := by decide +kernel
theorem dX11_readsCouncil_177 : decode cX11_readsCouncil 177 = .ok (.iconst 0, 1) := by decide +kernel
theorem dX11_readsCouncil_178 : decode cX11_readsCouncil 178 = .ok (.iaload, 1) := by decide +kernel
theorem dX11_readsCouncil_179 : decode cX11_readsCouncil 179 = .ok (.iconst 1, 1) := by decide +kernel
theorem dX11_readsCouncil_180 : decode cX11_readsCouncil 180 = .ok (.isub, 1) := by decide +kernel
theorem dX11_readsCouncil_181 : decode cX11_readsCouncil 181 = .ok (.aload_n 0, 1) := by decide +kernel
theorem dX11_readsCouncil_182 : decode cX11_readsCouncil 182 = .ok (.getfield 178, 3) := by decide +kernel
theorem dX11_readsCouncil_185 : decode cX11_readsCouncil 185 = .ok (.ifCond .ne 7, 3) := by decide +kernel
theorem dX11_readsCouncil_188 : decode cX11_readsCouncil 188 = .ok (.iconst 3, 1) := by decide +kernel
theorem dX11_readsCouncil_189 : decode cX11_readsCouncil 189 = .ok (.goto 4, 3) := by decide +kernel
theorem dX11_readsCouncil_192 : decode cX11_readsCouncil 192 = .ok (.iconst 4, 1) := by decide +kernel
theorem dX11_readsCouncil_193 : decode cX11_readsCouncil 193 = .ok (.idiv, 1) := by decide +kernel
theorem dX11_readsCouncil_194 : decode cX11_readsCouncil 194 = .ok (.iastore, 1) := by decide +kernel
theorem dX11_readsCouncil_195 : decode cX11_readsCouncil 195 = .ok (.aload_n 0, 1) := by decide +kernel
theorem dX11_readsCouncil_196 : decode cX11_readsCouncil 196 = .ok (.getfield 158, 3) := by decide +kernel
theorem dX11_readsCouncil_199 : decode cX11_readsCouncil 199 = .ok (.iconst 2, 1) := by decide +kernel
theorem dX11_readsCouncil_200 : decode cX11_readsCouncil 200 = .ok (.invokestatic 161, 3) := by decide +kernel
theorem dX11_readsCouncil_203 : decode cX11_readsCouncil 203 = .ok (.ifCond .ne 17, 3) := by decide +kernel
theorem dX11_readsCouncil_206 : decode cX11_readsCouncil 206 = .ok (.aload_n 0, 1) := by decide +kernel
theorem dX11_readsCouncil_207 : decode cX11_readsCouncil 207 = .ok (.getfield 13, 3) := by decide +kernel
theorem dX11_readsCouncil_210 : decode cX11_readsCouncil 210 = .ok (.iconst 2, 1) := by decide +kernel
theorem dX11_readsCouncil_211 : decode cX11_readsCouncil 211 = .ok (.aload_n 0, 1) := by decide +kernel
theorem dX11_readsCouncil_212 : decode cX11_readsCouncil 212 = .ok (.getfield 13, 3) := by decide +kernel
theorem dX11_readsCouncil_215 : decode cX11_readsCouncil 215 = .ok (.iconst 1, 1) := by decide +kernel
theorem dX11_readsCouncil_216 : decode cX11_readsCouncil 216 = .ok (.iaload, 1) := by decide +kernel
theorem dX11_readsCouncil_217 : decode cX11_readsCouncil 217 = .ok (.iconst 1, 1) := by decide +kernel
theorem dX11_readsCouncil_218 : decode cX11_readsCouncil 218 = .ok (.iadd, 1) := by decide +kernel
theorem dX11_readsCouncil_219 : decode cX11_readsCouncil 219 = .ok (.iastore, 1) := by decide +kernel
theorem dX11_readsCouncil_220 : decode cX11_readsCouncil 220 = .ok (.aload_n 0, 1) := by decide +kernel
theorem dX11_readsCouncil_221 : decode cX11_readsCouncil 221 = .ok (.getfield 102, 3) := by decide +kernel
theorem dX11_readsCouncil_224 : decode cX11_readsCouncil 224 = .ok (.ireturn, 1) := by decide +kernel
theorem dX11_readsPlan_0 : decode cX11_readsPlan 0 = .ok (.aload_n 0, 1) := by decide +kernel
theorem dX11_readsPlan_1 : decode cX11_readsPlan 1 = .ok (.iconst 0, 1) := by decide +kernel
theorem dX11_readsPlan_2 : decode cX11_readsPlan 2 = .ok (.putfield 95, 3) := by decide +kernel
theorem dX11_readsPlan_5 : decode cX11_readsPlan 5 = .ok (.aload_n 0, 1) := by decide +kernel
theorem dX11_readsPlan_6 : decode cX11_readsPlan 6 = .ok (.iconst (-1), 1) := by decide +kernel
theorem dX11_readsPlan_7 : decode cX11_readsPlan 7 = .ok (.putfield 102, 3) := by decide +kernel
theorem dX11_readsPlan_10 : decode cX11_readsPlan 10 = .ok (.aload_n 0, 1) := by decide +kernel
theorem dX11_readsPlan_11 : decode cX11_readsPlan 11 = .ok (.iconst 0, 1) := by decide +kernel
theorem dX11_readsPlan_12 : decode cX11_readsPlan 12 = .ok (.putfield 184, 3) := by decide +kernel
theorem dX11_readsPlan_15 : decode cX11_readsPlan 15 = .ok (.aload_n 0, 1) := by decide +kernel
theorem dX11_readsPlan_16 : decode cX11_readsPlan 16 = .ok (.invokevirtual 203, 3) := by decide +kernel
theorem dX11_readsPlan_19 : decode cX11_readsPlan 19 = .ok (.aload_n 0, 1) := by decide +kernel
theorem dX11_readsPlan_20 : decode cX11_readsPlan 20 = .ok (.getfield 102, 3) := by decide +kernel
theorem dX11_readsPlan_23 : decode cX11_readsPlan 23 = .ok (.iconst (-1), 1) := by decide +kernel
theorem dX11_readsPlan_24 : decode cX11_readsPlan 24 = .ok (.if_icmp .ne 29, 3) := by decide +kernel
theorem dX11_readsPlan_27 : decode cX11_readsPlan 27 = .ok (.aload_n 0, 1) := by decide +kernel
theorem dX11_readsPlan_28 : decode cX11_readsPlan 28 = .ok (.invokevirtual 105, 3) := by decide +kernel
theorem dX11_readsPlan_31 : decode cX11_readsPlan 31 = .ok (.bipush 59, 2) := by decide +kernel
theorem dX11_readsPlan_33 : decode cX11_readsPlan 33 = .ok (.if_icmp .ne 20, 3) := by decide +kernel
theorem dX11_readsPlan_36 : decode cX11_readsPlan 36 = .ok (.aload_n 0, 1) := by decide +kernel
theorem dX11_readsPlan_37 : decode cX11_readsPlan 37 = .ok (.dup, 1) := by decide +kernel
theorem dX11_readsPlan_38 : decode cX11_readsPlan 38 = .ok (.getfield 95, 3) := by decide +kernel
theorem dX11_readsPlan_41 : decode cX11_readsPlan 41 = .ok (.iconst 1, 1) := by decide +kernel
theorem dX11_readsPlan_42 : decode cX11_readsPlan 42 = .ok (.iadd, 1) := by decide +kernel
theorem dX11_readsPlan_43 : decode cX11_readsPlan 43 = .ok (.putfield 95, 3) := by decide +kernel
theorem dX11_readsPlan_46 : decode cX11_readsPlan 46 = .ok (.aload_n 0, 1) := by decide +kernel
theorem dX11_readsPlan_47 : decode cX11_readsPlan 47 = .ok (.invokevirtual 203, 3) := by decide +kernel
theorem dX11_readsPlan_50 : decode cX11_readsPlan 50 = .ok (.goto (-31), 3) := by decide +kernel
theorem dX11_readsPlan_53 : decode cX11_readsPlan 53 = .ok (.aload_n 0, 1) := by decide +kernel
theorem dX11_readsPlan_54 : decode cX11_readsPlan 54 = .ok (.getfield 102, 3) := by decide +kernel
theorem dX11_readsPlan_57 : decode cX11_readsPlan 57 = .ok (.iconst (-1), 1) := by decide +kernel
theorem dX11_readsPlan_58 : decode cX11_readsPlan 58 = .ok (.if_icmp .ne 19, 3) := by decide +kernel
theorem dX11_readsPlan_61 : decode cX11_readsPlan 61 = .ok (.aload_n 0, 1) := by decide +kernel
theorem dX11_readsPlan_62 : decode cX11_readsPlan 62 = .ok (.invokevirtual 105, 3) := by decide +kernel
theorem dX11_readsPlan_65 : decode cX11_readsPlan 65 = .ok (.iconst (-1), 1) := by decide +kernel
theorem dX11_readsPlan_66 : decode cX11_readsPlan 66 = .ok (.if_icmp .eq 11, 3) := by decide +kernel
theorem dX11_readsPlan_69 : decode cX11_readsPlan 69 = .ok (.aload_n 0, 1) := by decide +kernel
theorem dX11_readsPlan_70 : decode cX11_readsPlan 70 = .ok (.aload_n 0, 1) := by decide +kernel
theorem dX11_readsPlan_71 : decode cX11_readsPlan 71 = .ok (.getfield 95, 3) := by decide +kernel
theorem dX11_readsPlan_74 : decode cX11_readsPlan 74 = .ok (.invokevirtual 136, 3) := by decide +kernel
theorem dX11_readsPlan_77 : decode cX11_readsPlan 77 = .ok (.aload_n 0, 1) := by decide +kernel
theorem dX11_readsPlan_78 : decode cX11_readsPlan 78 = .ok (.getfield 102, 3) := by decide +kernel
theorem dX11_readsPlan_81 : decode cX11_readsPlan 81 = .ok (.ireturn, 1) := by decide +kernel
theorem dX11_refuse_0 : decode cX11_refuse 0 = .ok (.aload_n 0, 1) := by decide +kernel
theorem dX11_refuse_1 : decode cX11_refuse 1 = .ok (.getfield 71, 3) := by decide +kernel
theorem dX11_refuse_4 : decode cX11_refuse 4 = .ok (.iload_n 1, 1) := by decide +kernel
theorem dX11_refuse_5 : decode cX11_refuse 5 = .ok (.dup2, 1) := by decide +kernel
theorem dX11_refuse_6 : decode cX11_refuse 6 = .ok (.iaload, 1) := by decide +kernel
theorem dX11_refuse_7 : decode cX11_refuse 7 = .ok (.iconst 1, 1) := by decide +kernel
theorem dX11_refuse_8 : decode cX11_refuse 8 = .ok (.iadd, 1) := by decide +kernel
theorem dX11_refuse_9 : decode cX11_refuse 9 = .ok (.iastore, 1) := by decide +kernel
theorem dX11_refuse_10 : decode cX11_refuse 10 = .ok (.iconst (-1), 1) := by decide +kernel
theorem dX11_refuse_11 : decode cX11_refuse 11 = .ok (.ireturn, 1) := by decide +kernel
theorem dX11_round_0 : decode cX11_round 0 = .ok (.aload_n 0, 1) := by decide +kernel
theorem dX11_round_1 : decode cX11_round 1 = .ok (.iconst 0, 1) := by decide +kernel
theorem dX11_round_2 : decode cX11_round 2 = .ok (.putfield 80, 3) := by decide +kernel
theorem dX11_round_5 : decode cX11_round 5 = .ok (.aload_n 0, 1) := by decide +kernel
theorem dX11_round_6 : decode cX11_round 6 = .ok (.getfield 232, 3) := by decide +kernel
theorem dX11_round_9 : decode cX11_round 9 = .ok (.ifCond .eq 17, 3) := by decide +kernel
theorem dX11_round_12 : decode cX11_round 12 = .ok (.aload_n 0, 1) := by decide +kernel
theorem dX11_round_13 : decode cX11_round 13 = .ok (.getfield 57, 3) := by decide +kernel
theorem dX11_round_16 : decode cX11_round 16 = .ok (.bipush 72, 2) := by decide +kernel
theorem dX11_round_18 : decode cX11_round 18 = .ok (.iaload, 1) := by decide +kernel
theorem dX11_round_19 : decode cX11_round 19 = .ok (.aload_n 0, 1) := by decide +kernel
theorem dX11_round_20 : decode cX11_round 20 = .ok (.invokevirtual 335, 3) := by decide +kernel
theorem dX11_round_23 : decode cX11_round 23 = .ok (.if_icmp .ne 5, 3) := by decide +kernel
theorem dX11_round_26 : decode cX11_round 26 = .ok (.iconst (-1), 1) := by decide +kernel
theorem dX11_round_27 : decode cX11_round 27 = .ok (.ireturn, 1) := by decide +kernel
theorem dX11_round_28 : decode cX11_round 28 = .ok (.aload_n 0, 1) := by decide +kernel
theorem dX11_round_29 : decode cX11_round 29 = .ok (.invokevirtual 338, 3) := by decide +kernel
theorem dX11_round_32 : decode cX11_round 32 = .ok (.aload_n 0, 1) := by decide +kernel
theorem dX11_round_33 : decode cX11_round 33 = .ok (.getfield 57, 3) := by decide +kernel
theorem dX11_round_36 : decode cX11_round 36 = .ok (.bipush 72, 2) := by decide +kernel
theorem dX11_round_38 : decode cX11_round 38 = .ok (.iaload, 1) := by decide +kernel
theorem dX11_round_39 : decode cX11_round 39 = .ok (.ireturn, 1) := by decide +kernel
theorem dX11_rule_0 : decode cX11_rule 0 = .ok (.aload_n 0, 1) := by decide +kernel
theorem dX11_rule_1 : decode cX11_rule 1 = .ok (.iconst 0, 1) := by decide +kernel
theorem dX11_rule_2 : decode cX11_rule 2 = .ok (.putfield 80, 3) := by decide +kernel
theorem dX11_rule_5 : decode cX11_rule 5 = .ok (.iload_n 1, 1) := by decide +kernel
theorem dX11_rule_6 : decode cX11_rule 6 = .ok (.bipush 10, 2) := by decide +kernel
theorem dX11_rule_8 : decode cX11_rule 8 = .ok (.if_icmp .ne 8, 3) := by decide +kernel
theorem dX11_rule_11 : decode cX11_rule 11 = .ok (.aload_n 0, 1) := by decide +kernel
theorem dX11_rule_12 : decode cX11_rule 12 = .ok (.getfield 248, 3) := by decide +kernel
theorem dX11_rule_15 : decode cX11_rule 15 = .ok (.ireturn, 1) := by decide +kernel
theorem dX11_rule_16 : decode cX11_rule 16 = .ok (.aload_n 0, 1) := by decide +kernel
theorem dX11_rule_17 : decode cX11_rule 17 = .ok (.getfield 232, 3) := by decide +kernel
theorem dX11_rule_20 : decode cX11_rule 20 = .ok (.ifCond .ne 7, 3) := by decide +kernel
theorem dX11_rule_23 : decode cX11_rule 23 = .ok (.ldc_w 357, 3) := by decide +kernel
theorem dX11_rule_26 : decode cX11_rule 26 = .ok (.ireturn, 1) := by decide +kernel
theorem dX11_rule_27 : decode cX11_rule 27 = .ok (.aload_n 0, 1) := by decide +kernel
theorem dX11_rule_28 : decode cX11_rule 28 = .ok (.invokevirtual 329, 3) := by decide +kernel
theorem dX11_rule_31 : decode cX11_rule 31 = .ok (.iload_n 1, 1) := by decide +kernel
theorem dX11_rule_32 : decode cX11_rule 32 = .ok (.tableswitch 129 0 11 #[64, 69, 74, 79, 84, 89, 94, 99, 109, 119, 129, 124], 64) := by decide +kernel
theorem dX11_rule_96 : decode cX11_rule 96 = .ok (.aload_n 0, 1) := by decide +kernel
theorem dX11_rule_97 : decode cX11_rule 97 = .ok (.getfield 212, 3) := by decide +kernel
theorem dX11_rule_100 : decode cX11_rule 100 = .ok (.ireturn, 1) := by decide +kernel
theorem dX11_rule_101 : decode cX11_rule 101 = .ok (.aload_n 0, 1) := by decide +kernel
theorem dX11_rule_102 : decode cX11_rule 102 = .ok (.getfield 215, 3) := by decide +kernel
theorem dX11_rule_105 : decode cX11_rule 105 = .ok (.ireturn, 1) := by decide +kernel
theorem dX11_rule_106 : decode cX11_rule 106 = .ok (.aload_n 0, 1) := by decide +kernel
theorem dX11_rule_107 : decode cX11_rule 107 = .ok (.getfield 218, 3) := by decide +kernel
theorem dX11_rule_110 : decode cX11_rule 110 = .ok (.ireturn, 1) := by decide +kernel
theorem dX11_rule_111 : decode cX11_rule 111 = .ok (.aload_n 0, 1) := by decide +kernel
theorem dX11_rule_112 : decode cX11_rule 112 = .ok (.getfield 220, 3) := by decide +kernel
theorem dX11_rule_115 : decode cX11_rule 115 = .ok (.ireturn, 1) := by decide +kernel
theorem dX11_rule_116 : decode cX11_rule 116 = .ok (.aload_n 0, 1) := by decide +kernel
theorem dX11_rule_117 : decode cX11_rule 117 = .ok (.getfield 224, 3) := by decide +kernel
theorem dX11_rule_120 : decode cX11_rule 120 = .ok (.ireturn, 1) := by decide +kernel
theorem dX11_rule_121 : decode cX11_rule 121 = .ok (.aload_n 0, 1) := by decide +kernel
theorem dX11_rule_122 : decode cX11_rule 122 = .ok (.getfield 226, 3) := by decide +kernel
theorem dX11_rule_125 : decode cX11_rule 125 = .ok (.ireturn, 1) := by decide +kernel
theorem dX11_rule_126 : decode cX11_rule 126 = .ok (.aload_n 0, 1) := by decide +kernel
theorem dX11_rule_127 : decode cX11_rule 127 = .ok (.getfield 222, 3) := by decide +kernel
theorem dX11_rule_130 : decode cX11_rule 130 = .ok (.ireturn, 1) := by decide +kernel
theorem dX11_rule_131 : decode cX11_rule 131 = .ok (.aload_n 0, 1) := by decide +kernel
theorem dX11_rule_132 : decode cX11_rule 132 = .ok (.getfield 251, 3) := by decide +kernel
theorem dX11_rule_135 : decode cX11_rule 135 = .ok (.aload_n 0, 1) := by decide +kernel
theorem dX11_rule_136 : decode cX11_rule 136 = .ok (.invokevirtual 287, 3) := by decide +kernel
theorem dX11_rule_139 : decode cX11_rule 139 = .ok (.idiv, 1) := by decide +kernel
theorem dX11_rule_140 : decode cX11_rule 140 = .ok (.ireturn, 1) := by decide +kernel
theorem dX11_rule_141 : decode cX11_rule 141 = .ok (.aload_n 0, 1) := by decide +kernel
theorem dX11_rule_142 : decode cX11_rule 142 = .ok (.getfield 251, 3) := by decide +kernel
theorem dX11_rule_145 : decode cX11_rule 145 = .ok (.aload_n 0, 1) := by decide +kernel
theorem dX11_rule_146 : decode cX11_rule 146 = .ok (.invokevirtual 287, 3) := by decide +kernel
theorem dX11_rule_149 : decode cX11_rule 149 = .ok (.irem, 1) := by decide +kernel
theorem dX11_rule_150 : decode cX11_rule 150 = .ok (.ireturn, 1) := by decide +kernel
theorem dX11_rule_151 : decode cX11_rule 151 = .ok (.aload_n 0, 1) := by decide +kernel
theorem dX11_rule_152 : decode cX11_rule 152 = .ok (.invokevirtual 287, 3) := by decide +kernel
theorem dX11_rule_155 : decode cX11_rule 155 = .ok (.ireturn, 1) := by decide +kernel
theorem dX11_rule_156 : decode cX11_rule 156 = .ok (.aload_n 0, 1) := by decide +kernel
theorem dX11_rule_157 : decode cX11_rule 157 = .ok (.getfield 236, 3) := by decide +kernel
theorem dX11_rule_160 : decode cX11_rule 160 = .ok (.ireturn, 1) := by decide +kernel
theorem dX11_rule_161 : decode cX11_rule 161 = .ok (.ldc_w 357, 3) := by decide +kernel
theorem dX11_rule_164 : decode cX11_rule 164 = .ok (.ireturn, 1) := by decide +kernel
theorem dX11_ruled_0 : decode cX11_ruled 0 = .ok (.aload_n 0, 1) := by decide +kernel
theorem dX11_ruled_1 : decode cX11_ruled 1 = .ok (.iconst 0, 1) := by decide +kernel
theorem dX11_ruled_2 : decode cX11_ruled 2 = .ok (.putfield 80, 3) := by decide +kernel
theorem dX11_ruled_5 : decode cX11_ruled 5 = .ok (.aload_n 0, 1) := by decide +kernel
theorem dX11_ruled_6 : decode cX11_ruled 6 = .ok (.iload_n 1, 1) := by decide +kernel
theorem dX11_ruled_7 : decode cX11_ruled 7 = .ok (.invokevirtual 347, 3) := by decide +kernel
theorem dX11_ruled_10 : decode cX11_ruled 10 = .ok (.ifCond .eq 15, 3) := by decide +kernel
theorem dX11_ruled_13 : decode cX11_ruled 13 = .ok (.iload_n 2, 1) := by decide +kernel
theorem dX11_ruled_14 : decode cX11_ruled 14 = .ok (.i2l, 1) := by decide +kernel
theorem dX11_ruled_15 : decode cX11_ruled 15 = .ok (.lconst 0, 1) := by decide +kernel
theorem dX11_ruled_16 : decode cX11_ruled 16 = .ok (.ldc2_w 267, 3) := by decide +kernel
theorem dX11_ruled_19 : decode cX11_ruled 19 = .ok (.invokestatic 132, 3) := by decide +kernel
theorem dX11_ruled_22 : decode cX11_ruled 22 = .ok (.ifCond .ne 5, 3) := by decide +kernel
theorem dX11_ruled_25 : decode cX11_ruled 25 = .ok (.iconst (-1), 1) := by decide +kernel
theorem dX11_ruled_26 : decode cX11_ruled 26 = .ok (.ireturn, 1) := by decide +kernel
theorem dX11_ruled_27 : decode cX11_ruled 27 = .ok (.iconst 0, 1) := by decide +kernel
theorem dX11_ruled_28 : decode cX11_ruled 28 = .ok (.istore_n 3, 1) := by decide +kernel
theorem dX11_ruled_29 : decode cX11_ruled 29 = .ok (.iconst 0, 1) := by decide +kernel
theorem dX11_ruled_30 : decode cX11_ruled 30 = .ok (.istore 4, 2) := by decide +kernel
theorem dX11_ruled_32 : decode cX11_ruled 32 = .ok (.iload 4, 2) := by decide +kernel
theorem dX11_ruled_34 : decode cX11_ruled 34 = .ok (.aload_n 0, 1) := by decide +kernel
theorem dX11_ruled_35 : decode cX11_ruled 35 = .ok (.invokevirtual 358, 3) := by decide +kernel
theorem dX11_ruled_38 : decode cX11_ruled 38 = .ok (.if_icmp .ge 185, 3) := by decide +kernel
theorem dX11_ruled_41 : decode cX11_ruled 41 = .ok (.iload 4, 2) := by decide +kernel
theorem dX11_ruled_43 : decode cX11_ruled 43 = .ok (.aload_n 0, 1) := by decide +kernel
theorem dX11_ruled_44 : decode cX11_ruled 44 = .ok (.getfield 215, 3) := by decide +kernel
theorem dX11_ruled_47 : decode cX11_ruled 47 = .ok (.irem, 1) := by decide +kernel
theorem dX11_ruled_48 : decode cX11_ruled 48 = .ok (.iload_n 1, 1) := by decide +kernel
theorem dX11_ruled_49 : decode cX11_ruled 49 = .ok (.if_icmp .eq 6, 3) := by decide +kernel
theorem dX11_ruled_52 : decode cX11_ruled 52 = .ok (.goto 165, 3) := by decide +kernel
theorem dX11_ruled_55 : decode cX11_ruled 55 = .ok (.iload_n 2, 1) := by decide +kernel
theorem dX11_ruled_56 : decode cX11_ruled 56 = .ok (.ifCond .ne 6, 3) := by decide +kernel
theorem dX11_ruled_59 : decode cX11_ruled 59 = .ok (.iinc 3 1, 3) := by decide +kernel
theorem dX11_ruled_62 : decode cX11_ruled 62 = .ok (.iload_n 2, 1) := by decide +kernel
theorem dX11_ruled_63 : decode cX11_ruled 63 = .ok (.iconst 1, 1) := by decide +kernel
theorem dX11_ruled_64 : decode cX11_ruled 64 = .ok (.if_icmp .ne 15, 3) := by decide +kernel
theorem dX11_ruled_67 : decode cX11_ruled 67 = .ok (.iload_n 3, 1) := by decide +kernel
theorem dX11_ruled_68 : decode cX11_ruled 68 = .ok (.aload_n 0, 1) := by decide +kernel
theorem dX11_ruled_69 : decode cX11_ruled 69 = .ok (.iload 4, 2) := by decide +kernel
theorem dX11_ruled_71 : decode cX11_ruled 71 = .ok (.bipush 7, 2) := by decide +kernel
theorem dX11_ruled_73 : decode cX11_ruled 73 = .ok (.iconst 1, 1) := by decide +kernel
theorem dX11_ruled_74 : decode cX11_ruled 74 = .ok (.invokevirtual 439, 3) := by decide +kernel
theorem dX11_ruled_77 : decode cX11_ruled 77 = .ok (.iadd, 1) := by decide +kernel
theorem dX11_ruled_78 : decode cX11_ruled 78 = .ok (.istore_n 3, 1) := by decide +kernel
theorem dX11_ruled_79 : decode cX11_ruled 79 = .ok (.iconst 0, 1) := by decide +kernel
theorem dX11_ruled_80 : decode cX11_ruled 80 = .ok (.istore 5, 2) := by decide +kernel
theorem dX11_ruled_82 : decode cX11_ruled 82 = .ok (.iload 5, 2) := by decide +kernel
theorem dX11_ruled_84 : decode cX11_ruled 84 = .ok (.aload_n 0, 1) := by decide +kernel
theorem dX11_ruled_85 : decode cX11_ruled 85 = .ok (.getfield 215, 3) := by decide +kernel
theorem dX11_ruled_88 : decode cX11_ruled 88 = .ok (.if_icmp .ge 129, 3) := by decide +kernel
theorem dX11_ruled_91 : decode cX11_ruled 91 = .ok (.iload_n 2, 1) := by decide +kernel
theorem dX11_ruled_92 : decode cX11_ruled 92 = .ok (.iconst 1, 1) := by decide +kernel
theorem dX11_ruled_93 : decode cX11_ruled 93 = .ok (.if_icmp .le 124, 3) := by decide +kernel
theorem dX11_ruled_96 : decode cX11_ruled 96 = .ok (.aload_n 0, 1) := by decide +kernel
theorem dX11_ruled_97 : decode cX11_ruled 97 = .ok (.getfield 57, 3) := by decide +kernel
theorem dX11_ruled_100 : decode cX11_ruled 100 = .ok (.bipush 80, 2) := by decide +kernel
theorem dX11_ruled_102 : decode cX11_ruled 102 = .ok (.bipush 81, 2) := by decide +kernel
theorem dX11_ruled_104 : decode cX11_ruled 104 = .ok (.iconst 3, 1) := by decide +kernel
theorem dX11_ruled_105 : decode cX11_ruled 105 = .ok (.iload 4, 2) := by decide +kernel
theorem dX11_ruled_107 : decode cX11_ruled 107 = .ok (.imul, 1) := by decide +kernel
theorem dX11_ruled_108 : decode cX11_ruled 108 = .ok (.aload_n 0, 1) := by decide +kernel
theorem dX11_ruled_109 : decode cX11_ruled 109 = .ok (.invokevirtual 287, 3) := by decide +kernel
theorem dX11_ruled_112 : decode cX11_ruled 112 = .ok (.iadd, 1) := by decide +kernel
theorem dX11_ruled_113 : decode cX11_ruled 113 = .ok (.iconst 1, 1) := by decide +kernel
theorem dX11_ruled_114 : decode cX11_ruled 114 = .ok (.isub, 1) := by decide +kernel
theorem dX11_ruled_115 : decode cX11_ruled 115 = .ok (.imul, 1) := by decide +kernel
theorem dX11_ruled_116 : decode cX11_ruled 116 = .ok (.iadd, 1) := by decide +kernel
theorem dX11_ruled_117 : decode cX11_ruled 117 = .ok (.bipush 9, 2) := by decide +kernel
theorem dX11_ruled_119 : decode cX11_ruled 119 = .ok (.iload_n 1, 1) := by decide +kernel
theorem dX11_ruled_120 : decode cX11_ruled 120 = .ok (.imul, 1) := by decide +kernel
theorem dX11_ruled_121 : decode cX11_ruled 121 = .ok (.iadd, 1) := by decide +kernel
theorem dX11_ruled_122 : decode cX11_ruled 122 = .ok (.iload 5, 2) := by decide +kernel
theorem dX11_ruled_124 : decode cX11_ruled 124 = .ok (.iadd, 1) := by decide +kernel
theorem dX11_ruled_125 : decode cX11_ruled 125 = .ok (.iaload, 1) := by decide +kernel
theorem dX11_ruled_126 : decode cX11_ruled 126 = .ok (.istore 6, 2) := by decide +kernel
theorem dX11_ruled_128 : decode cX11_ruled 128 = .ok (.iload 5, 2) := by decide +kernel
theorem dX11_ruled_130 : decode cX11_ruled 130 = .ok (.iload_n 1, 1) := by decide +kernel
theorem dX11_ruled_131 : decode cX11_ruled 131 = .ok (.if_icmp .ne 6, 3) := by decide +kernel
theorem dX11_ruled_134 : decode cX11_ruled 134 = .ok (.goto 77, 3) := by decide +kernel
theorem dX11_ruled_137 : decode cX11_ruled 137 = .ok (.iload_n 2, 1) := by decide +kernel
theorem dX11_ruled_138 : decode cX11_ruled 138 = .ok (.iconst 3, 1) := by decide +kernel
theorem dX11_ruled_139 : decode cX11_ruled 139 = .ok (.if_icmp .ne 17, 3) := by decide +kernel
theorem dX11_ruled_142 : decode cX11_ruled 142 = .ok (.iload 6, 2) := by decide +kernel
theorem dX11_ruled_144 : decode cX11_ruled 144 = .ok (.iconst 2, 1) := by decide +kernel
theorem dX11_ruled_145 : decode cX11_ruled 145 = .ok (.if_icmp .eq 7, 3) := by decide +kernel
theorem dX11_ruled_148 : decode cX11_ruled 148 = .ok (.iconst 1, 1) := by decide +kernel
theorem dX11_ruled_149 : decode cX11_ruled 149 = .ok (.goto 47, 3) := by decide +kernel
theorem dX11_ruled_152 : decode cX11_ruled 152 = .ok (.iconst 0, 1) := by decide +kernel
theorem dX11_ruled_153 : decode cX11_ruled 153 = .ok (.goto 43, 3) := by decide +kernel
theorem dX11_ruled_156 : decode cX11_ruled 156 = .ok (.aload_n 0, 1) := by decide +kernel
theorem dX11_ruled_157 : decode cX11_ruled 157 = .ok (.getfield 57, 3) := by decide +kernel
theorem dX11_ruled_160 : decode cX11_ruled 160 = .ok (.iload 4, 2) := by decide +kernel
theorem dX11_ruled_162 : decode cX11_ruled 162 = .ok (.iload 5, 2) := by decide +kernel
theorem dX11_ruled_164 : decode cX11_ruled 164 = .ok (.invokestatic 332, 3) := by decide +kernel
theorem dX11_ruled_167 : decode cX11_ruled 167 = .ok (.iconst 1, 1) := by decide +kernel
theorem dX11_ruled_168 : decode cX11_ruled 168 = .ok (.iadd, 1) := by decide +kernel
theorem dX11_ruled_169 : decode cX11_ruled 169 = .ok (.iaload, 1) := by decide +kernel
theorem dX11_ruled_170 : decode cX11_ruled 170 = .ok (.iconst 1, 1) := by decide +kernel
theorem dX11_ruled_171 : decode cX11_ruled 171 = .ok (.if_icmp .ne 24, 3) := by decide +kernel
theorem dX11_ruled_174 : decode cX11_ruled 174 = .ok (.iload 6, 2) := by decide +kernel
theorem dX11_ruled_176 : decode cX11_ruled 176 = .ok (.aload_n 0, 1) := by decide +kernel
theorem dX11_ruled_177 : decode cX11_ruled 177 = .ok (.getfield 57, 3) := by decide +kernel
theorem dX11_ruled_180 : decode cX11_ruled 180 = .ok (.iload 4, 2) := by decide +kernel
theorem dX11_ruled_182 : decode cX11_ruled 182 = .ok (.iload 5, 2) := by decide +kernel
theorem dX11_ruled_184 : decode cX11_ruled 184 = .ok (.invokestatic 332, 3) := by decide +kernel
theorem dX11_ruled_187 : decode cX11_ruled 187 = .ok (.iaload, 1) := by decide +kernel
theorem dX11_ruled_188 : decode cX11_ruled 188 = .ok (.if_icmp .eq 7, 3) := by decide +kernel
theorem dX11_ruled_191 : decode cX11_ruled 191 = .ok (.iconst 1, 1) := by decide +kernel
theorem dX11_ruled_192 : decode cX11_ruled 192 = .ok (.goto 4, 3) := by decide +kernel
theorem dX11_ruled_195 : decode cX11_ruled 195 = .ok (.iconst 0, 1) := by decide +kernel
theorem dX11_ruled_196 : decode cX11_ruled 196 = .ok (.istore 7, 2) := by decide +kernel
theorem dX11_ruled_198 : decode cX11_ruled 198 = .ok (.iload_n 3, 1) := by decide +kernel
theorem dX11_ruled_199 : decode cX11_ruled 199 = .ok (.iload 7, 2) := by decide +kernel
theorem dX11_ruled_201 : decode cX11_ruled 201 = .ok (.ifCond .eq 7, 3) := by decide +kernel
theorem dX11_ruled_204 : decode cX11_ruled 204 = .ok (.iconst 1, 1) := by decide +kernel
theorem dX11_ruled_205 : decode cX11_ruled 205 = .ok (.goto 4, 3) := by decide +kernel
theorem dX11_ruled_208 : decode cX11_ruled 208 = .ok (.iconst 0, 1) := by decide +kernel
theorem dX11_ruled_209 : decode cX11_ruled 209 = .ok (.iadd, 1) := by decide +kernel
theorem dX11_ruled_210 : decode cX11_ruled 210 = .ok (.istore_n 3, 1) := by decide +kernel
theorem dX11_ruled_211 : decode cX11_ruled 211 = .ok (.iinc 5 1, 3) := by decide +kernel
theorem dX11_ruled_214 : decode cX11_ruled 214 = .ok (.goto (-132), 3) := by decide +kernel
theorem dX11_ruled_217 : decode cX11_ruled 217 = .ok (.iinc 4 1, 3) := by decide +kernel
theorem dX11_ruled_220 : decode cX11_ruled 220 = .ok (.goto (-188), 3) := by decide +kernel
theorem dX11_ruled_223 : decode cX11_ruled 223 = .ok (.iload_n 3, 1) := by decide +kernel
theorem dX11_ruled_224 : decode cX11_ruled 224 = .ok (.ireturn, 1) := by decide +kernel
theorem dX11_run_0 : decode cX11_run 0 = .ok (.aload_n 0, 1) := by decide +kernel
theorem dX11_run_1 : decode cX11_run 1 = .ok (.iconst 0, 1) := by decide +kernel
theorem dX11_run_2 : decode cX11_run 2 = .ok (.putfield 80, 3) := by decide +kernel
theorem dX11_run_5 : decode cX11_run 5 = .ok (.aload_n 0, 1) := by decide +kernel
theorem dX11_run_6 : decode cX11_run 6 = .ok (.getfield 232, 3) := by decide +kernel
theorem dX11_run_9 : decode cX11_run 9 = .ok (.ifCond .eq 17, 3) := by decide +kernel
theorem dX11_run_12 : decode cX11_run 12 = .ok (.aload_n 0, 1) := by decide +kernel
theorem dX11_run_13 : decode cX11_run 13 = .ok (.getfield 57, 3) := by decide +kernel
theorem dX11_run_16 : decode cX11_run 16 = .ok (.bipush 72, 2) := by decide +kernel
theorem dX11_run_18 : decode cX11_run 18 = .ok (.iaload, 1) := by decide +kernel
theorem dX11_run_19 : decode cX11_run 19 = .ok (.aload_n 0, 1) := by decide +kernel
theorem dX11_run_20 : decode cX11_run 20 = .ok (.invokevirtual 335, 3) := by decide +kernel
theorem dX11_run_23 : decode cX11_run 23 = .ok (.if_icmp .ne 5, 3) := by decide +kernel
theorem dX11_run_26 : decode cX11_run 26 = .ok (.iconst (-1), 1) := by decide +kernel
theorem dX11_run_27 : decode cX11_run 27 = .ok (.ireturn, 1) := by decide +kernel
theorem dX11_run_28 : decode cX11_run 28 = .ok (.aload_n 0, 1) := by decide +kernel
theorem dX11_run_29 : decode cX11_run 29 = .ok (.invokevirtual 335, 3) := by decide +kernel
theorem dX11_run_32 : decode cX11_run 32 = .ok (.aload_n 0, 1) := by decide +kernel
theorem dX11_run_33 : decode cX11_run 33 = .ok (.getfield 57, 3) := by decide +kernel
theorem dX11_run_36 : decode cX11_run 36 = .ok (.bipush 72, 2) := by decide +kernel
theorem dX11_run_38 : decode cX11_run 38 = .ok (.iaload, 1) := by decide +kernel
theorem dX11_run_39 : decode cX11_run 39 = .ok (.isub, 1) := by decide +kernel
theorem dX11_run_40 : decode cX11_run 40 = .ok (.istore_n 1, 1) := by decide +kernel
theorem dX11_run_41 : decode cX11_run 41 = .ok (.iconst 0, 1) := by decide +kernel
theorem dX11_run_42 : decode cX11_run 42 = .ok (.istore_n 2, 1) := by decide +kernel
theorem dX11_run_43 : decode cX11_run 43 = .ok (.iload_n 2, 1) := by decide +kernel
theorem dX11_run_44 : decode cX11_run 44 = .ok (.iload_n 1, 1) := by decide +kernel
theorem dX11_run_45 : decode cX11_run 45 = .ok (.if_icmp .ge 13, 3) := by decide +kernel
theorem dX11_run_48 : decode cX11_run 48 = .ok (.aload_n 0, 1) := by decide +kernel
theorem dX11_run_49 : decode cX11_run 49 = .ok (.invokevirtual 338, 3) := by decide +kernel
theorem dX11_run_52 : decode cX11_run 52 = .ok (.iinc 2 1, 3) := by decide +kernel
theorem dX11_run_55 : decode cX11_run 55 = .ok (.goto (-12), 3) := by decide +kernel
theorem dX11_run_58 : decode cX11_run 58 = .ok (.iload_n 1, 1) := by decide +kernel
theorem dX11_run_59 : decode cX11_run 59 = .ok (.ireturn, 1) := by decide +kernel
theorem dX11_say_0 : decode cX11_say 0 = .ok (.aload_n 0, 1) := by decide +kernel
theorem dX11_say_1 : decode cX11_say 1 = .ok (.iconst 0, 1) := by decide +kernel
theorem dX11_say_2 : decode cX11_say 2 = .ok (.putfield 80, 3) := by decide +kernel
theorem dX11_say_5 : decode cX11_say 5 = .ok (.aload_n 0, 1) := by decide +kernel
theorem dX11_say_6 : decode cX11_say 6 = .ok (.getfield 232, 3) := by decide +kernel
theorem dX11_say_9 : decode cX11_say 9 = .ok (.ifCond .ne 9, 3) := by decide +kernel
theorem dX11_say_12 : decode cX11_say 12 = .ok (.aload_n 0, 1) := by decide +kernel
theorem dX11_say_13 : decode cX11_say 13 = .ok (.iconst 0, 1) := by decide +kernel
theorem dX11_say_14 : decode cX11_say 14 = .ok (.invokevirtual 341, 3) := by decide +kernel
theorem dX11_say_17 : decode cX11_say 17 = .ok (.ireturn, 1) := by decide +kernel
theorem dX11_say_18 : decode cX11_say 18 = .ok (.aload_n 0, 1) := by decide +kernel
theorem dX11_say_19 : decode cX11_say 19 = .ok (.iload_n 1, 1) := by decide +kernel
theorem dX11_say_20 : decode cX11_say 20 = .ok (.iload_n 2, 1) := by decide +kernel
theorem dX11_say_21 : decode cX11_say 21 = .ok (.invokevirtual 344, 3) := by decide +kernel
theorem dX11_say_24 : decode cX11_say 24 = .ok (.ifCond .eq 33, 3) := by decide +kernel
theorem dX11_say_27 : decode cX11_say 27 = .ok (.aload_n 0, 1) := by decide +kernel
theorem dX11_say_28 : decode cX11_say 28 = .ok (.iload_n 3, 1) := by decide +kernel
theorem dX11_say_29 : decode cX11_say 29 = .ok (.invokevirtual 347, 3) := by decide +kernel
theorem dX11_say_32 : decode cX11_say 32 = .ok (.ifCond .eq 25, 3) := by decide +kernel
theorem dX11_say_35 : decode cX11_say 35 = .ok (.aload_n 0, 1) := by decide +kernel
theorem dX11_say_36 : decode cX11_say 36 = .ok (.iload 4, 2) := by decide +kernel
theorem dX11_say_38 : decode cX11_say 38 = .ok (.invokevirtual 347, 3) := by decide +kernel
theorem dX11_say_41 : decode cX11_say 41 = .ok (.ifCond .eq 16, 3) := by decide +kernel
theorem dX11_say_44 : decode cX11_say 44 = .ok (.iload 5, 2) := by decide +kernel
theorem dX11_say_46 : decode cX11_say 46 = .ok (.i2l, 1) := by decide +kernel
theorem dX11_say_47 : decode cX11_say 47 = .ok (.lconst 0, 1) := by decide +kernel
theorem dX11_say_48 : decode cX11_say 48 = .ok (.ldc2_w 350, 3) := by decide +kernel
theorem dX11_say_51 : decode cX11_say 51 = .ok (.invokestatic 132, 3) := by decide +kernel
theorem dX11_say_54 : decode cX11_say 54 = .ok (.ifCond .ne 9, 3) := by decide +kernel
theorem dX11_say_57 : decode cX11_say 57 = .ok (.aload_n 0, 1) := by decide +kernel
theorem dX11_say_58 : decode cX11_say 58 = .ok (.iconst 1, 1) := by decide +kernel
theorem dX11_say_59 : decode cX11_say 59 = .ok (.invokevirtual 341, 3) := by decide +kernel
theorem dX11_say_62 : decode cX11_say 62 = .ok (.ireturn, 1) := by decide +kernel
theorem dX11_say_63 : decode cX11_say 63 = .ok (.aload_n 0, 1) := by decide +kernel
theorem dX11_say_64 : decode cX11_say 64 = .ok (.invokevirtual 329, 3) := by decide +kernel
theorem dX11_say_67 : decode cX11_say 67 = .ok (.aload_n 0, 1) := by decide +kernel
theorem dX11_say_68 : decode cX11_say 68 = .ok (.iload_n 3, 1) := by decide +kernel
theorem dX11_say_69 : decode cX11_say 69 = .ok (.invokevirtual 274, 3) := by decide +kernel
theorem dX11_say_72 : decode cX11_say 72 = .ok (.ifCond .ne 9, 3) := by decide +kernel
theorem dX11_say_75 : decode cX11_say 75 = .ok (.aload_n 0, 1) := by decide +kernel
theorem dX11_say_76 : decode cX11_say 76 = .ok (.iconst 2, 1) := by decide +kernel
theorem dX11_say_77 : decode cX11_say 77 = .ok (.invokevirtual 341, 3) := by decide +kernel
theorem dX11_say_80 : decode cX11_say 80 = .ok (.ireturn, 1) := by decide +kernel
theorem dX11_say_81 : decode cX11_say 81 = .ok (.aload_n 0, 1) := by decide +kernel
theorem dX11_say_82 : decode cX11_say 82 = .ok (.invokevirtual 287, 3) := by decide +kernel
theorem dX11_say_85 : decode cX11_say 85 = .ok (.iload_n 1, 1) := by decide +kernel
theorem dX11_say_86 : decode cX11_say 86 = .ok (.imul, 1) := by decide +kernel
theorem dX11_say_87 : decode cX11_say 87 = .ok (.iload_n 2, 1) := by decide +kernel
theorem dX11_say_88 : decode cX11_say 88 = .ok (.iadd, 1) := by decide +kernel
theorem dX11_say_89 : decode cX11_say 89 = .ok (.aload_n 0, 1) := by decide +kernel
theorem dX11_say_90 : decode cX11_say 90 = .ok (.getfield 251, 3) := by decide +kernel
theorem dX11_say_93 : decode cX11_say 93 = .ok (.if_icmp .ge 9, 3) := by decide +kernel
theorem dX11_say_96 : decode cX11_say 96 = .ok (.aload_n 0, 1) := by decide +kernel
theorem dX11_say_97 : decode cX11_say 97 = .ok (.iconst 3, 1) := by decide +kernel
theorem dX11_say_98 : decode cX11_say 98 = .ok (.invokevirtual 341, 3) := by decide +kernel
theorem dX11_say_101 : decode cX11_say 101 = .ok (.ireturn, 1) := by decide +kernel
theorem dX11_say_102 : decode cX11_say 102 = .ok (.aload_n 0, 1) := by decide +kernel
theorem dX11_say_103 : decode cX11_say 103 = .ok (.getfield 236, 3) := by decide +kernel
theorem dX11_say_106 : decode cX11_say 106 = .ok (.bipush 30, 2) := by decide +kernel
theorem dX11_say_108 : decode cX11_say 108 = .ok (.if_icmp .ne 9, 3) := by decide +kernel
theorem dX11_say_111 : decode cX11_say 111 = .ok (.aload_n 0, 1) := by decide +kernel
theorem dX11_say_112 : decode cX11_say 112 = .ok (.iconst 4, 1) := by decide +kernel
theorem dX11_say_113 : decode cX11_say 113 = .ok (.invokevirtual 341, 3) := by decide +kernel
theorem dX11_say_116 : decode cX11_say 116 = .ok (.ireturn, 1) := by decide +kernel
theorem dX11_say_117 : decode cX11_say 117 = .ok (.aload_n 0, 1) := by decide +kernel
theorem dX11_say_118 : decode cX11_say 118 = .ok (.invokevirtual 326, 3) := by decide +kernel
theorem dX11_say_121 : decode cX11_say 121 = .ok (.iconst 5, 1) := by decide +kernel
theorem dX11_say_122 : decode cX11_say 122 = .ok (.aload_n 0, 1) := by decide +kernel
theorem dX11_say_123 : decode cX11_say 123 = .ok (.getfield 236, 3) := by decide +kernel
theorem dX11_say_126 : decode cX11_say 126 = .ok (.imul, 1) := by decide +kernel
theorem dX11_say_127 : decode cX11_say 127 = .ok (.istore 6, 2) := by decide +kernel
theorem dX11_say_129 : decode cX11_say 129 = .ok (.aload_n 0, 1) := by decide +kernel
theorem dX11_say_130 : decode cX11_say 130 = .ok (.getfield 23, 3) := by decide +kernel
theorem dX11_say_133 : decode cX11_say 133 = .ok (.iload 6, 2) := by decide +kernel
theorem dX11_say_135 : decode cX11_say 135 = .ok (.iload_n 1, 1) := by decide +kernel
theorem dX11_say_136 : decode cX11_say 136 = .ok (.iastore, 1) := by decide +kernel
theorem dX11_say_137 : decode cX11_say 137 = .ok (.aload_n 0, 1) := by decide +kernel
theorem dX11_say_138 : decode cX11_say 138 = .ok (.getfield 23, 3) := by decide +kernel
theorem dX11_say_141 : decode cX11_say 141 = .ok (.iload 6, 2) := by decide +kernel
theorem dX11_say_143 : decode cX11_say 143 = .ok (.iconst 1, 1) := by decide +kernel
theorem dX11_say_144 : decode cX11_say 144 = .ok (.iadd, 1) := by decide +kernel
theorem dX11_say_145 : decode cX11_say 145 = .ok (.iload_n 2, 1) := by decide +kernel
theorem dX11_say_146 : decode cX11_say 146 = .ok (.iastore, 1) := by decide +kernel
theorem dX11_say_147 : decode cX11_say 147 = .ok (.aload_n 0, 1) := by decide +kernel
theorem dX11_say_148 : decode cX11_say 148 = .ok (.getfield 23, 3) := by decide +kernel
theorem dX11_say_151 : decode cX11_say 151 = .ok (.iload 6, 2) := by decide +kernel
theorem dX11_say_153 : decode cX11_say 153 = .ok (.iconst 2, 1) := by decide +kernel
theorem dX11_say_154 : decode cX11_say 154 = .ok (.iadd, 1) := by decide +kernel
theorem dX11_say_155 : decode cX11_say 155 = .ok (.iload_n 3, 1) := by decide +kernel
theorem dX11_say_156 : decode cX11_say 156 = .ok (.iastore, 1) := by decide +kernel
theorem dX11_say_157 : decode cX11_say 157 = .ok (.aload_n 0, 1) := by decide +kernel
theorem dX11_say_158 : decode cX11_say 158 = .ok (.getfield 23, 3) := by decide +kernel
theorem dX11_say_161 : decode cX11_say 161 = .ok (.iload 6, 2) := by decide +kernel
theorem dX11_say_163 : decode cX11_say 163 = .ok (.iconst 3, 1) := by decide +kernel
theorem dX11_say_164 : decode cX11_say 164 = .ok (.iadd, 1) := by decide +kernel
theorem dX11_say_165 : decode cX11_say 165 = .ok (.iload 4, 2) := by decide +kernel
theorem dX11_say_167 : decode cX11_say 167 = .ok (.iastore, 1) := by decide +kernel
theorem dX11_say_168 : decode cX11_say 168 = .ok (.aload_n 0, 1) := by decide +kernel
theorem dX11_say_169 : decode cX11_say 169 = .ok (.getfield 23, 3) := by decide +kernel
theorem dX11_say_172 : decode cX11_say 172 = .ok (.iload 6, 2) := by decide +kernel
theorem dX11_say_174 : decode cX11_say 174 = .ok (.iconst 4, 1) := by decide +kernel
theorem dX11_say_175 : decode cX11_say 175 = .ok (.iadd, 1) := by decide +kernel
theorem dX11_say_176 : decode cX11_say 176 = .ok (.iload 5, 2) := by decide +kernel
theorem dX11_say_178 : decode cX11_say 178 = .ok (.iastore, 1) := by decide +kernel
theorem dX11_say_179 : decode cX11_say 179 = .ok (.aload_n 0, 1) := by decide +kernel
theorem dX11_say_180 : decode cX11_say 180 = .ok (.dup, 1) := by decide +kernel
theorem dX11_say_181 : decode cX11_say 181 = .ok (.getfield 236, 3) := by decide +kernel
theorem dX11_say_184 : decode cX11_say 184 = .ok (.iconst 1, 1) := by decide +kernel
theorem dX11_say_185 : decode cX11_say 185 = .ok (.iadd, 1) := by decide +kernel
theorem dX11_say_186 : decode cX11_say 186 = .ok (.putfield 236, 3) := by decide +kernel
theorem dX11_say_189 : decode cX11_say 189 = .ok (.aload_n 0, 1) := by decide +kernel
theorem dX11_say_190 : decode cX11_say 190 = .ok (.invokevirtual 323, 3) := by decide +kernel
theorem dX11_say_193 : decode cX11_say 193 = .ok (.aload_n 0, 1) := by decide +kernel
theorem dX11_say_194 : decode cX11_say 194 = .ok (.getfield 236, 3) := by decide +kernel
theorem dX11_say_197 : decode cX11_say 197 = .ok (.ireturn, 1) := by decide +kernel
theorem dX11_shown_0 : decode cX11_shown 0 = .ok (.aload_n 0, 1) := by decide +kernel
theorem dX11_shown_1 : decode cX11_shown 1 = .ok (.iconst 0, 1) := by decide +kernel
theorem dX11_shown_2 : decode cX11_shown 2 = .ok (.putfield 80, 3) := by decide +kernel
theorem dX11_shown_5 : decode cX11_shown 5 = .ok (.iload_n 1, 1) := by decide +kernel
theorem dX11_shown_6 : decode cX11_shown 6 = .ok (.i2l, 1) := by decide +kernel
theorem dX11_shown_7 : decode cX11_shown 7 = .ok (.lconst 0, 1) := by decide +kernel
theorem dX11_shown_8 : decode cX11_shown 8 = .ok (.aload_n 0, 1) := by decide +kernel
theorem dX11_shown_9 : decode cX11_shown 9 = .ok (.invokevirtual 358, 3) := by decide +kernel
theorem dX11_shown_12 : decode cX11_shown 12 = .ok (.iconst 1, 1) := by decide +kernel
theorem dX11_shown_13 : decode cX11_shown 13 = .ok (.isub, 1) := by decide +kernel
theorem dX11_shown_14 : decode cX11_shown 14 = .ok (.i2l, 1) := by decide +kernel
theorem dX11_shown_15 : decode cX11_shown 15 = .ok (.invokestatic 132, 3) := by decide +kernel
theorem dX11_shown_18 : decode cX11_shown 18 = .ok (.ifCond .ne 5, 3) := by decide +kernel
theorem dX11_shown_21 : decode cX11_shown 21 = .ok (.iconst (-1), 1) := by decide +kernel
theorem dX11_shown_22 : decode cX11_shown 22 = .ok (.ireturn, 1) := by decide +kernel
theorem dX11_shown_23 : decode cX11_shown 23 = .ok (.iload_n 1, 1) := by decide +kernel
theorem dX11_shown_24 : decode cX11_shown 24 = .ok (.aload_n 0, 1) := by decide +kernel
theorem dX11_shown_25 : decode cX11_shown 25 = .ok (.getfield 215, 3) := by decide +kernel
theorem dX11_shown_28 : decode cX11_shown 28 = .ok (.irem, 1) := by decide +kernel
theorem dX11_shown_29 : decode cX11_shown 29 = .ok (.istore_n 3, 1) := by decide +kernel
theorem dX11_shown_30 : decode cX11_shown 30 = .ok (.aload_n 0, 1) := by decide +kernel
theorem dX11_shown_31 : decode cX11_shown 31 = .ok (.iconst 0, 1) := by decide +kernel
theorem dX11_shown_32 : decode cX11_shown 32 = .ok (.putfield 448, 3) := by decide +kernel
theorem dX11_shown_35 : decode cX11_shown 35 = .ok (.aload_n 0, 1) := by decide +kernel
theorem dX11_shown_36 : decode cX11_shown 36 = .ok (.ldc_w 423, 3) := by decide +kernel
theorem dX11_shown_39 : decode cX11_shown 39 = .ok (.invokevirtual 453, 3) := by decide +kernel
theorem dX11_shown_42 : decode cX11_shown 42 = .ok (.aload_n 0, 1) := by decide +kernel
theorem dX11_shown_43 : decode cX11_shown 43 = .ok (.bipush 48, 2) := by decide +kernel
theorem dX11_shown_45 : decode cX11_shown 45 = .ok (.iload_n 1, 1) := by decide +kernel
theorem dX11_shown_46 : decode cX11_shown 46 = .ok (.iadd, 1) := by decide +kernel
theorem dX11_shown_47 : decode cX11_shown 47 = .ok (.invokevirtual 451, 3) := by decide +kernel
theorem dX11_shown_50 : decode cX11_shown 50 = .ok (.aload_n 0, 1) := by decide +kernel
theorem dX11_shown_51 : decode cX11_shown 51 = .ok (.ldc_w 456, 3) := by decide +kernel
theorem dX11_shown_54 : decode cX11_shown 54 = .ok (.invokevirtual 453, 3) := by decide +kernel
theorem dX11_shown_57 : decode cX11_shown 57 = .ok (.aload_n 0, 1) := by decide +kernel
theorem dX11_shown_58 : decode cX11_shown 58 = .ok (.bipush 48, 2) := by decide +kernel
theorem dX11_shown_60 : decode cX11_shown 60 = .ok (.iload_n 3, 1) := by decide +kernel
theorem dX11_shown_61 : decode cX11_shown 61 = .ok (.iadd, 1) := by decide +kernel
theorem dX11_shown_62 : decode cX11_shown 62 = .ok (.invokevirtual 451, 3) := by decide +kernel
theorem dX11_shown_65 : decode cX11_shown 65 = .ok (.iconst 0, 1) := by decide +kernel
theorem dX11_shown_66 : decode cX11_shown 66 = .ok (.istore 4, 2) := by decide +kernel
theorem dX11_shown_68 : decode cX11_shown 68 = .ok (.iload 4, 2) := by decide +kernel
theorem dX11_shown_70 : decode cX11_shown 70 = .ok (.aload_n 0, 1) := by decide +kernel
theorem dX11_shown_71 : decode cX11_shown 71 = .ok (.getfield 215, 3) := by decide +kernel
theorem dX11_shown_74 : decode cX11_shown 74 = .ok (.if_icmp .ge 130, 3) := by decide +kernel
theorem dX11_shown_77 : decode cX11_shown 77 = .ok (.iload_n 1, 1) := by decide +kernel
theorem dX11_shown_78 : decode cX11_shown 78 = .ok (.iload 4, 2) := by decide +kernel
theorem dX11_shown_80 : decode cX11_shown 80 = .ok (.invokestatic 332, 3) := by decide +kernel
theorem dX11_shown_83 : decode cX11_shown 83 = .ok (.istore 5, 2) := by decide +kernel
theorem dX11_shown_85 : decode cX11_shown 85 = .ok (.aload_n 0, 1) := by decide +kernel
theorem dX11_shown_86 : decode cX11_shown 86 = .ok (.ldc_w 458, 3) := by decide +kernel
theorem dX11_shown_89 : decode cX11_shown 89 = .ok (.invokevirtual 453, 3) := by decide +kernel
theorem dX11_shown_92 : decode cX11_shown 92 = .ok (.aload_n 0, 1) := by decide +kernel
theorem dX11_shown_93 : decode cX11_shown 93 = .ok (.iload 4, 2) := by decide +kernel
theorem dX11_shown_95 : decode cX11_shown 95 = .ok (.invokevirtual 363, 3) := by decide +kernel
theorem dX11_shown_98 : decode cX11_shown 98 = .ok (.ifCond .ne 9, 3) := by decide +kernel
theorem dX11_shown_101 : decode cX11_shown 101 = .ok (.aload_n 0, 1) := by decide +kernel
theorem dX11_shown_102 : decode cX11_shown 102 = .ok (.bipush 120, 2) := by decide +kernel
theorem dX11_shown_104 : decode cX11_shown 104 = .ok (.invokevirtual 451, 3) := by decide +kernel
theorem dX11_shown_107 : decode cX11_shown 107 = .ok (.aload_n 0, 1) := by decide +kernel
theorem dX11_shown_108 : decode cX11_shown 108 = .ok (.bipush 48, 2) := by decide +kernel
theorem dX11_shown_110 : decode cX11_shown 110 = .ok (.iload 4, 2) := by decide +kernel
theorem dX11_shown_112 : decode cX11_shown 112 = .ok (.iadd, 1) := by decide +kernel
theorem dX11_shown_113 : decode cX11_shown 113 = .ok (.invokevirtual 451, 3) := by decide +kernel
theorem dX11_shown_116 : decode cX11_shown 116 = .ok (.aload_n 0, 1) := by decide +kernel
theorem dX11_shown_117 : decode cX11_shown 117 = .ok (.bipush 61, 2) := by decide +kernel
theorem dX11_shown_119 : decode cX11_shown 119 = .ok (.invokevirtual 451, 3) := by decide +kernel
theorem dX11_shown_122 : decode cX11_shown 122 = .ok (.aload_n 0, 1) := by decide +kernel
theorem dX11_shown_123 : decode cX11_shown 123 = .ok (.bipush 48, 2) := by decide +kernel
theorem dX11_shown_125 : decode cX11_shown 125 = .ok (.aload_n 0, 1) := by decide +kernel
theorem dX11_shown_126 : decode cX11_shown 126 = .ok (.getfield 57, 3) := by decide +kernel
theorem dX11_shown_129 : decode cX11_shown 129 = .ok (.iload 5, 2) := by decide +kernel
theorem dX11_shown_131 : decode cX11_shown 131 = .ok (.iaload, 1) := by decide +kernel
theorem dX11_shown_132 : decode cX11_shown 132 = .ok (.iadd, 1) := by decide +kernel
theorem dX11_shown_133 : decode cX11_shown 133 = .ok (.invokevirtual 451, 3) := by decide +kernel
theorem dX11_shown_136 : decode cX11_shown 136 = .ok (.aload_n 0, 1) := by decide +kernel
theorem dX11_shown_137 : decode cX11_shown 137 = .ok (.getfield 57, 3) := by decide +kernel
theorem dX11_shown_140 : decode cX11_shown 140 = .ok (.iload 5, 2) := by decide +kernel
theorem dX11_shown_142 : decode cX11_shown 142 = .ok (.iconst 1, 1) := by decide +kernel
theorem dX11_shown_143 : decode cX11_shown 143 = .ok (.iadd, 1) := by decide +kernel
theorem dX11_shown_144 : decode cX11_shown 144 = .ok (.iaload, 1) := by decide +kernel
theorem dX11_shown_145 : decode cX11_shown 145 = .ok (.iconst 1, 1) := by decide +kernel
theorem dX11_shown_146 : decode cX11_shown 146 = .ok (.if_icmp .ne 9, 3) := by decide +kernel
theorem dX11_shown_149 : decode cX11_shown 149 = .ok (.aload_n 0, 1) := by decide +kernel
theorem dX11_shown_150 : decode cX11_shown 150 = .ok (.bipush 33, 2) := by decide +kernel
theorem dX11_shown_152 : decode cX11_shown 152 = .ok (.invokevirtual 451, 3) := by decide +kernel
theorem dX11_shown_155 : decode cX11_shown 155 = .ok (.aload_n 0, 1) := by decide +kernel
theorem dX11_shown_156 : decode cX11_shown 156 = .ok (.getfield 57, 3) := by decide +kernel
theorem dX11_shown_159 : decode cX11_shown 159 = .ok (.iload 5, 2) := by decide +kernel
theorem dX11_shown_161 : decode cX11_shown 161 = .ok (.bipush 7, 2) := by decide +kernel
theorem dX11_shown_163 : decode cX11_shown 163 = .ok (.iadd, 1) := by decide +kernel
theorem dX11_shown_164 : decode cX11_shown 164 = .ok (.iaload, 1) := by decide +kernel
theorem dX11_shown_165 : decode cX11_shown 165 = .ok (.iconst 1, 1) := by decide +kernel
theorem dX11_shown_166 : decode cX11_shown 166 = .ok (.if_icmp .ne 9, 3) := by decide +kernel
theorem dX11_shown_169 : decode cX11_shown 169 = .ok (.aload_n 0, 1) := by decide +kernel
theorem dX11_shown_170 : decode cX11_shown 170 = .ok (.bipush 60, 2) := by decide +kernel
theorem dX11_shown_172 : decode cX11_shown 172 = .ok (.invokevirtual 451, 3) := by decide +kernel
theorem dX11_shown_175 : decode cX11_shown 175 = .ok (.aload_n 0, 1) := by decide +kernel
theorem dX11_shown_176 : decode cX11_shown 176 = .ok (.getfield 57, 3) := by decide +kernel
theorem dX11_shown_179 : decode cX11_shown 179 = .ok (.bipush 9, 2) := by decide +kernel
theorem dX11_shown_181 : decode cX11_shown 181 = .ok (.iload 4, 2) := by decide +kernel
theorem dX11_shown_183 : decode cX11_shown 183 = .ok (.iadd, 1) := by decide +kernel
theorem dX11_shown_184 : decode cX11_shown 184 = .ok (.iaload, 1) := by decide +kernel
theorem dX11_shown_185 : decode cX11_shown 185 = .ok (.iload_n 3, 1) := by decide +kernel
theorem dX11_shown_186 : decode cX11_shown 186 = .ok (.invokestatic 161, 3) := by decide +kernel
theorem dX11_shown_189 : decode cX11_shown 189 = .ok (.ifCond .eq 9, 3) := by decide +kernel
theorem dX11_shown_192 : decode cX11_shown 192 = .ok (.aload_n 0, 1) := by decide +kernel
theorem dX11_shown_193 : decode cX11_shown 193 = .ok (.bipush 63, 2) := by decide +kernel
theorem dX11_shown_195 : decode cX11_shown 195 = .ok (.invokevirtual 451, 3) := by decide +kernel
theorem dX11_shown_198 : decode cX11_shown 198 = .ok (.iinc 4 1, 3) := by decide +kernel
theorem dX11_shown_201 : decode cX11_shown 201 = .ok (.goto (-133), 3) := by decide +kernel
theorem dX11_shown_204 : decode cX11_shown 204 = .ok (.iload_n 2, 1) := by decide +kernel
theorem dX11_shown_205 : decode cX11_shown 205 = .ok (.iconst (-1), 1) := by decide +kernel
theorem dX11_shown_206 : decode cX11_shown 206 = .ok (.if_icmp .ne 10, 3) := by decide +kernel
theorem dX11_shown_209 : decode cX11_shown 209 = .ok (.aload_n 0, 1) := by decide +kernel
theorem dX11_shown_210 : decode cX11_shown 210 = .ok (.getfield 448, 3) := by decide +kernel
theorem dX11_shown_213 : decode cX11_shown 213 = .ok (.goto 29, 3) := by decide +kernel
theorem dX11_shown_216 : decode cX11_shown 216 = .ok (.iload_n 2, 1) := by decide +kernel
theorem dX11_shown_217 : decode cX11_shown 217 = .ok (.i2l, 1) := by decide +kernel
theorem dX11_shown_218 : decode cX11_shown 218 = .ok (.lconst 0, 1) := by decide +kernel
theorem dX11_shown_219 : decode cX11_shown 219 = .ok (.aload_n 0, 1) := by decide +kernel
theorem dX11_shown_220 : decode cX11_shown 220 = .ok (.getfield 448, 3) := by decide +kernel
theorem dX11_shown_223 : decode cX11_shown 223 = .ok (.iconst 1, 1) := by decide +kernel
theorem dX11_shown_224 : decode cX11_shown 224 = .ok (.isub, 1) := by decide +kernel
theorem dX11_shown_225 : decode cX11_shown 225 = .ok (.i2l, 1) := by decide +kernel
theorem dX11_shown_226 : decode cX11_shown 226 = .ok (.invokestatic 132, 3) := by decide +kernel
theorem dX11_shown_229 : decode cX11_shown 229 = .ok (.ifCond .eq 12, 3) := by decide +kernel
theorem dX11_shown_232 : decode cX11_shown 232 = .ok (.aload_n 0, 1) := by decide +kernel
theorem dX11_shown_233 : decode cX11_shown 233 = .ok (.getfield 77, 3) := by decide +kernel
theorem dX11_shown_236 : decode cX11_shown 236 = .ok (.iload_n 2, 1) := by decide +kernel
theorem dX11_shown_237 : decode cX11_shown 237 = .ok (.iaload, 1) := by decide +kernel
theorem dX11_shown_238 : decode cX11_shown 238 = .ok (.goto 4, 3) := by decide +kernel
theorem dX11_shown_241 : decode cX11_shown 241 = .ok (.iconst (-1), 1) := by decide +kernel
theorem dX11_shown_242 : decode cX11_shown 242 = .ok (.ireturn, 1) := by decide +kernel
theorem dX11_starts__0 : decode cX11_starts_ 0 = .ok (.aload_n 0, 1) := by decide +kernel
theorem dX11_starts__1 : decode cX11_starts_ 1 = .ok (.iconst 0, 1) := by decide +kernel
theorem dX11_starts__2 : decode cX11_starts_ 2 = .ok (.putfield 80, 3) := by decide +kernel
theorem dX11_starts__5 : decode cX11_starts_ 5 = .ok (.aload_n 0, 1) := by decide +kernel
theorem dX11_starts__6 : decode cX11_starts_ 6 = .ok (.getfield 232, 3) := by decide +kernel
theorem dX11_starts__9 : decode cX11_starts_ 9 = .ok (.ifCond .ne 9, 3) := by decide +kernel
theorem dX11_starts__12 : decode cX11_starts_ 12 = .ok (.aload_n 0, 1) := by decide +kernel
theorem dX11_starts__13 : decode cX11_starts_ 13 = .ok (.iconst 0, 1) := by decide +kernel
theorem dX11_starts__14 : decode cX11_starts_ 14 = .ok (.invokevirtual 341, 3) := by decide +kernel
theorem dX11_starts__17 : decode cX11_starts_ 17 = .ok (.ireturn, 1) := by decide +kernel
theorem dX11_starts__18 : decode cX11_starts_ 18 = .ok (.iload_n 1, 1) := by decide +kernel
theorem dX11_starts__19 : decode cX11_starts_ 19 = .ok (.i2l, 1) := by decide +kernel
theorem dX11_starts__20 : decode cX11_starts_ 20 = .ok (.lconst 0, 1) := by decide +kernel
theorem dX11_starts__21 : decode cX11_starts_ 21 = .ok (.iconst 1, 1) := by decide +kernel
theorem dX11_starts__22 : decode cX11_starts_ 22 = .ok (.aload_n 0, 1) := by decide +kernel
theorem dX11_starts__23 : decode cX11_starts_ 23 = .ok (.getfield 215, 3) := by decide +kernel
theorem dX11_starts__26 : decode cX11_starts_ 26 = .ok (.ishl, 1) := by decide +kernel
theorem dX11_starts__27 : decode cX11_starts_ 27 = .ok (.iconst 1, 1) := by decide +kernel
theorem dX11_starts__28 : decode cX11_starts_ 28 = .ok (.isub, 1) := by decide +kernel
theorem dX11_starts__29 : decode cX11_starts_ 29 = .ok (.i2l, 1) := by decide +kernel
theorem dX11_starts__30 : decode cX11_starts_ 30 = .ok (.invokestatic 132, 3) := by decide +kernel
theorem dX11_starts__33 : decode cX11_starts_ 33 = .ok (.ifCond .ne 9, 3) := by decide +kernel
theorem dX11_starts__36 : decode cX11_starts_ 36 = .ok (.aload_n 0, 1) := by decide +kernel
theorem dX11_starts__37 : decode cX11_starts_ 37 = .ok (.iconst 1, 1) := by decide +kernel
theorem dX11_starts__38 : decode cX11_starts_ 38 = .ok (.invokevirtual 341, 3) := by decide +kernel
theorem dX11_starts__41 : decode cX11_starts_ 41 = .ok (.ireturn, 1) := by decide +kernel
theorem dX11_starts__42 : decode cX11_starts_ 42 = .ok (.aload_n 0, 1) := by decide +kernel
theorem dX11_starts__43 : decode cX11_starts_ 43 = .ok (.invokevirtual 329, 3) := by decide +kernel
theorem dX11_starts__46 : decode cX11_starts_ 46 = .ok (.aload_n 0, 1) := by decide +kernel
theorem dX11_starts__47 : decode cX11_starts_ 47 = .ok (.getfield 251, 3) := by decide +kernel
theorem dX11_starts__50 : decode cX11_starts_ 50 = .ok (.ifCond .le 9, 3) := by decide +kernel
theorem dX11_starts__53 : decode cX11_starts_ 53 = .ok (.aload_n 0, 1) := by decide +kernel
theorem dX11_starts__54 : decode cX11_starts_ 54 = .ok (.iconst 3, 1) := by decide +kernel
theorem dX11_starts__55 : decode cX11_starts_ 55 = .ok (.invokevirtual 341, 3) := by decide +kernel
theorem dX11_starts__58 : decode cX11_starts_ 58 = .ok (.ireturn, 1) := by decide +kernel
theorem dX11_starts__59 : decode cX11_starts_ 59 = .ok (.aload_n 0, 1) := by decide +kernel
theorem dX11_starts__60 : decode cX11_starts_ 60 = .ok (.invokevirtual 326, 3) := by decide +kernel
theorem dX11_starts__63 : decode cX11_starts_ 63 = .ok (.aload_n 0, 1) := by decide +kernel
theorem dX11_starts__64 : decode cX11_starts_ 64 = .ok (.getfield 224, 3) := by decide +kernel
theorem dX11_starts__67 : decode cX11_starts_ 67 = .ok (.istore_n 2, 1) := by decide +kernel
theorem dX11_starts__68 : decode cX11_starts_ 68 = .ok (.aload_n 0, 1) := by decide +kernel
theorem dX11_starts__69 : decode cX11_starts_ 69 = .ok (.iload_n 1, 1) := by decide +kernel
theorem dX11_starts__70 : decode cX11_starts_ 70 = .ok (.putfield 224, 3) := by decide +kernel
theorem dX11_starts__73 : decode cX11_starts_ 73 = .ok (.aload_n 0, 1) := by decide +kernel
theorem dX11_starts__74 : decode cX11_starts_ 74 = .ok (.invokevirtual 314, 3) := by decide +kernel
theorem dX11_starts__77 : decode cX11_starts_ 77 = .ok (.aload_n 0, 1) := by decide +kernel
theorem dX11_starts__78 : decode cX11_starts_ 78 = .ok (.invokevirtual 323, 3) := by decide +kernel
theorem dX11_starts__81 : decode cX11_starts_ 81 = .ok (.iload_n 2, 1) := by decide +kernel
theorem dX11_starts__82 : decode cX11_starts_ 82 = .ok (.ireturn, 1) := by decide +kernel
theorem dX11_state_0 : decode cX11_state 0 = .ok (.aload_n 0, 1) := by decide +kernel
theorem dX11_state_1 : decode cX11_state 1 = .ok (.iconst 0, 1) := by decide +kernel
theorem dX11_state_2 : decode cX11_state 2 = .ok (.putfield 80, 3) := by decide +kernel
theorem dX11_state_5 : decode cX11_state 5 = .ok (.aload_n 0, 1) := by decide +kernel
theorem dX11_state_6 : decode cX11_state 6 = .ok (.getfield 232, 3) := by decide +kernel
theorem dX11_state_9 : decode cX11_state 9 = .ok (.ifCond .ne 5, 3) := by decide +kernel
theorem dX11_state_12 : decode cX11_state 12 = .ok (.iconst (-1), 1) := by decide +kernel
theorem dX11_state_13 : decode cX11_state 13 = .ok (.ireturn, 1) := by decide +kernel
theorem dX11_state_14 : decode cX11_state 14 = .ok (.aload_n 0, 1) := by decide +kernel
theorem dX11_state_15 : decode cX11_state 15 = .ok (.invokevirtual 358, 3) := by decide +kernel
theorem dX11_state_18 : decode cX11_state 18 = .ok (.iconst 1, 1) := by decide +kernel
theorem dX11_state_19 : decode cX11_state 19 = .ok (.isub, 1) := by decide +kernel
theorem dX11_state_20 : decode cX11_state 20 = .ok (.istore_n 2, 1) := by decide +kernel
theorem dX11_state_21 : decode cX11_state 21 = .ok (.iload_n 1, 1) := by decide +kernel
theorem dX11_state_22 : decode cX11_state 22 = .ok (.tableswitch 86 0 3 #[30, 44, 50, 72], 30) := by decide +kernel
theorem dX11_state_52 : decode cX11_state 52 = .ok (.aload_n 0, 1) := by decide +kernel
theorem dX11_state_53 : decode cX11_state 53 = .ok (.iload_n 2, 1) := by decide +kernel
theorem dX11_state_54 : decode cX11_state 54 = .ok (.invokevirtual 369, 3) := by decide +kernel
theorem dX11_state_57 : decode cX11_state 57 = .ok (.ifCond .eq 7, 3) := by decide +kernel
theorem dX11_state_60 : decode cX11_state 60 = .ok (.iconst 1, 1) := by decide +kernel
theorem dX11_state_61 : decode cX11_state 61 = .ok (.goto 4, 3) := by decide +kernel
theorem dX11_state_64 : decode cX11_state 64 = .ok (.iconst 0, 1) := by decide +kernel
theorem dX11_state_65 : decode cX11_state 65 = .ok (.ireturn, 1) := by decide +kernel
theorem dX11_state_66 : decode cX11_state 66 = .ok (.aload_n 0, 1) := by decide +kernel
theorem dX11_state_67 : decode cX11_state 67 = .ok (.iload_n 2, 1) := by decide +kernel
theorem dX11_state_68 : decode cX11_state 68 = .ok (.invokevirtual 372, 3) := by decide +kernel
theorem dX11_state_71 : decode cX11_state 71 = .ok (.ireturn, 1) := by decide +kernel
theorem dX11_state_72 : decode cX11_state 72 = .ok (.aload_n 0, 1) := by decide +kernel
theorem dX11_state_73 : decode cX11_state 73 = .ok (.iload_n 2, 1) := by decide +kernel
theorem dX11_state_74 : decode cX11_state 74 = .ok (.invokevirtual 369, 3) := by decide +kernel
theorem dX11_state_77 : decode cX11_state 77 = .ok (.ifCond .eq 15, 3) := by decide +kernel
theorem dX11_state_80 : decode cX11_state 80 = .ok (.aload_n 0, 1) := by decide +kernel
theorem dX11_state_81 : decode cX11_state 81 = .ok (.iload_n 2, 1) := by decide +kernel
theorem dX11_state_82 : decode cX11_state 82 = .ok (.invokevirtual 375, 3) := by decide +kernel
theorem dX11_state_85 : decode cX11_state 85 = .ok (.ifCond .eq 7, 3) := by decide +kernel
theorem dX11_state_88 : decode cX11_state 88 = .ok (.iconst 1, 1) := by decide +kernel
theorem dX11_state_89 : decode cX11_state 89 = .ok (.goto 4, 3) := by decide +kernel
theorem dX11_state_92 : decode cX11_state 92 = .ok (.iconst 0, 1) := by decide +kernel
theorem dX11_state_93 : decode cX11_state 93 = .ok (.ireturn, 1) := by decide +kernel
theorem dX11_state_94 : decode cX11_state 94 = .ok (.aload_n 0, 1) := by decide +kernel
theorem dX11_state_95 : decode cX11_state 95 = .ok (.iconst (-1), 1) := by decide +kernel
theorem dX11_state_96 : decode cX11_state 96 = .ok (.invokevirtual 369, 3) := by decide +kernel
theorem dX11_state_99 : decode cX11_state 99 = .ok (.ifCond .eq 7, 3) := by decide +kernel
theorem dX11_state_102 : decode cX11_state 102 = .ok (.iconst 1, 1) := by decide +kernel
theorem dX11_state_103 : decode cX11_state 103 = .ok (.goto 4, 3) := by decide +kernel
theorem dX11_state_106 : decode cX11_state 106 = .ok (.iconst 0, 1) := by decide +kernel
theorem dX11_state_107 : decode cX11_state 107 = .ok (.ireturn, 1) := by decide +kernel
theorem dX11_state_108 : decode cX11_state 108 = .ok (.iconst (-1), 1) := by decide +kernel
theorem dX11_state_109 : decode cX11_state 109 = .ok (.ireturn, 1) := by decide +kernel
theorem dX11_status_0 : decode cX11_status 0 = .ok (.aload_n 0, 1) := by decide +kernel
theorem dX11_status_1 : decode cX11_status 1 = .ok (.iconst 0, 1) := by decide +kernel
theorem dX11_status_2 : decode cX11_status 2 = .ok (.putfield 80, 3) := by decide +kernel
theorem dX11_status_5 : decode cX11_status 5 = .ok (.iload_n 1, 1) := by decide +kernel
theorem dX11_status_6 : decode cX11_status 6 = .ok (.i2l, 1) := by decide +kernel
theorem dX11_status_7 : decode cX11_status 7 = .ok (.lconst 0, 1) := by decide +kernel
theorem dX11_status_8 : decode cX11_status 8 = .ok (.ldc2_w 355, 3) := by decide +kernel
theorem dX11_status_11 : decode cX11_status 11 = .ok (.invokestatic 132, 3) := by decide +kernel
theorem dX11_status_14 : decode cX11_status 14 = .ok (.ifCond .eq 12, 3) := by decide +kernel
theorem dX11_status_17 : decode cX11_status 17 = .ok (.aload_n 0, 1) := by decide +kernel
theorem dX11_status_18 : decode cX11_status 18 = .ok (.getfield 71, 3) := by decide +kernel
theorem dX11_status_21 : decode cX11_status 21 = .ok (.iload_n 1, 1) := by decide +kernel
theorem dX11_status_22 : decode cX11_status 22 = .ok (.iaload, 1) := by decide +kernel
theorem dX11_status_23 : decode cX11_status 23 = .ok (.goto 4, 3) := by decide +kernel
theorem dX11_status_26 : decode cX11_status 26 = .ok (.iconst (-1), 1) := by decide +kernel
theorem dX11_status_27 : decode cX11_status 27 = .ok (.ireturn, 1) := by decide +kernel
theorem dX11_takes_0 : decode cX11_takes 0 = .ok (.aload_n 0, 1) := by decide +kernel
theorem dX11_takes_1 : decode cX11_takes 1 = .ok (.invokevirtual 105, 3) := by decide +kernel
theorem dX11_takes_4 : decode cX11_takes 4 = .ok (.istore_n 2, 1) := by decide +kernel
theorem dX11_takes_5 : decode cX11_takes 5 = .ok (.iconst 0, 1) := by decide +kernel
theorem dX11_takes_6 : decode cX11_takes 6 = .ok (.istore_n 3, 1) := by decide +kernel
theorem dX11_takes_7 : decode cX11_takes 7 = .ok (.iload_n 3, 1) := by decide +kernel
theorem dX11_takes_8 : decode cX11_takes 8 = .ok (.aload_n 1, 1) := by decide +kernel
theorem dX11_takes_9 : decode cX11_takes 9 = .ok (.invokevirtual 108, 3) := by decide +kernel
theorem dX11_takes_12 : decode cX11_takes 12 = .ok (.if_icmp .ge 43, 3) := by decide +kernel
theorem dX11_takes_15 : decode cX11_takes 15 = .ok (.aload_n 0, 1) := by decide +kernel
theorem dX11_takes_16 : decode cX11_takes 16 = .ok (.getfield 95, 3) := by decide +kernel
theorem dX11_takes_19 : decode cX11_takes 19 = .ok (.iload_n 3, 1) := by decide +kernel
theorem dX11_takes_20 : decode cX11_takes 20 = .ok (.iadd, 1) := by decide +kernel
theorem dX11_takes_21 : decode cX11_takes 21 = .ok (.aload_n 0, 1) := by decide +kernel
theorem dX11_takes_22 : decode cX11_takes 22 = .ok (.getfield 84, 3) := by decide +kernel
theorem dX11_takes_25 : decode cX11_takes 25 = .ok (.if_icmp .ge 22, 3) := by decide +kernel
theorem dX11_takes_28 : decode cX11_takes 28 = .ok (.aload_n 0, 1) := by decide +kernel
theorem dX11_takes_29 : decode cX11_takes 29 = .ok (.getfield 9, 3) := by decide +kernel
theorem dX11_takes_32 : decode cX11_takes 32 = .ok (.aload_n 0, 1) := by decide +kernel
theorem dX11_takes_33 : decode cX11_takes 33 = .ok (.getfield 95, 3) := by decide +kernel
theorem dX11_takes_36 : decode cX11_takes 36 = .ok (.iload_n 3, 1) := by decide +kernel
theorem dX11_takes_37 : decode cX11_takes 37 = .ok (.iadd, 1) := by decide +kernel
theorem dX11_takes_38 : decode cX11_takes 38 = .ok (.baload, 1) := by decide +kernel
theorem dX11_takes_39 : decode cX11_takes 39 = .ok (.aload_n 1, 1) := by decide +kernel
theorem dX11_takes_40 : decode cX11_takes 40 = .ok (.iload_n 3, 1) := by decide +kernel
theorem dX11_takes_41 : decode cX11_takes 41 = .ok (.invokevirtual 112, 3) := by decide +kernel
theorem dX11_takes_44 : decode cX11_takes 44 = .ok (.if_icmp .eq 5, 3) := by decide +kernel
theorem dX11_takes_47 : decode cX11_takes 47 = .ok (.iconst 0, 1) := by decide +kernel
theorem dX11_takes_48 : decode cX11_takes 48 = .ok (.ireturn, 1) := by decide +kernel
theorem dX11_takes_49 : decode cX11_takes 49 = .ok (.iinc 3 1, 3) := by decide +kernel
theorem dX11_takes_52 : decode cX11_takes 52 = .ok (.goto (-45), 3) := by decide +kernel
theorem dX11_takes_55 : decode cX11_takes 55 = .ok (.aload_n 0, 1) := by decide +kernel
theorem dX11_takes_56 : decode cX11_takes 56 = .ok (.getfield 95, 3) := by decide +kernel
theorem dX11_takes_59 : decode cX11_takes 59 = .ok (.aload_n 1, 1) := by decide +kernel
theorem dX11_takes_60 : decode cX11_takes 60 = .ok (.invokevirtual 108, 3) := by decide +kernel
theorem dX11_takes_63 : decode cX11_takes 63 = .ok (.iadd, 1) := by decide +kernel
theorem dX11_takes_64 : decode cX11_takes 64 = .ok (.istore_n 3, 1) := by decide +kernel
theorem dX11_takes_65 : decode cX11_takes 65 = .ok (.iload_n 3, 1) := by decide +kernel
theorem dX11_takes_66 : decode cX11_takes 66 = .ok (.aload_n 0, 1) := by decide +kernel
theorem dX11_takes_67 : decode cX11_takes 67 = .ok (.getfield 84, 3) := by decide +kernel
theorem dX11_takes_70 : decode cX11_takes 70 = .ok (.if_icmp .ge 27, 3) := by decide +kernel
theorem dX11_takes_73 : decode cX11_takes 73 = .ok (.aload_n 0, 1) := by decide +kernel
theorem dX11_takes_74 : decode cX11_takes 74 = .ok (.getfield 9, 3) := by decide +kernel
theorem dX11_takes_77 : decode cX11_takes 77 = .ok (.iload_n 3, 1) := by decide +kernel
theorem dX11_takes_78 : decode cX11_takes 78 = .ok (.baload, 1) := by decide +kernel
theorem dX11_takes_79 : decode cX11_takes 79 = .ok (.bipush 97, 2) := by decide +kernel
theorem dX11_takes_81 : decode cX11_takes 81 = .ok (.if_icmp .lt 16, 3) := by decide +kernel
theorem dX11_takes_84 : decode cX11_takes 84 = .ok (.aload_n 0, 1) := by decide +kernel
theorem dX11_takes_85 : decode cX11_takes 85 = .ok (.getfield 9, 3) := by decide +kernel
theorem dX11_takes_88 : decode cX11_takes 88 = .ok (.iload_n 3, 1) := by decide +kernel
theorem dX11_takes_89 : decode cX11_takes 89 = .ok (.baload, 1) := by decide +kernel
theorem dX11_takes_90 : decode cX11_takes 90 = .ok (.bipush 122, 2) := by decide +kernel
theorem dX11_takes_92 : decode cX11_takes 92 = .ok (.if_icmp .gt 5, 3) := by decide +kernel
theorem dX11_takes_95 : decode cX11_takes 95 = .ok (.iconst 0, 1) := by decide +kernel
theorem dX11_takes_96 : decode cX11_takes 96 = .ok (.ireturn, 1) := by decide +kernel
theorem dX11_takes_97 : decode cX11_takes 97 = .ok (.aload_n 0, 1) := by decide +kernel
theorem dX11_takes_98 : decode cX11_takes 98 = .ok (.iload_n 3, 1) := by decide +kernel
theorem dX11_takes_99 : decode cX11_takes 99 = .ok (.putfield 95, 3) := by decide +kernel
theorem dX11_takes_102 : decode cX11_takes 102 = .ok (.iconst 1, 1) := by decide +kernel
theorem dX11_takes_103 : decode cX11_takes 103 = .ok (.ireturn, 1) := by decide +kernel
theorem dX11_thrown_0 : decode cX11_thrown 0 = .ok (.aload_n 0, 1) := by decide +kernel
theorem dX11_thrown_1 : decode cX11_thrown 1 = .ok (.getfield 80, 3) := by decide +kernel
theorem dX11_thrown_4 : decode cX11_thrown 4 = .ok (.ireturn, 1) := by decide +kernel
theorem dX11_told_0 : decode cX11_told 0 = .ok (.aload_n 0, 1) := by decide +kernel
theorem dX11_told_1 : decode cX11_told 1 = .ok (.iconst 0, 1) := by decide +kernel
theorem dX11_told_2 : decode cX11_told 2 = .ok (.putfield 80, 3) := by decide +kernel
theorem dX11_told_5 : decode cX11_told 5 = .ok (.aload_n 0, 1) := by decide +kernel
theorem dX11_told_6 : decode cX11_told 6 = .ok (.iload_n 1, 1) := by decide +kernel
theorem dX11_told_7 : decode cX11_told 7 = .ok (.invokevirtual 347, 3) := by decide +kernel
theorem dX11_told_10 : decode cX11_told 10 = .ok (.ifCond .eq 46, 3) := by decide +kernel
theorem dX11_told_13 : decode cX11_told 13 = .ok (.iload_n 2, 1) := by decide +kernel
theorem dX11_told_14 : decode cX11_told 14 = .ok (.i2l, 1) := by decide +kernel
theorem dX11_told_15 : decode cX11_told 15 = .ok (.lconst 0, 1) := by decide +kernel
theorem dX11_told_16 : decode cX11_told 16 = .ok (.aload_n 0, 1) := by decide +kernel
theorem dX11_told_17 : decode cX11_told 17 = .ok (.invokevirtual 358, 3) := by decide +kernel
theorem dX11_told_20 : decode cX11_told 20 = .ok (.iconst 1, 1) := by decide +kernel
theorem dX11_told_21 : decode cX11_told 21 = .ok (.isub, 1) := by decide +kernel
theorem dX11_told_22 : decode cX11_told 22 = .ok (.i2l, 1) := by decide +kernel
theorem dX11_told_23 : decode cX11_told 23 = .ok (.invokestatic 132, 3) := by decide +kernel
theorem dX11_told_26 : decode cX11_told 26 = .ok (.ifCond .eq 30, 3) := by decide +kernel
theorem dX11_told_29 : decode cX11_told 29 = .ok (.iload_n 3, 1) := by decide +kernel
theorem dX11_told_30 : decode cX11_told 30 = .ok (.i2l, 1) := by decide +kernel
theorem dX11_told_31 : decode cX11_told 31 = .ok (.lconst 0, 1) := by decide +kernel
theorem dX11_told_32 : decode cX11_told 32 = .ok (.ldc2_w 361, 3) := by decide +kernel
theorem dX11_told_35 : decode cX11_told 35 = .ok (.invokestatic 132, 3) := by decide +kernel
theorem dX11_told_38 : decode cX11_told 38 = .ok (.ifCond .eq 18, 3) := by decide +kernel
theorem dX11_told_41 : decode cX11_told 41 = .ok (.aload_n 0, 1) := by decide +kernel
theorem dX11_told_42 : decode cX11_told 42 = .ok (.getfield 57, 3) := by decide +kernel
theorem dX11_told_45 : decode cX11_told 45 = .ok (.iload_n 2, 1) := by decide +kernel
theorem dX11_told_46 : decode cX11_told 46 = .ok (.iload_n 1, 1) := by decide +kernel
theorem dX11_told_47 : decode cX11_told 47 = .ok (.invokestatic 332, 3) := by decide +kernel
theorem dX11_told_50 : decode cX11_told 50 = .ok (.iload_n 3, 1) := by decide +kernel
theorem dX11_told_51 : decode cX11_told 51 = .ok (.iadd, 1) := by decide +kernel
theorem dX11_told_52 : decode cX11_told 52 = .ok (.iaload, 1) := by decide +kernel
theorem dX11_told_53 : decode cX11_told 53 = .ok (.goto 4, 3) := by decide +kernel
theorem dX11_told_56 : decode cX11_told 56 = .ok (.iconst (-1), 1) := by decide +kernel
theorem dX11_told_57 : decode cX11_told 57 = .ok (.ireturn, 1) := by decide +kernel
theorem dX11_trueRuler_0 : decode cX11_trueRuler 0 = .ok (.aload_n 0, 1) := by decide +kernel
theorem dX11_trueRuler_1 : decode cX11_trueRuler 1 = .ok (.iconst 0, 1) := by decide +kernel
theorem dX11_trueRuler_2 : decode cX11_trueRuler 2 = .ok (.putfield 80, 3) := by decide +kernel
theorem dX11_trueRuler_5 : decode cX11_trueRuler 5 = .ok (.iconst 0, 1) := by decide +kernel
theorem dX11_trueRuler_6 : decode cX11_trueRuler 6 = .ok (.istore_n 1, 1) := by decide +kernel
theorem dX11_trueRuler_7 : decode cX11_trueRuler 7 = .ok (.iload_n 1, 1) := by decide +kernel
theorem dX11_trueRuler_8 : decode cX11_trueRuler 8 = .ok (.aload_n 0, 1) := by decide +kernel
theorem dX11_trueRuler_9 : decode cX11_trueRuler 9 = .ok (.getfield 220, 3) := by decide +kernel
theorem dX11_trueRuler_12 : decode cX11_trueRuler 12 = .ok (.if_icmp .ge 31, 3) := by decide +kernel
theorem dX11_trueRuler_15 : decode cX11_trueRuler 15 = .ok (.aload_n 0, 1) := by decide +kernel
theorem dX11_trueRuler_16 : decode cX11_trueRuler 16 = .ok (.getfield 232, 3) := by decide +kernel
theorem dX11_trueRuler_19 : decode cX11_trueRuler 19 = .ok (.ifCond .eq 24, 3) := by decide +kernel
theorem dX11_trueRuler_22 : decode cX11_trueRuler 22 = .ok (.aload_n 0, 1) := by decide +kernel
theorem dX11_trueRuler_23 : decode cX11_trueRuler 23 = .ok (.iload_n 1, 1) := by decide +kernel
theorem dX11_trueRuler_24 : decode cX11_trueRuler 24 = .ok (.aload_n 0, 1) := by decide +kernel
theorem dX11_trueRuler_25 : decode cX11_trueRuler 25 = .ok (.getfield 215, 3) := by decide +kernel
theorem dX11_trueRuler_28 : decode cX11_trueRuler 28 = .ok (.irem, 1) := by decide +kernel
theorem dX11_trueRuler_29 : decode cX11_trueRuler 29 = .ok (.invokevirtual 363, 3) := by decide +kernel
theorem dX11_trueRuler_32 : decode cX11_trueRuler 32 = .ok (.ifCond .eq 5, 3) := by decide +kernel
theorem dX11_trueRuler_35 : decode cX11_trueRuler 35 = .ok (.iload_n 1, 1) := by decide +kernel
theorem dX11_trueRuler_36 : decode cX11_trueRuler 36 = .ok (.ireturn, 1) := by decide +kernel
theorem dX11_trueRuler_37 : decode cX11_trueRuler 37 = .ok (.iinc 1 1, 3) := by decide +kernel
theorem dX11_trueRuler_40 : decode cX11_trueRuler 40 = .ok (.goto (-33), 3) := by decide +kernel
theorem dX11_trueRuler_43 : decode cX11_trueRuler 43 = .ok (.iconst (-1), 1) := by decide +kernel
theorem dX11_trueRuler_44 : decode cX11_trueRuler 44 = .ok (.ireturn, 1) := by decide +kernel
theorem dX11_undo_0 : decode cX11_undo 0 = .ok (.aload_n 0, 1) := by decide +kernel
theorem dX11_undo_1 : decode cX11_undo 1 = .ok (.iconst 0, 1) := by decide +kernel
theorem dX11_undo_2 : decode cX11_undo 2 = .ok (.putfield 80, 3) := by decide +kernel
theorem dX11_undo_5 : decode cX11_undo 5 = .ok (.aload_n 0, 1) := by decide +kernel
theorem dX11_undo_6 : decode cX11_undo 6 = .ok (.getfield 239, 3) := by decide +kernel
theorem dX11_undo_9 : decode cX11_undo 9 = .ok (.ifCond .ne 5, 3) := by decide +kernel
theorem dX11_undo_12 : decode cX11_undo 12 = .ok (.iconst (-1), 1) := by decide +kernel
theorem dX11_undo_13 : decode cX11_undo 13 = .ok (.ireturn, 1) := by decide +kernel
theorem dX11_undo_14 : decode cX11_undo 14 = .ok (.aload_n 0, 1) := by decide +kernel
theorem dX11_undo_15 : decode cX11_undo 15 = .ok (.dup, 1) := by decide +kernel
theorem dX11_undo_16 : decode cX11_undo 16 = .ok (.getfield 239, 3) := by decide +kernel
theorem dX11_undo_19 : decode cX11_undo 19 = .ok (.iconst 1, 1) := by decide +kernel
theorem dX11_undo_20 : decode cX11_undo 20 = .ok (.isub, 1) := by decide +kernel
theorem dX11_undo_21 : decode cX11_undo 21 = .ok (.putfield 239, 3) := by decide +kernel
theorem dX11_undo_24 : decode cX11_undo 24 = .ok (.iconst 0, 1) := by decide +kernel
theorem dX11_undo_25 : decode cX11_undo 25 = .ok (.istore_n 1, 1) := by decide +kernel
theorem dX11_undo_26 : decode cX11_undo 26 = .ok (.iload_n 1, 1) := by decide +kernel
theorem dX11_undo_27 : decode cX11_undo 27 = .ok (.sipush 2126, 3) := by decide +kernel
theorem dX11_undo_30 : decode cX11_undo 30 = .ok (.if_icmp .ge 30, 3) := by decide +kernel
theorem dX11_undo_33 : decode cX11_undo 33 = .ok (.aload_n 0, 1) := by decide +kernel
theorem dX11_undo_34 : decode cX11_undo 34 = .ok (.getfield 57, 3) := by decide +kernel
theorem dX11_undo_37 : decode cX11_undo 37 = .ok (.iload_n 1, 1) := by decide +kernel
theorem dX11_undo_38 : decode cX11_undo 38 = .ok (.aload_n 0, 1) := by decide +kernel
theorem dX11_undo_39 : decode cX11_undo 39 = .ok (.getfield 64, 3) := by decide +kernel
theorem dX11_undo_42 : decode cX11_undo 42 = .ok (.sipush 2126, 3) := by decide +kernel
theorem dX11_undo_45 : decode cX11_undo 45 = .ok (.aload_n 0, 1) := by decide +kernel
theorem dX11_undo_46 : decode cX11_undo 46 = .ok (.getfield 239, 3) := by decide +kernel
theorem dX11_undo_49 : decode cX11_undo 49 = .ok (.imul, 1) := by decide +kernel
theorem dX11_undo_50 : decode cX11_undo 50 = .ok (.iload_n 1, 1) := by decide +kernel
theorem dX11_undo_51 : decode cX11_undo 51 = .ok (.iadd, 1) := by decide +kernel
theorem dX11_undo_52 : decode cX11_undo 52 = .ok (.iaload, 1) := by decide +kernel
theorem dX11_undo_53 : decode cX11_undo 53 = .ok (.iastore, 1) := by decide +kernel
theorem dX11_undo_54 : decode cX11_undo 54 = .ok (.iinc 1 1, 3) := by decide +kernel
theorem dX11_undo_57 : decode cX11_undo 57 = .ok (.goto (-31), 3) := by decide +kernel
theorem dX11_undo_60 : decode cX11_undo 60 = .ok (.aload_n 0, 1) := by decide +kernel
theorem dX11_undo_61 : decode cX11_undo 61 = .ok (.aload_n 0, 1) := by decide +kernel
theorem dX11_undo_62 : decode cX11_undo 62 = .ok (.getfield 67, 3) := by decide +kernel
theorem dX11_undo_65 : decode cX11_undo 65 = .ok (.aload_n 0, 1) := by decide +kernel
theorem dX11_undo_66 : decode cX11_undo 66 = .ok (.getfield 239, 3) := by decide +kernel
theorem dX11_undo_69 : decode cX11_undo 69 = .ok (.laload, 1) := by decide +kernel
theorem dX11_undo_70 : decode cX11_undo 70 = .ok (.putfield 320, 3) := by decide +kernel
theorem dX11_undo_73 : decode cX11_undo 73 = .ok (.aload_n 0, 1) := by decide +kernel
theorem dX11_undo_74 : decode cX11_undo 74 = .ok (.getfield 239, 3) := by decide +kernel
theorem dX11_undo_77 : decode cX11_undo 77 = .ok (.ireturn, 1) := by decide +kernel
theorem dX11_weakest_0 : decode cX11_weakest 0 = .ok (.aload_n 0, 1) := by decide +kernel
theorem dX11_weakest_1 : decode cX11_weakest 1 = .ok (.iconst 0, 1) := by decide +kernel
theorem dX11_weakest_2 : decode cX11_weakest 2 = .ok (.putfield 80, 3) := by decide +kernel
theorem dX11_weakest_5 : decode cX11_weakest 5 = .ok (.aload_n 0, 1) := by decide +kernel
theorem dX11_weakest_6 : decode cX11_weakest 6 = .ok (.getfield 232, 3) := by decide +kernel
theorem dX11_weakest_9 : decode cX11_weakest 9 = .ok (.ifCond .ne 6, 3) := by decide +kernel
theorem dX11_weakest_12 : decode cX11_weakest 12 = .ok (.bipush (-2), 2) := by decide +kernel
theorem dX11_weakest_14 : decode cX11_weakest 14 = .ok (.ireturn, 1) := by decide +kernel
theorem dX11_weakest_15 : decode cX11_weakest 15 = .ok (.aload_n 0, 1) := by decide +kernel
theorem dX11_weakest_16 : decode cX11_weakest 16 = .ok (.invokevirtual 329, 3) := by decide +kernel
theorem dX11_weakest_19 : decode cX11_weakest 19 = .ok (.aload_n 0, 1) := by decide +kernel
theorem dX11_weakest_20 : decode cX11_weakest 20 = .ok (.getfield 226, 3) := by decide +kernel
theorem dX11_weakest_23 : decode cX11_weakest 23 = .ok (.istore_n 1, 1) := by decide +kernel
theorem dX11_weakest_24 : decode cX11_weakest 24 = .ok (.iconst 0, 1) := by decide +kernel
theorem dX11_weakest_25 : decode cX11_weakest 25 = .ok (.istore_n 2, 1) := by decide +kernel
theorem dX11_weakest_26 : decode cX11_weakest 26 = .ok (.iload_n 2, 1) := by decide +kernel
theorem dX11_weakest_27 : decode cX11_weakest 27 = .ok (.aload_n 0, 1) := by decide +kernel
theorem dX11_weakest_28 : decode cX11_weakest 28 = .ok (.getfield 215, 3) := by decide +kernel
theorem dX11_weakest_31 : decode cX11_weakest 31 = .ok (.if_icmp .ge 61, 3) := by decide +kernel
theorem dX11_weakest_34 : decode cX11_weakest 34 = .ok (.iload_n 1, 1) := by decide +kernel
theorem dX11_weakest_35 : decode cX11_weakest 35 = .ok (.iload_n 2, 1) := by decide +kernel
theorem dX11_weakest_36 : decode cX11_weakest 36 = .ok (.invokestatic 161, 3) := by decide +kernel
theorem dX11_weakest_39 : decode cX11_weakest 39 = .ok (.ifCond .ne 47, 3) := by decide +kernel
theorem dX11_weakest_42 : decode cX11_weakest 42 = .ok (.iload_n 1, 1) := by decide +kernel
theorem dX11_weakest_43 : decode cX11_weakest 43 = .ok (.iconst 1, 1) := by decide +kernel
theorem dX11_weakest_44 : decode cX11_weakest 44 = .ok (.iload_n 2, 1) := by decide +kernel
theorem dX11_weakest_45 : decode cX11_weakest 45 = .ok (.ishl, 1) := by decide +kernel
theorem dX11_weakest_46 : decode cX11_weakest 46 = .ok (.ior, 1) := by decide +kernel
theorem dX11_weakest_47 : decode cX11_weakest 47 = .ok (.iconst 1, 1) := by decide +kernel
theorem dX11_weakest_48 : decode cX11_weakest 48 = .ok (.aload_n 0, 1) := by decide +kernel
theorem dX11_weakest_49 : decode cX11_weakest 49 = .ok (.getfield 215, 3) := by decide +kernel
theorem dX11_weakest_52 : decode cX11_weakest 52 = .ok (.ishl, 1) := by decide +kernel
theorem dX11_weakest_53 : decode cX11_weakest 53 = .ok (.iconst 1, 1) := by decide +kernel
theorem dX11_weakest_54 : decode cX11_weakest 54 = .ok (.isub, 1) := by decide +kernel
theorem dX11_weakest_55 : decode cX11_weakest 55 = .ok (.if_icmp .ne 6, 3) := by decide +kernel
theorem dX11_weakest_58 : decode cX11_weakest 58 = .ok (.goto 28, 3) := by decide +kernel
theorem dX11_weakest_61 : decode cX11_weakest 61 = .ok (.aload_n 0, 1) := by decide +kernel
theorem dX11_weakest_62 : decode cX11_weakest 62 = .ok (.iload_n 1, 1) := by decide +kernel
theorem dX11_weakest_63 : decode cX11_weakest 63 = .ok (.iconst 1, 1) := by decide +kernel
theorem dX11_weakest_64 : decode cX11_weakest 64 = .ok (.iload_n 2, 1) := by decide +kernel
theorem dX11_weakest_65 : decode cX11_weakest 65 = .ok (.ishl, 1) := by decide +kernel
theorem dX11_weakest_66 : decode cX11_weakest 66 = .ok (.ior, 1) := by decide +kernel
theorem dX11_weakest_67 : decode cX11_weakest 67 = .ok (.putfield 226, 3) := by decide +kernel
theorem dX11_weakest_70 : decode cX11_weakest 70 = .ok (.aload_n 0, 1) := by decide +kernel
theorem dX11_weakest_71 : decode cX11_weakest 71 = .ok (.aload_n 0, 1) := by decide +kernel
theorem dX11_weakest_72 : decode cX11_weakest 72 = .ok (.getfield 220, 3) := by decide +kernel
theorem dX11_weakest_75 : decode cX11_weakest 75 = .ok (.invokevirtual 386, 3) := by decide +kernel
theorem dX11_weakest_78 : decode cX11_weakest 78 = .ok (.bipush 12, 2) := by decide +kernel
theorem dX11_weakest_80 : decode cX11_weakest 80 = .ok (.if_icmp .le 6, 3) := by decide +kernel
theorem dX11_weakest_83 : decode cX11_weakest 83 = .ok (.bipush (-2), 2) := by decide +kernel
theorem dX11_weakest_85 : decode cX11_weakest 85 = .ok (.ireturn, 1) := by decide +kernel
theorem dX11_weakest_86 : decode cX11_weakest 86 = .ok (.iinc 2 1, 3) := by decide +kernel
theorem dX11_weakest_89 : decode cX11_weakest 89 = .ok (.goto (-63), 3) := by decide +kernel
theorem dX11_weakest_92 : decode cX11_weakest 92 = .ok (.iconst 0, 1) := by decide +kernel
theorem dX11_weakest_93 : decode cX11_weakest 93 = .ok (.istore_n 2, 1) := by decide +kernel
theorem dX11_weakest_94 : decode cX11_weakest 94 = .ok (.iload_n 2, 1) := by decide +kernel
theorem dX11_weakest_95 : decode cX11_weakest 95 = .ok (.aload_n 0, 1) := by decide +kernel
theorem dX11_weakest_96 : decode cX11_weakest 96 = .ok (.getfield 215, 3) := by decide +kernel
theorem dX11_weakest_99 : decode cX11_weakest 99 = .ok (.if_icmp .ge 55, 3) := by decide +kernel
theorem dX11_weakest_102 : decode cX11_weakest 102 = .ok (.iload_n 1, 1) := by decide +kernel
theorem dX11_weakest_103 : decode cX11_weakest 103 = .ok (.iload_n 2, 1) := by decide +kernel
theorem dX11_weakest_104 : decode cX11_weakest 104 = .ok (.invokestatic 161, 3) := by decide +kernel
theorem dX11_weakest_107 : decode cX11_weakest 107 = .ok (.ifCond .ne 41, 3) := by decide +kernel
theorem dX11_weakest_110 : decode cX11_weakest 110 = .ok (.iload_n 1, 1) := by decide +kernel
theorem dX11_weakest_111 : decode cX11_weakest 111 = .ok (.iconst 1, 1) := by decide +kernel
theorem dX11_weakest_112 : decode cX11_weakest 112 = .ok (.iload_n 2, 1) := by decide +kernel
theorem dX11_weakest_113 : decode cX11_weakest 113 = .ok (.ishl, 1) := by decide +kernel
theorem dX11_weakest_114 : decode cX11_weakest 114 = .ok (.ior, 1) := by decide +kernel
theorem dX11_weakest_115 : decode cX11_weakest 115 = .ok (.iconst 1, 1) := by decide +kernel
theorem dX11_weakest_116 : decode cX11_weakest 116 = .ok (.aload_n 0, 1) := by decide +kernel
theorem dX11_weakest_117 : decode cX11_weakest 117 = .ok (.getfield 215, 3) := by decide +kernel
theorem dX11_weakest_120 : decode cX11_weakest 120 = .ok (.ishl, 1) := by decide +kernel
theorem dX11_weakest_121 : decode cX11_weakest 121 = .ok (.iconst 1, 1) := by decide +kernel
theorem dX11_weakest_122 : decode cX11_weakest 122 = .ok (.isub, 1) := by decide +kernel
theorem dX11_weakest_123 : decode cX11_weakest 123 = .ok (.if_icmp .ne 6, 3) := by decide +kernel
theorem dX11_weakest_126 : decode cX11_weakest 126 = .ok (.goto 22, 3) := by decide +kernel
theorem dX11_weakest_129 : decode cX11_weakest 129 = .ok (.aload_n 0, 1) := by decide +kernel
theorem dX11_weakest_130 : decode cX11_weakest 130 = .ok (.iload_n 1, 1) := by decide +kernel
theorem dX11_weakest_131 : decode cX11_weakest 131 = .ok (.iconst 1, 1) := by decide +kernel
theorem dX11_weakest_132 : decode cX11_weakest 132 = .ok (.iload_n 2, 1) := by decide +kernel
theorem dX11_weakest_133 : decode cX11_weakest 133 = .ok (.ishl, 1) := by decide +kernel
theorem dX11_weakest_134 : decode cX11_weakest 134 = .ok (.ior, 1) := by decide +kernel
theorem dX11_weakest_135 : decode cX11_weakest 135 = .ok (.putfield 226, 3) := by decide +kernel
theorem dX11_weakest_138 : decode cX11_weakest 138 = .ok (.aload_n 0, 1) := by decide +kernel
theorem dX11_weakest_139 : decode cX11_weakest 139 = .ok (.invokevirtual 399, 3) := by decide +kernel
theorem dX11_weakest_142 : decode cX11_weakest 142 = .ok (.iconst (-1), 1) := by decide +kernel
theorem dX11_weakest_143 : decode cX11_weakest 143 = .ok (.if_icmp .eq 5, 3) := by decide +kernel
theorem dX11_weakest_146 : decode cX11_weakest 146 = .ok (.iload_n 2, 1) := by decide +kernel
theorem dX11_weakest_147 : decode cX11_weakest 147 = .ok (.ireturn, 1) := by decide +kernel
theorem dX11_weakest_148 : decode cX11_weakest 148 = .ok (.iinc 2 1, 3) := by decide +kernel
theorem dX11_weakest_151 : decode cX11_weakest 151 = .ok (.goto (-57), 3) := by decide +kernel
theorem dX11_weakest_154 : decode cX11_weakest 154 = .ok (.iconst (-1), 1) := by decide +kernel
theorem dX11_weakest_155 : decode cX11_weakest 155 = .ok (.ireturn, 1) := by decide +kernel
theorem dX1_init_0 : decode cX1_init 0 = .ok (.aload_n 0, 1) := by decide +kernel
theorem dX1_init_1 : decode cX1_init 1 = .ok (.invokespecial 1, 3) := by decide +kernel
theorem dX1_init_4 : decode cX1_init 4 = .ok (.return_, 1) := by decide +kernel
theorem dX2_clear_0 : decode cX2_clear 0 = .ok (.aload_n 0, 1) := by decide +kernel
theorem dX2_clear_1 : decode cX2_clear 1 = .ok (.iconst 0, 1) := by decide +kernel
theorem dX2_clear_2 : decode cX2_clear 2 = .ok (.putfield 70, 3) := by decide +kernel
theorem dX2_clear_5 : decode cX2_clear 5 = .ok (.aload_n 0, 1) := by decide +kernel
theorem dX2_clear_6 : decode cX2_clear 6 = .ok (.iconst 0, 1) := by decide +kernel
theorem dX2_clear_7 : decode cX2_clear 7 = .ok (.putfield 15, 3) := by decide +kernel
theorem dX2_clear_10 : decode cX2_clear 10 = .ok (.aload_n 0, 1) := by decide +kernel
theorem dX2_clear_11 : decode cX2_clear 11 = .ok (.iconst 0, 1) := by decide +kernel
theorem dX2_clear_12 : decode cX2_clear 12 = .ok (.putfield 24, 3) := by decide +kernel
theorem dX2_clear_15 : decode cX2_clear 15 = .ok (.aload_n 0, 1) := by decide +kernel
theorem dX2_clear_16 : decode cX2_clear 16 = .ok (.iconst 0, 1) := by decide +kernel
theorem dX2_clear_17 : decode cX2_clear 17 = .ok (.putfield 27, 3) := by decide +kernel
theorem dX2_clear_20 : decode cX2_clear 20 = .ok (.aload_n 0, 1) := by decide +kernel
theorem dX2_clear_21 : decode cX2_clear 21 = .ok (.iconst 0, 1) := by decide +kernel
theorem dX2_clear_22 : decode cX2_clear 22 = .ok (.putfield 30, 3) := by decide +kernel
theorem dX2_clear_25 : decode cX2_clear 25 = .ok (.return_, 1) := by decide +kernel
theorem dX2_everybody_0 : decode cX2_everybody 0 = .ok (.iconst 1, 1) := by decide +kernel
theorem dX2_everybody_1 : decode cX2_everybody 1 = .ok (.aload_n 0, 1) := by decide +kernel
theorem dX2_everybody_2 : decode cX2_everybody 2 = .ok (.getfield 15, 3) := by decide +kernel
theorem dX2_everybody_5 : decode cX2_everybody 5 = .ok (.ishl, 1) := by decide +kernel
theorem dX2_everybody_6 : decode cX2_everybody 6 = .ok (.iconst 1, 1) := by decide +kernel
theorem dX2_everybody_7 : decode cX2_everybody 7 = .ok (.isub, 1) := by decide +kernel
theorem dX2_everybody_8 : decode cX2_everybody 8 = .ok (.ireturn, 1) := by decide +kernel
theorem dX2_init_0 : decode cX2_init 0 = .ok (.aload_n 0, 1) := by decide +kernel
theorem dX2_init_1 : decode cX2_init 1 = .ok (.invokespecial 3, 3) := by decide +kernel
theorem dX2_init_4 : decode cX2_init 4 = .ok (.return_, 1) := by decide +kernel
theorem dX2_phaseAt_0 : decode cX2_phaseAt 0 = .ok (.iload_n 1, 1) := by decide +kernel
theorem dX2_phaseAt_1 : decode cX2_phaseAt 1 = .ok (.aload_n 0, 1) := by decide +kernel
theorem dX2_phaseAt_2 : decode cX2_phaseAt 2 = .ok (.invokevirtual 112, 3) := by decide +kernel
theorem dX2_phaseAt_5 : decode cX2_phaseAt 5 = .ok (.idiv, 1) := by decide +kernel
theorem dX2_phaseAt_6 : decode cX2_phaseAt 6 = .ok (.ireturn, 1) := by decide +kernel
theorem dX2_readFrom_0 : decode cX2_readFrom 0 = .ok (.aload_n 0, 1) := by decide +kernel
theorem dX2_readFrom_1 : decode cX2_readFrom 1 = .ok (.invokevirtual 34, 3) := by decide +kernel
theorem dX2_readFrom_4 : decode cX2_readFrom 4 = .ok (.aload_n 1, 1) := by decide +kernel
theorem dX2_readFrom_5 : decode cX2_readFrom 5 = .ok (.invokevirtual 37, 3) := by decide +kernel
theorem dX2_readFrom_8 : decode cX2_readFrom 8 = .ok (.aload_n 0, 1) := by decide +kernel
theorem dX2_readFrom_9 : decode cX2_readFrom 9 = .ok (.aload_n 1, 1) := by decide +kernel
theorem dX2_readFrom_10 : decode cX2_readFrom 10 = .ok (.ldc 42, 2) := by decide +kernel
theorem dX2_readFrom_12 : decode cX2_readFrom 12 = .ok (.invokevirtual 44, 3) := by decide +kernel
theorem dX2_readFrom_15 : decode cX2_readFrom 15 = .ok (.ifCond .eq 7, 3) := by decide +kernel
theorem dX2_readFrom_18 : decode cX2_readFrom 18 = .ok (.iconst 0, 1) := by decide +kernel
theorem dX2_readFrom_19 : decode cX2_readFrom 19 = .ok (.goto 4, 3) := by decide +kernel
theorem dX2_readFrom_22 : decode cX2_readFrom 22 = .ok (.iconst 1, 1) := by decide +kernel
theorem dX2_readFrom_23 : decode cX2_readFrom 23 = .ok (.putfield 9, 3) := by decide +kernel
theorem dX2_readFrom_26 : decode cX2_readFrom 26 = .ok (.aload_n 0, 1) := by decide +kernel
theorem dX2_readFrom_27 : decode cX2_readFrom 27 = .ok (.getfield 9, 3) := by decide +kernel
theorem dX2_readFrom_30 : decode cX2_readFrom 30 = .ok (.iconst 1, 1) := by decide +kernel
theorem dX2_readFrom_31 : decode cX2_readFrom 31 = .ok (.if_icmp .ne 17, 3) := by decide +kernel
theorem dX2_readFrom_34 : decode cX2_readFrom 34 = .ok (.aload_n 1, 1) := by decide +kernel
theorem dX2_readFrom_35 : decode cX2_readFrom 35 = .ok (.ldc 48, 2) := by decide +kernel
theorem dX2_readFrom_37 : decode cX2_readFrom 37 = .ok (.invokevirtual 44, 3) := by decide +kernel
theorem dX2_readFrom_40 : decode cX2_readFrom 40 = .ok (.ifCond .ne 8, 3) := by decide +kernel
theorem dX2_readFrom_43 : decode cX2_readFrom 43 = .ok (.aload_n 1, 1) := by decide +kernel
theorem dX2_readFrom_44 : decode cX2_readFrom 44 = .ok (.getfield 50, 3) := by decide +kernel
theorem dX2_readFrom_47 : decode cX2_readFrom 47 = .ok (.ireturn, 1) := by decide +kernel
theorem dX2_readFrom_48 : decode cX2_readFrom 48 = .ok (.aload_n 1, 1) := by decide +kernel
theorem dX2_readFrom_49 : decode cX2_readFrom 49 = .ok (.invokevirtual 53, 3) := by decide +kernel
theorem dX2_readFrom_52 : decode cX2_readFrom 52 = .ok (.iconst 0, 1) := by decide +kernel
theorem dX2_readFrom_53 : decode cX2_readFrom 53 = .ok (.istore_n 2, 1) := by decide +kernel
theorem dX2_readFrom_54 : decode cX2_readFrom 54 = .ok (.iload_n 2, 1) := by decide +kernel
theorem dX2_readFrom_55 : decode cX2_readFrom 55 = .ok (.bipush 6, 2) := by decide +kernel
theorem dX2_readFrom_57 : decode cX2_readFrom 57 = .ok (.if_icmp .gt 38, 3) := by decide +kernel
theorem dX2_readFrom_60 : decode cX2_readFrom 60 = .ok (.aload_n 1, 1) := by decide +kernel
theorem dX2_readFrom_61 : decode cX2_readFrom 61 = .ok (.getfield 56, 3) := by decide +kernel
theorem dX2_readFrom_64 : decode cX2_readFrom 64 = .ok (.iconst 1, 1) := by decide +kernel
theorem dX2_readFrom_65 : decode cX2_readFrom 65 = .ok (.if_icmp .ne 30, 3) := by decide +kernel
theorem dX2_readFrom_68 : decode cX2_readFrom 68 = .ok (.aload_n 1, 1) := by decide +kernel
theorem dX2_readFrom_69 : decode cX2_readFrom 69 = .ok (.invokevirtual 53, 3) := by decide +kernel
theorem dX2_readFrom_72 : decode cX2_readFrom 72 = .ok (.aload_n 0, 1) := by decide +kernel
theorem dX2_readFrom_73 : decode cX2_readFrom 73 = .ok (.aload_n 1, 1) := by decide +kernel
theorem dX2_readFrom_74 : decode cX2_readFrom 74 = .ok (.invokevirtual 59, 3) := by decide +kernel
theorem dX2_readFrom_77 : decode cX2_readFrom 77 = .ok (.ifCond .ne 8, 3) := by decide +kernel
theorem dX2_readFrom_80 : decode cX2_readFrom 80 = .ok (.aload_n 1, 1) := by decide +kernel
theorem dX2_readFrom_81 : decode cX2_readFrom 81 = .ok (.getfield 50, 3) := by decide +kernel
theorem dX2_readFrom_84 : decode cX2_readFrom 84 = .ok (.ireturn, 1) := by decide +kernel
theorem dX2_readFrom_85 : decode cX2_readFrom 85 = .ok (.aload_n 1, 1) := by decide +kernel
theorem dX2_readFrom_86 : decode cX2_readFrom 86 = .ok (.invokevirtual 53, 3) := by decide +kernel
theorem dX2_readFrom_89 : decode cX2_readFrom 89 = .ok (.iinc 2 1, 3) := by decide +kernel
theorem dX2_readFrom_92 : decode cX2_readFrom 92 = .ok (.goto (-38), 3) := by decide +kernel
theorem dX2_readFrom_95 : decode cX2_readFrom 95 = .ok (.aload_n 1, 1) := by decide +kernel
theorem dX2_readFrom_96 : decode cX2_readFrom 96 = .ok (.getfield 56, 3) := by decide +kernel
theorem dX2_readFrom_99 : decode cX2_readFrom 99 = .ok (.ifCond .ne 11, 3) := by decide +kernel
theorem dX2_readFrom_102 : decode cX2_readFrom 102 = .ok (.aload_n 0, 1) := by decide +kernel
theorem dX2_readFrom_103 : decode cX2_readFrom 103 = .ok (.iconst 0, 1) := by decide +kernel
theorem dX2_readFrom_104 : decode cX2_readFrom 104 = .ok (.invokevirtual 63, 3) := by decide +kernel
theorem dX2_readFrom_107 : decode cX2_readFrom 107 = .ok (.ifCond .ne 8, 3) := by decide +kernel
theorem dX2_readFrom_110 : decode cX2_readFrom 110 = .ok (.aload_n 1, 1) := by decide +kernel
theorem dX2_readFrom_111 : decode cX2_readFrom 111 = .ok (.getfield 50, 3) := by decide +kernel
theorem dX2_readFrom_114 : decode cX2_readFrom 114 = .ok (.ireturn, 1) := by decide +kernel
theorem dX2_readFrom_115 : decode cX2_readFrom 115 = .ok (.aload_n 0, 1) := by decide +kernel
theorem dX2_readFrom_116 : decode cX2_readFrom 116 = .ok (.invokevirtual 67, 3) := by decide +kernel
theorem dX2_readFrom_119 : decode cX2_readFrom 119 = .ok (.iconst (-1), 1) := by decide +kernel
theorem dX2_readFrom_120 : decode cX2_readFrom 120 = .ok (.ireturn, 1) := by decide +kernel
theorem dX2_rounds_0 : decode cX2_rounds 0 = .ok (.aload_n 0, 1) := by decide +kernel
theorem dX2_rounds_1 : decode cX2_rounds 1 = .ok (.getfield 9, 3) := by decide +kernel
theorem dX2_rounds_4 : decode cX2_rounds 4 = .ok (.ifCond .ne 7, 3) := by decide +kernel
theorem dX2_rounds_7 : decode cX2_rounds 7 = .ok (.iconst 3, 1) := by decide +kernel
theorem dX2_rounds_8 : decode cX2_rounds 8 = .ok (.goto 4, 3) := by decide +kernel
theorem dX2_rounds_11 : decode cX2_rounds 11 = .ok (.iconst 2, 1) := by decide +kernel
theorem dX2_rounds_12 : decode cX2_rounds 12 = .ok (.ireturn, 1) := by decide +kernel
theorem dX3_agreedFrom_0 : decode cX3_agreedFrom 0 = .ok (.iconst (-1), 1) := by decide +kernel
theorem dX3_agreedFrom_1 : decode cX3_agreedFrom 1 = .ok (.istore_n 2, 1) := by decide +kernel
theorem dX3_agreedFrom_2 : decode cX3_agreedFrom 2 = .ok (.aload_n 1, 1) := by decide +kernel
theorem dX3_agreedFrom_3 : decode cX3_agreedFrom 3 = .ok (.aload_n 0, 1) := by decide +kernel
theorem dX3_agreedFrom_4 : decode cX3_agreedFrom 4 = .ok (.getfield 47, 3) := by decide +kernel
theorem dX3_agreedFrom_7 : decode cX3_agreedFrom 7 = .ok (.invokevirtual 89, 3) := by decide +kernel
theorem dX3_agreedFrom_10 : decode cX3_agreedFrom 10 = .ok (.iconst 1, 1) := by decide +kernel
theorem dX3_agreedFrom_11 : decode cX3_agreedFrom 11 = .ok (.isub, 1) := by decide +kernel
theorem dX3_agreedFrom_12 : decode cX3_agreedFrom 12 = .ok (.istore_n 3, 1) := by decide +kernel
theorem dX3_agreedFrom_13 : decode cX3_agreedFrom 13 = .ok (.iload_n 3, 1) := by decide +kernel
theorem dX3_agreedFrom_14 : decode cX3_agreedFrom 14 = .ok (.ifCond .lt 25, 3) := by decide +kernel
theorem dX3_agreedFrom_17 : decode cX3_agreedFrom 17 = .ok (.aload_n 0, 1) := by decide +kernel
theorem dX3_agreedFrom_18 : decode cX3_agreedFrom 18 = .ok (.aload_n 1, 1) := by decide +kernel
theorem dX3_agreedFrom_19 : decode cX3_agreedFrom 19 = .ok (.aload_n 0, 1) := by decide +kernel
theorem dX3_agreedFrom_20 : decode cX3_agreedFrom 20 = .ok (.getfield 28, 3) := by decide +kernel
theorem dX3_agreedFrom_23 : decode cX3_agreedFrom 23 = .ok (.iload_n 3, 1) := by decide +kernel
theorem dX3_agreedFrom_24 : decode cX3_agreedFrom 24 = .ok (.iaload, 1) := by decide +kernel
theorem dX3_agreedFrom_25 : decode cX3_agreedFrom 25 = .ok (.invokevirtual 200, 3) := by decide +kernel
theorem dX3_agreedFrom_28 : decode cX3_agreedFrom 28 = .ok (.ifCond .eq 11, 3) := by decide +kernel
theorem dX3_agreedFrom_31 : decode cX3_agreedFrom 31 = .ok (.iload_n 3, 1) := by decide +kernel
theorem dX3_agreedFrom_32 : decode cX3_agreedFrom 32 = .ok (.istore_n 2, 1) := by decide +kernel
theorem dX3_agreedFrom_33 : decode cX3_agreedFrom 33 = .ok (.iinc 3 (-1), 3) := by decide +kernel
theorem dX3_agreedFrom_36 : decode cX3_agreedFrom 36 = .ok (.goto (-23), 3) := by decide +kernel
theorem dX3_agreedFrom_39 : decode cX3_agreedFrom 39 = .ok (.iload_n 2, 1) := by decide +kernel
theorem dX3_agreedFrom_40 : decode cX3_agreedFrom 40 = .ok (.ireturn, 1) := by decide +kernel
theorem dX3_init_0 : decode cX3_init 0 = .ok (.aload_n 0, 1) := by decide +kernel
theorem dX3_init_1 : decode cX3_init 1 = .ok (.invokespecial 3, 3) := by decide +kernel
theorem dX3_init_4 : decode cX3_init 4 = .ok (.aload_n 0, 1) := by decide +kernel
theorem dX3_init_5 : decode cX3_init 5 = .ok (.bipush 30, 2) := by decide +kernel
theorem dX3_init_7 : decode cX3_init 7 = .ok (.newarray .int, 2) := by decide +kernel
theorem dX3_init_9 : decode cX3_init 9 = .ok (.putfield 9, 3) := by decide +kernel
theorem dX3_init_12 : decode cX3_init 12 = .ok (.aload_n 0, 1) := by decide +kernel
theorem dX3_init_13 : decode cX3_init 13 = .ok (.sipush 162, 3) := by decide +kernel
theorem dX3_init_16 : decode cX3_init 16 = .ok (.newarray .long, 2) := by decide +kernel
theorem dX3_init_18 : decode cX3_init 18 = .ok (.putfield 15, 3) := by decide +kernel
theorem dX3_init_21 : decode cX3_init 21 = .ok (.aload_n 0, 1) := by decide +kernel
theorem dX3_init_22 : decode cX3_init 22 = .ok (.bipush 18, 2) := by decide +kernel
theorem dX3_init_24 : decode cX3_init 24 = .ok (.newarray .long, 2) := by decide +kernel
theorem dX3_init_26 : decode cX3_init 26 = .ok (.putfield 19, 3) := by decide +kernel
theorem dX3_init_29 : decode cX3_init 29 = .ok (.aload_n 0, 1) := by decide +kernel
theorem dX3_init_30 : decode cX3_init 30 = .ok (.bipush 18, 2) := by decide +kernel
theorem dX3_init_32 : decode cX3_init 32 = .ok (.newarray .long, 2) := by decide +kernel
theorem dX3_init_34 : decode cX3_init 34 = .ok (.putfield 22, 3) := by decide +kernel
theorem dX3_init_37 : decode cX3_init 37 = .ok (.aload_n 0, 1) := by decide +kernel
theorem dX3_init_38 : decode cX3_init 38 = .ok (.bipush 6, 2) := by decide +kernel
theorem dX3_init_40 : decode cX3_init 40 = .ok (.newarray .long, 2) := by decide +kernel
theorem dX3_init_42 : decode cX3_init 42 = .ok (.putfield 25, 3) := by decide +kernel
theorem dX3_init_45 : decode cX3_init 45 = .ok (.aload_n 0, 1) := by decide +kernel
theorem dX3_init_46 : decode cX3_init 46 = .ok (.bipush 6, 2) := by decide +kernel
theorem dX3_init_48 : decode cX3_init 48 = .ok (.newarray .int, 2) := by decide +kernel
theorem dX3_init_50 : decode cX3_init 50 = .ok (.putfield 28, 3) := by decide +kernel
theorem dX3_init_53 : decode cX3_init 53 = .ok (.aload_n 0, 1) := by decide +kernel
theorem dX3_init_54 : decode cX3_init 54 = .ok (.bipush 6, 2) := by decide +kernel
theorem dX3_init_56 : decode cX3_init 56 = .ok (.newarray .int, 2) := by decide +kernel
theorem dX3_init_58 : decode cX3_init 58 = .ok (.putfield 31, 3) := by decide +kernel
theorem dX3_init_61 : decode cX3_init 61 = .ok (.aload_n 0, 1) := by decide +kernel
theorem dX3_init_62 : decode cX3_init 62 = .ok (.bipush 6, 2) := by decide +kernel
theorem dX3_init_64 : decode cX3_init 64 = .ok (.newarray .int, 2) := by decide +kernel
theorem dX3_init_66 : decode cX3_init 66 = .ok (.putfield 34, 3) := by decide +kernel
theorem dX3_init_69 : decode cX3_init 69 = .ok (.aload_n 0, 1) := by decide +kernel
theorem dX3_init_70 : decode cX3_init 70 = .ok (.bipush 6, 2) := by decide +kernel
theorem dX3_init_72 : decode cX3_init 72 = .ok (.newarray .int, 2) := by decide +kernel
theorem dX3_init_74 : decode cX3_init 74 = .ok (.putfield 37, 3) := by decide +kernel
theorem dX3_init_77 : decode cX3_init 77 = .ok (.return_, 1) := by decide +kernel
theorem dX4_init_0 : decode cX4_init 0 = .ok (.aload_n 0, 1) := by decide +kernel
theorem dX4_init_1 : decode cX4_init 1 = .ok (.invokespecial 1, 3) := by decide +kernel
theorem dX4_init_4 : decode cX4_init 4 = .ok (.return_, 1) := by decide +kernel
theorem dX5_actOf_0 : decode cX5_actOf 0 = .ok (.aload_n 0, 1) := by decide +kernel
theorem dX5_actOf_1 : decode cX5_actOf 1 = .ok (.ldc 71, 2) := by decide +kernel
theorem dX5_actOf_3 : decode cX5_actOf 3 = .ok (.invokevirtual 47, 3) := by decide +kernel
theorem dX5_actOf_6 : decode cX5_actOf 6 = .ok (.ifCond .eq 5, 3) := by decide +kernel
theorem dX5_actOf_9 : decode cX5_actOf 9 = .ok (.iconst 3, 1) := by decide +kernel
theorem dX5_actOf_10 : decode cX5_actOf 10 = .ok (.ireturn, 1) := by decide +kernel
theorem dX5_actOf_11 : decode cX5_actOf 11 = .ok (.aload_n 0, 1) := by decide +kernel
theorem dX5_actOf_12 : decode cX5_actOf 12 = .ok (.ldc 73, 2) := by decide +kernel
theorem dX5_actOf_14 : decode cX5_actOf 14 = .ok (.invokevirtual 47, 3) := by decide +kernel
theorem dX5_actOf_17 : decode cX5_actOf 17 = .ok (.ifCond .eq 5, 3) := by decide +kernel
theorem dX5_actOf_20 : decode cX5_actOf 20 = .ok (.iconst 4, 1) := by decide +kernel
theorem dX5_actOf_21 : decode cX5_actOf 21 = .ok (.ireturn, 1) := by decide +kernel
theorem dX5_actOf_22 : decode cX5_actOf 22 = .ok (.aload_n 0, 1) := by decide +kernel
theorem dX5_actOf_23 : decode cX5_actOf 23 = .ok (.ldc 75, 2) := by decide +kernel
theorem dX5_actOf_25 : decode cX5_actOf 25 = .ok (.invokevirtual 47, 3) := by decide +kernel
theorem dX5_actOf_28 : decode cX5_actOf 28 = .ok (.ifCond .eq 5, 3) := by decide +kernel
theorem dX5_actOf_31 : decode cX5_actOf 31 = .ok (.iconst 5, 1) := by decide +kernel
theorem dX5_actOf_32 : decode cX5_actOf 32 = .ok (.ireturn, 1) := by decide +kernel
theorem dX5_actOf_33 : decode cX5_actOf 33 = .ok (.aload_n 0, 1) := by decide +kernel
theorem dX5_actOf_34 : decode cX5_actOf 34 = .ok (.ldc 77, 2) := by decide +kernel
theorem dX5_actOf_36 : decode cX5_actOf 36 = .ok (.invokevirtual 47, 3) := by decide +kernel
theorem dX5_actOf_39 : decode cX5_actOf 39 = .ok (.ifCond .eq 8, 3) := by decide +kernel
theorem dX5_actOf_42 : decode cX5_actOf 42 = .ok (.bipush 6, 2) := by decide +kernel
theorem dX5_actOf_44 : decode cX5_actOf 44 = .ok (.goto 9, 3) := by decide +kernel
theorem dX5_actOf_47 : decode cX5_actOf 47 = .ok (.aload_n 0, 1) := by decide +kernel
theorem dX5_actOf_48 : decode cX5_actOf 48 = .ok (.iconst 0, 1) := by decide +kernel
theorem dX5_actOf_49 : decode cX5_actOf 49 = .ok (.iconst 2, 1) := by decide +kernel
theorem dX5_actOf_50 : decode cX5_actOf 50 = .ok (.invokevirtual 55, 3) := by decide +kernel
theorem dX5_actOf_53 : decode cX5_actOf 53 = .ok (.ireturn, 1) := by decide +kernel
theorem dX5_init_0 : decode cX5_init 0 = .ok (.aload_n 0, 1) := by decide +kernel
theorem dX5_init_1 : decode cX5_init 1 = .ok (.invokespecial 3, 3) := by decide +kernel
theorem dX5_init_4 : decode cX5_init 4 = .ok (.aload_n 0, 1) := by decide +kernel
theorem dX5_init_5 : decode cX5_init 5 = .ok (.bipush 100, 2) := by decide +kernel
theorem dX5_init_7 : decode cX5_init 7 = .ok (.newarray .int, 2) := by decide +kernel
theorem dX5_init_9 : decode cX5_init 9 = .ok (.putfield 11, 3) := by decide +kernel
theorem dX5_init_12 : decode cX5_init 12 = .ok (.return_, 1) := by decide +kernel
theorem dX5_readFrom_0 : decode cX5_readFrom 0 = .ok (.aload_n 0, 1) := by decide +kernel
theorem dX5_readFrom_1 : decode cX5_readFrom 1 = .ok (.iconst 0, 1) := by decide +kernel
theorem dX5_readFrom_2 : decode cX5_readFrom 2 = .ok (.putfield 21, 3) := by decide +kernel
theorem dX5_readFrom_5 : decode cX5_readFrom 5 = .ok (.aload_n 1, 1) := by decide +kernel
theorem dX5_readFrom_6 : decode cX5_readFrom 6 = .ok (.invokevirtual 25, 3) := by decide +kernel
theorem dX5_readFrom_9 : decode cX5_readFrom 9 = .ok (.iconst 0, 1) := by decide +kernel
theorem dX5_readFrom_10 : decode cX5_readFrom 10 = .ok (.istore_n 2, 1) := by decide +kernel
theorem dX5_readFrom_11 : decode cX5_readFrom 11 = .ok (.iload_n 2, 1) := by decide +kernel
theorem dX5_readFrom_12 : decode cX5_readFrom 12 = .ok (.bipush 20, 2) := by decide +kernel
theorem dX5_readFrom_14 : decode cX5_readFrom 14 = .ok (.if_icmp .ge 62, 3) := by decide +kernel
theorem dX5_readFrom_17 : decode cX5_readFrom 17 = .ok (.aload_n 0, 1) := by decide +kernel
theorem dX5_readFrom_18 : decode cX5_readFrom 18 = .ok (.aload_n 1, 1) := by decide +kernel
theorem dX5_readFrom_19 : decode cX5_readFrom 19 = .ok (.iload_n 2, 1) := by decide +kernel
theorem dX5_readFrom_20 : decode cX5_readFrom 20 = .ok (.iconst 5, 1) := by decide +kernel
theorem dX5_readFrom_21 : decode cX5_readFrom 21 = .ok (.imul, 1) := by decide +kernel
theorem dX5_readFrom_22 : decode cX5_readFrom 22 = .ok (.invokevirtual 30, 3) := by decide +kernel
theorem dX5_readFrom_25 : decode cX5_readFrom 25 = .ok (.ifCond .ne 8, 3) := by decide +kernel
theorem dX5_readFrom_28 : decode cX5_readFrom 28 = .ok (.aload_n 1, 1) := by decide +kernel
theorem dX5_readFrom_29 : decode cX5_readFrom 29 = .ok (.getfield 34, 3) := by decide +kernel
theorem dX5_readFrom_32 : decode cX5_readFrom 32 = .ok (.ireturn, 1) := by decide +kernel
theorem dX5_readFrom_33 : decode cX5_readFrom 33 = .ok (.aload_n 0, 1) := by decide +kernel
theorem dX5_readFrom_34 : decode cX5_readFrom 34 = .ok (.iload_n 2, 1) := by decide +kernel
theorem dX5_readFrom_35 : decode cX5_readFrom 35 = .ok (.iconst 1, 1) := by decide +kernel
theorem dX5_readFrom_36 : decode cX5_readFrom 36 = .ok (.iadd, 1) := by decide +kernel
theorem dX5_readFrom_37 : decode cX5_readFrom 37 = .ok (.putfield 21, 3) := by decide +kernel
theorem dX5_readFrom_40 : decode cX5_readFrom 40 = .ok (.aload_n 1, 1) := by decide +kernel
theorem dX5_readFrom_41 : decode cX5_readFrom 41 = .ok (.invokevirtual 37, 3) := by decide +kernel
theorem dX5_readFrom_44 : decode cX5_readFrom 44 = .ok (.aload_n 1, 1) := by decide +kernel
theorem dX5_readFrom_45 : decode cX5_readFrom 45 = .ok (.getfield 40, 3) := by decide +kernel
theorem dX5_readFrom_48 : decode cX5_readFrom 48 = .ok (.ifCond .ne 5, 3) := by decide +kernel
theorem dX5_readFrom_51 : decode cX5_readFrom 51 = .ok (.iconst (-1), 1) := by decide +kernel
theorem dX5_readFrom_52 : decode cX5_readFrom 52 = .ok (.ireturn, 1) := by decide +kernel
theorem dX5_readFrom_53 : decode cX5_readFrom 53 = .ok (.aload_n 1, 1) := by decide +kernel
theorem dX5_readFrom_54 : decode cX5_readFrom 54 = .ok (.getfield 40, 3) := by decide +kernel
theorem dX5_readFrom_57 : decode cX5_readFrom 57 = .ok (.iconst 1, 1) := by decide +kernel
theorem dX5_readFrom_58 : decode cX5_readFrom 58 = .ok (.if_icmp .eq 8, 3) := by decide +kernel
theorem dX5_readFrom_61 : decode cX5_readFrom 61 = .ok (.aload_n 1, 1) := by decide +kernel
theorem dX5_readFrom_62 : decode cX5_readFrom 62 = .ok (.getfield 34, 3) := by decide +kernel
theorem dX5_readFrom_65 : decode cX5_readFrom 65 = .ok (.ireturn, 1) := by decide +kernel
theorem dX5_readFrom_66 : decode cX5_readFrom 66 = .ok (.aload_n 1, 1) := by decide +kernel
theorem dX5_readFrom_67 : decode cX5_readFrom 67 = .ok (.invokevirtual 37, 3) := by decide +kernel
theorem dX5_readFrom_70 : decode cX5_readFrom 70 = .ok (.iinc 2 1, 3) := by decide +kernel
theorem dX5_readFrom_73 : decode cX5_readFrom 73 = .ok (.goto (-62), 3) := by decide +kernel
theorem dX5_readFrom_76 : decode cX5_readFrom 76 = .ok (.aload_n 1, 1) := by decide +kernel
theorem dX5_readFrom_77 : decode cX5_readFrom 77 = .ok (.getfield 34, 3) := by decide +kernel
theorem dX5_readFrom_80 : decode cX5_readFrom 80 = .ok (.ireturn, 1) := by decide +kernel
theorem dX5_readLine_0 : decode cX5_readLine 0 = .ok (.iconst 0, 1) := by decide +kernel
theorem dX5_readLine_1 : decode cX5_readLine 1 = .ok (.istore_n 3, 1) := by decide +kernel
theorem dX5_readLine_2 : decode cX5_readLine 2 = .ok (.iload_n 3, 1) := by decide +kernel
theorem dX5_readLine_3 : decode cX5_readLine 3 = .ok (.iconst 4, 1) := by decide +kernel
theorem dX5_readLine_4 : decode cX5_readLine 4 = .ok (.if_icmp .ge 66, 3) := by decide +kernel
theorem dX5_readLine_7 : decode cX5_readLine 7 = .ok (.aload_n 0, 1) := by decide +kernel
theorem dX5_readLine_8 : decode cX5_readLine 8 = .ok (.getfield 11, 3) := by decide +kernel
theorem dX5_readLine_11 : decode cX5_readLine 11 = .ok (.iload_n 2, 1) := by decide +kernel
theorem dX5_readLine_12 : decode cX5_readLine 12 = .ok (.iload_n 3, 1) := by decide +kernel
theorem dX5_readLine_13 : decode cX5_readLine 13 = .ok (.iadd, 1) := by decide +kernel
theorem dX5_readLine_14 : decode cX5_readLine 14 = .ok (.iconst (-1), 1) := by decide +kernel
theorem dX5_readLine_15 : decode cX5_readLine 15 = .ok (.iastore, 1) := by decide +kernel
theorem dX5_readLine_16 : decode cX5_readLine 16 = .ok (.aload_n 1, 1) := by decide +kernel
theorem dX5_readLine_17 : decode cX5_readLine 17 = .ok (.iload_n 3, 1) := by decide +kernel
theorem dX5_readLine_18 : decode cX5_readLine 18 = .ok (.invokestatic 43, 3) := by decide +kernel
theorem dX5_readLine_21 : decode cX5_readLine 21 = .ok (.invokevirtual 47, 3) := by decide +kernel
theorem dX5_readLine_24 : decode cX5_readLine 24 = .ok (.ifCond .eq 40, 3) := by decide +kernel
theorem dX5_readLine_27 : decode cX5_readLine 27 = .ok (.aload_n 1, 1) := by decide +kernel
theorem dX5_readLine_28 : decode cX5_readLine 28 = .ok (.invokevirtual 37, 3) := by decide +kernel
theorem dX5_readLine_31 : decode cX5_readLine 31 = .ok (.aload_n 1, 1) := by decide +kernel
theorem dX5_readLine_32 : decode cX5_readLine 32 = .ok (.iconst 0, 1) := by decide +kernel
theorem dX5_readLine_33 : decode cX5_readLine 33 = .ok (.iload_n 3, 1) := by decide +kernel
theorem dX5_readLine_34 : decode cX5_readLine 34 = .ok (.invokestatic 51, 3) := by decide +kernel
theorem dX5_readLine_37 : decode cX5_readLine 37 = .ok (.invokevirtual 55, 3) := by decide +kernel
theorem dX5_readLine_40 : decode cX5_readLine 40 = .ok (.istore 4, 2) := by decide +kernel
theorem dX5_readLine_42 : decode cX5_readLine 42 = .ok (.iload 4, 2) := by decide +kernel
theorem dX5_readLine_44 : decode cX5_readLine 44 = .ok (.iconst (-1), 1) := by decide +kernel
theorem dX5_readLine_45 : decode cX5_readLine 45 = .ok (.if_icmp .ne 5, 3) := by decide +kernel
theorem dX5_readLine_48 : decode cX5_readLine 48 = .ok (.iconst 0, 1) := by decide +kernel
theorem dX5_readLine_49 : decode cX5_readLine 49 = .ok (.ireturn, 1) := by decide +kernel
theorem dX5_readLine_50 : decode cX5_readLine 50 = .ok (.aload_n 0, 1) := by decide +kernel
theorem dX5_readLine_51 : decode cX5_readLine 51 = .ok (.getfield 11, 3) := by decide +kernel
theorem dX5_readLine_54 : decode cX5_readLine 54 = .ok (.iload_n 2, 1) := by decide +kernel
theorem dX5_readLine_55 : decode cX5_readLine 55 = .ok (.iload_n 3, 1) := by decide +kernel
theorem dX5_readLine_56 : decode cX5_readLine 56 = .ok (.iadd, 1) := by decide +kernel
theorem dX5_readLine_57 : decode cX5_readLine 57 = .ok (.iload 4, 2) := by decide +kernel
theorem dX5_readLine_59 : decode cX5_readLine 59 = .ok (.iastore, 1) := by decide +kernel
theorem dX5_readLine_60 : decode cX5_readLine 60 = .ok (.aload_n 1, 1) := by decide +kernel
theorem dX5_readLine_61 : decode cX5_readLine 61 = .ok (.invokevirtual 37, 3) := by decide +kernel
theorem dX5_readLine_64 : decode cX5_readLine 64 = .ok (.iinc 3 1, 3) := by decide +kernel
theorem dX5_readLine_67 : decode cX5_readLine 67 = .ok (.goto (-65), 3) := by decide +kernel
theorem dX5_readLine_70 : decode cX5_readLine 70 = .ok (.aload_n 0, 1) := by decide +kernel
theorem dX5_readLine_71 : decode cX5_readLine 71 = .ok (.getfield 11, 3) := by decide +kernel
theorem dX5_readLine_74 : decode cX5_readLine 74 = .ok (.iload_n 2, 1) := by decide +kernel
theorem dX5_readLine_75 : decode cX5_readLine 75 = .ok (.iconst 4, 1) := by decide +kernel
theorem dX5_readLine_76 : decode cX5_readLine 76 = .ok (.iadd, 1) := by decide +kernel
theorem dX5_readLine_77 : decode cX5_readLine 77 = .ok (.aload_n 1, 1) := by decide +kernel
theorem dX5_readLine_78 : decode cX5_readLine 78 = .ok (.invokestatic 59, 3) := by decide +kernel
theorem dX5_readLine_81 : decode cX5_readLine 81 = .ok (.iastore, 1) := by decide +kernel
theorem dX5_readLine_82 : decode cX5_readLine 82 = .ok (.aload_n 0, 1) := by decide +kernel
theorem dX5_readLine_83 : decode cX5_readLine 83 = .ok (.getfield 11, 3) := by decide +kernel
theorem dX5_readLine_86 : decode cX5_readLine 86 = .ok (.iload_n 2, 1) := by decide +kernel
theorem dX5_readLine_87 : decode cX5_readLine 87 = .ok (.iconst 4, 1) := by decide +kernel
theorem dX5_readLine_88 : decode cX5_readLine 88 = .ok (.iadd, 1) := by decide +kernel
theorem dX5_readLine_89 : decode cX5_readLine 89 = .ok (.iaload, 1) := by decide +kernel
theorem dX5_readLine_90 : decode cX5_readLine 90 = .ok (.iconst (-1), 1) := by decide +kernel
theorem dX5_readLine_91 : decode cX5_readLine 91 = .ok (.if_icmp .eq 7, 3) := by decide +kernel
theorem dX5_readLine_94 : decode cX5_readLine 94 = .ok (.iconst 1, 1) := by decide +kernel
theorem dX5_readLine_95 : decode cX5_readLine 95 = .ok (.goto 4, 3) := by decide +kernel
theorem dX5_readLine_98 : decode cX5_readLine 98 = .ok (.iconst 0, 1) := by decide +kernel
theorem dX5_readLine_99 : decode cX5_readLine 99 = .ok (.ireturn, 1) := by decide +kernel
theorem dX5_wordOf_0 : decode cX5_wordOf 0 = .ok (.iload_n 0, 1) := by decide +kernel
theorem dX5_wordOf_1 : decode cX5_wordOf 1 = .ok (.tableswitch 36 0 2 #[27, 30, 33], 27) := by decide +kernel
theorem dX5_wordOf_28 : decode cX5_wordOf 28 = .ok (.ldc 63, 2) := by decide +kernel
theorem dX5_wordOf_30 : decode cX5_wordOf 30 = .ok (.areturn, 1) := by decide +kernel
theorem dX5_wordOf_31 : decode cX5_wordOf 31 = .ok (.ldc 65, 2) := by decide +kernel
theorem dX5_wordOf_33 : decode cX5_wordOf 33 = .ok (.areturn, 1) := by decide +kernel
theorem dX5_wordOf_34 : decode cX5_wordOf 34 = .ok (.ldc 67, 2) := by decide +kernel
theorem dX5_wordOf_36 : decode cX5_wordOf 36 = .ok (.areturn, 1) := by decide +kernel
theorem dX5_wordOf_37 : decode cX5_wordOf 37 = .ok (.ldc 69, 2) := by decide +kernel
theorem dX5_wordOf_39 : decode cX5_wordOf 39 = .ok (.areturn, 1) := by decide +kernel
theorem dX6_init_0 : decode cX6_init 0 = .ok (.aload_n 0, 1) := by decide +kernel
theorem dX6_init_1 : decode cX6_init 1 = .ok (.invokespecial 3, 3) := by decide +kernel
theorem dX6_init_4 : decode cX6_init 4 = .ok (.aload_n 0, 1) := by decide +kernel
theorem dX6_init_5 : decode cX6_init 5 = .ok (.new 9, 3) := by decide +kernel
theorem dX6_init_8 : decode cX6_init 8 = .ok (.dup, 1) := by decide +kernel
theorem dX6_init_9 : decode cX6_init 9 = .ok (.invokespecial 11, 3) := by decide +kernel
theorem dX6_init_12 : decode cX6_init 12 = .ok (.putfield 12, 3) := by decide +kernel
theorem dX6_init_15 : decode cX6_init 15 = .ok (.return_, 1) := by decide +kernel
theorem dX7_init_0 : decode cX7_init 0 = .ok (.aload_n 0, 1) := by decide +kernel
theorem dX7_init_1 : decode cX7_init 1 = .ok (.invokespecial 3, 3) := by decide +kernel
theorem dX7_init_4 : decode cX7_init 4 = .ok (.aload_n 0, 1) := by decide +kernel
theorem dX7_init_5 : decode cX7_init 5 = .ok (.new 9, 3) := by decide +kernel
theorem dX7_init_8 : decode cX7_init 8 = .ok (.dup, 1) := by decide +kernel
theorem dX7_init_9 : decode cX7_init 9 = .ok (.invokespecial 11, 3) := by decide +kernel
theorem dX7_init_12 : decode cX7_init 12 = .ok (.putfield 12, 3) := by decide +kernel
theorem dX7_init_15 : decode cX7_init 15 = .ok (.aload_n 0, 1) := by decide +kernel
theorem dX7_init_16 : decode cX7_init 16 = .ok (.bipush 9, 2) := by decide +kernel
theorem dX7_init_18 : decode cX7_init 18 = .ok (.newarray .int, 2) := by decide +kernel
theorem dX7_init_20 : decode cX7_init 20 = .ok (.putfield 18, 3) := by decide +kernel
theorem dX7_init_23 : decode cX7_init 23 = .ok (.aload_n 0, 1) := by decide +kernel
theorem dX7_init_24 : decode cX7_init 24 = .ok (.bipush 7, 2) := by decide +kernel
theorem dX7_init_26 : decode cX7_init 26 = .ok (.newarray .int, 2) := by decide +kernel
theorem dX7_init_28 : decode cX7_init 28 = .ok (.putfield 22, 3) := by decide +kernel
theorem dX7_init_31 : decode cX7_init 31 = .ok (.aload_n 0, 1) := by decide +kernel
theorem dX7_init_32 : decode cX7_init 32 = .ok (.bipush 108, 2) := by decide +kernel
theorem dX7_init_34 : decode cX7_init 34 = .ok (.newarray .int, 2) := by decide +kernel
theorem dX7_init_36 : decode cX7_init 36 = .ok (.putfield 25, 3) := by decide +kernel
theorem dX7_init_39 : decode cX7_init 39 = .ok (.aload_n 0, 1) := by decide +kernel
theorem dX7_init_40 : decode cX7_init 40 = .ok (.bipush 108, 2) := by decide +kernel
theorem dX7_init_42 : decode cX7_init 42 = .ok (.newarray .int, 2) := by decide +kernel
theorem dX7_init_44 : decode cX7_init 44 = .ok (.putfield 28, 3) := by decide +kernel
theorem dX7_init_47 : decode cX7_init 47 = .ok (.aload_n 0, 1) := by decide +kernel
theorem dX7_init_48 : decode cX7_init 48 = .ok (.bipush 48, 2) := by decide +kernel
theorem dX7_init_50 : decode cX7_init 50 = .ok (.newarray .long, 2) := by decide +kernel
theorem dX7_init_52 : decode cX7_init 52 = .ok (.putfield 31, 3) := by decide +kernel
theorem dX7_init_55 : decode cX7_init 55 = .ok (.return_, 1) := by decide +kernel
theorem dX8_add_0 : decode cX8_add 0 = .ok (.aload_n 0, 1) := by decide +kernel
theorem dX8_add_1 : decode cX8_add 1 = .ok (.getfield 19, 3) := by decide +kernel
theorem dX8_add_4 : decode cX8_add 4 = .ok (.aload_n 0, 1) := by decide +kernel
theorem dX8_add_5 : decode cX8_add 5 = .ok (.getfield 11, 3) := by decide +kernel
theorem dX8_add_8 : decode cX8_add 8 = .ok (.arraylength, 1) := by decide +kernel
theorem dX8_add_9 : decode cX8_add 9 = .ok (.if_icmp .ge 23, 3) := by decide +kernel
theorem dX8_add_12 : decode cX8_add 12 = .ok (.aload_n 0, 1) := by decide +kernel
theorem dX8_add_13 : decode cX8_add 13 = .ok (.getfield 11, 3) := by decide +kernel
theorem dX8_add_16 : decode cX8_add 16 = .ok (.aload_n 0, 1) := by decide +kernel
theorem dX8_add_17 : decode cX8_add 17 = .ok (.getfield 19, 3) := by decide +kernel
theorem dX8_add_20 : decode cX8_add 20 = .ok (.iload_n 1, 1) := by decide +kernel
theorem dX8_add_21 : decode cX8_add 21 = .ok (.iastore, 1) := by decide +kernel
theorem dX8_add_22 : decode cX8_add 22 = .ok (.aload_n 0, 1) := by decide +kernel
theorem dX8_add_23 : decode cX8_add 23 = .ok (.dup, 1) := by decide +kernel
theorem dX8_add_24 : decode cX8_add 24 = .ok (.getfield 19, 3) := by decide +kernel
theorem dX8_add_27 : decode cX8_add 27 = .ok (.iconst 1, 1) := by decide +kernel
theorem dX8_add_28 : decode cX8_add 28 = .ok (.iadd, 1) := by decide +kernel
theorem dX8_add_29 : decode cX8_add 29 = .ok (.putfield 19, 3) := by decide +kernel
theorem dX8_add_32 : decode cX8_add 32 = .ok (.return_, 1) := by decide +kernel
theorem dX8_digits_0 : decode cX8_digits 0 = .ok (.aload_n 0, 1) := by decide +kernel
theorem dX8_digits_1 : decode cX8_digits 1 = .ok (.getfield 45, 3) := by decide +kernel
theorem dX8_digits_4 : decode cX8_digits 4 = .ok (.iconst 3, 1) := by decide +kernel
theorem dX8_digits_5 : decode cX8_digits 5 = .ok (.if_icmp .ne 15, 3) := by decide +kernel
theorem dX8_digits_8 : decode cX8_digits 8 = .ok (.aload_n 0, 1) := by decide +kernel
theorem dX8_digits_9 : decode cX8_digits 9 = .ok (.getfield 36, 3) := by decide +kernel
theorem dX8_digits_12 : decode cX8_digits 12 = .ok (.aload_n 0, 1) := by decide +kernel
theorem dX8_digits_13 : decode cX8_digits 13 = .ok (.getfield 42, 3) := by decide +kernel
theorem dX8_digits_16 : decode cX8_digits 16 = .ok (.isub, 1) := by decide +kernel
theorem dX8_digits_17 : decode cX8_digits 17 = .ok (.goto 4, 3) := by decide +kernel
theorem dX8_digits_20 : decode cX8_digits 20 = .ok (.iconst 0, 1) := by decide +kernel
theorem dX8_digits_21 : decode cX8_digits 21 = .ok (.ireturn, 1) := by decide +kernel
theorem dX8_firstPart_0 : decode cX8_firstPart 0 = .ok (.aload_n 0, 1) := by decide +kernel
theorem dX8_firstPart_1 : decode cX8_firstPart 1 = .ok (.iconst 0, 1) := by decide +kernel
theorem dX8_firstPart_2 : decode cX8_firstPart 2 = .ok (.putfield 36, 3) := by decide +kernel
theorem dX8_firstPart_5 : decode cX8_firstPart 5 = .ok (.aload_n 0, 1) := by decide +kernel
theorem dX8_firstPart_6 : decode cX8_firstPart 6 = .ok (.invokevirtual 39, 3) := by decide +kernel
theorem dX8_firstPart_9 : decode cX8_firstPart 9 = .ok (.return_, 1) := by decide +kernel
theorem dX8_init_0 : decode cX8_init 0 = .ok (.aload_n 0, 1) := by decide +kernel
theorem dX8_init_1 : decode cX8_init 1 = .ok (.invokespecial 3, 3) := by decide +kernel
theorem dX8_init_4 : decode cX8_init 4 = .ok (.aload_n 0, 1) := by decide +kernel
theorem dX8_init_5 : decode cX8_init 5 = .ok (.sipush 520, 3) := by decide +kernel
theorem dX8_init_8 : decode cX8_init 8 = .ok (.newarray .int, 2) := by decide +kernel
theorem dX8_init_10 : decode cX8_init 10 = .ok (.putfield 11, 3) := by decide +kernel
theorem dX8_init_13 : decode cX8_init 13 = .ok (.return_, 1) := by decide +kernel
theorem dX8_isWord_0 : decode cX8_isWord 0 = .ok (.aload_n 0, 1) := by decide +kernel
theorem dX8_isWord_1 : decode cX8_isWord 1 = .ok (.getfield 45, 3) := by decide +kernel
theorem dX8_isWord_4 : decode cX8_isWord 4 = .ok (.iconst 2, 1) := by decide +kernel
theorem dX8_isWord_5 : decode cX8_isWord 5 = .ok (.if_icmp .ne 19, 3) := by decide +kernel
theorem dX8_isWord_8 : decode cX8_isWord 8 = .ok (.aload_n 0, 1) := by decide +kernel
theorem dX8_isWord_9 : decode cX8_isWord 9 = .ok (.getfield 36, 3) := by decide +kernel
theorem dX8_isWord_12 : decode cX8_isWord 12 = .ok (.aload_n 0, 1) := by decide +kernel
theorem dX8_isWord_13 : decode cX8_isWord 13 = .ok (.getfield 42, 3) := by decide +kernel
theorem dX8_isWord_16 : decode cX8_isWord 16 = .ok (.isub, 1) := by decide +kernel
theorem dX8_isWord_17 : decode cX8_isWord 17 = .ok (.aload_n 1, 1) := by decide +kernel
theorem dX8_isWord_18 : decode cX8_isWord 18 = .ok (.invokevirtual 23, 3) := by decide +kernel
theorem dX8_isWord_21 : decode cX8_isWord 21 = .ok (.if_icmp .eq 5, 3) := by decide +kernel
theorem dX8_isWord_24 : decode cX8_isWord 24 = .ok (.iconst 0, 1) := by decide +kernel
theorem dX8_isWord_25 : decode cX8_isWord 25 = .ok (.ireturn, 1) := by decide +kernel
theorem dX8_isWord_26 : decode cX8_isWord 26 = .ok (.iconst 0, 1) := by decide +kernel
theorem dX8_isWord_27 : decode cX8_isWord 27 = .ok (.istore_n 2, 1) := by decide +kernel
theorem dX8_isWord_28 : decode cX8_isWord 28 = .ok (.iload_n 2, 1) := by decide +kernel
theorem dX8_isWord_29 : decode cX8_isWord 29 = .ok (.aload_n 1, 1) := by decide +kernel
theorem dX8_isWord_30 : decode cX8_isWord 30 = .ok (.invokevirtual 23, 3) := by decide +kernel
theorem dX8_isWord_33 : decode cX8_isWord 33 = .ok (.if_icmp .ge 30, 3) := by decide +kernel
theorem dX8_isWord_36 : decode cX8_isWord 36 = .ok (.aload_n 0, 1) := by decide +kernel
theorem dX8_isWord_37 : decode cX8_isWord 37 = .ok (.getfield 11, 3) := by decide +kernel
theorem dX8_isWord_40 : decode cX8_isWord 40 = .ok (.aload_n 0, 1) := by decide +kernel
theorem dX8_isWord_41 : decode cX8_isWord 41 = .ok (.getfield 42, 3) := by decide +kernel
theorem dX8_isWord_44 : decode cX8_isWord 44 = .ok (.iload_n 2, 1) := by decide +kernel
theorem dX8_isWord_45 : decode cX8_isWord 45 = .ok (.iadd, 1) := by decide +kernel
theorem dX8_isWord_46 : decode cX8_isWord 46 = .ok (.iaload, 1) := by decide +kernel
theorem dX8_isWord_47 : decode cX8_isWord 47 = .ok (.aload_n 1, 1) := by decide +kernel
theorem dX8_isWord_48 : decode cX8_isWord 48 = .ok (.iload_n 2, 1) := by decide +kernel
theorem dX8_isWord_49 : decode cX8_isWord 49 = .ok (.invokevirtual 28, 3) := by decide +kernel
theorem dX8_isWord_52 : decode cX8_isWord 52 = .ok (.if_icmp .eq 5, 3) := by decide +kernel
theorem dX8_isWord_55 : decode cX8_isWord 55 = .ok (.iconst 0, 1) := by decide +kernel
theorem dX8_isWord_56 : decode cX8_isWord 56 = .ok (.ireturn, 1) := by decide +kernel
theorem dX8_isWord_57 : decode cX8_isWord 57 = .ok (.iinc 2 1, 3) := by decide +kernel
theorem dX8_isWord_60 : decode cX8_isWord 60 = .ok (.goto (-32), 3) := by decide +kernel
theorem dX8_isWord_63 : decode cX8_isWord 63 = .ok (.iconst 1, 1) := by decide +kernel
theorem dX8_isWord_64 : decode cX8_isWord 64 = .ok (.ireturn, 1) := by decide +kernel
theorem dX8_nextPart_0 : decode cX8_nextPart 0 = .ok (.aload_n 0, 1) := by decide +kernel
theorem dX8_nextPart_1 : decode cX8_nextPart 1 = .ok (.getfield 36, 3) := by decide +kernel
theorem dX8_nextPart_4 : decode cX8_nextPart 4 = .ok (.istore_n 1, 1) := by decide +kernel
theorem dX8_nextPart_5 : decode cX8_nextPart 5 = .ok (.iload_n 1, 1) := by decide +kernel
theorem dX8_nextPart_6 : decode cX8_nextPart 6 = .ok (.aload_n 0, 1) := by decide +kernel
theorem dX8_nextPart_7 : decode cX8_nextPart 7 = .ok (.getfield 19, 3) := by decide +kernel
theorem dX8_nextPart_10 : decode cX8_nextPart 10 = .ok (.if_icmp .ge 20, 3) := by decide +kernel
theorem dX8_nextPart_13 : decode cX8_nextPart 13 = .ok (.aload_n 0, 1) := by decide +kernel
theorem dX8_nextPart_14 : decode cX8_nextPart 14 = .ok (.getfield 11, 3) := by decide +kernel
theorem dX8_nextPart_17 : decode cX8_nextPart 17 = .ok (.iload_n 1, 1) := by decide +kernel
theorem dX8_nextPart_18 : decode cX8_nextPart 18 = .ok (.iaload, 1) := by decide +kernel
theorem dX8_nextPart_19 : decode cX8_nextPart 19 = .ok (.bipush 32, 2) := by decide +kernel
theorem dX8_nextPart_21 : decode cX8_nextPart 21 = .ok (.if_icmp .ne 9, 3) := by decide +kernel
theorem dX8_nextPart_24 : decode cX8_nextPart 24 = .ok (.iinc 1 1, 3) := by decide +kernel
theorem dX8_nextPart_27 : decode cX8_nextPart 27 = .ok (.goto (-22), 3) := by decide +kernel
theorem dX8_nextPart_30 : decode cX8_nextPart 30 = .ok (.aload_n 0, 1) := by decide +kernel
theorem dX8_nextPart_31 : decode cX8_nextPart 31 = .ok (.iload_n 1, 1) := by decide +kernel
theorem dX8_nextPart_32 : decode cX8_nextPart 32 = .ok (.putfield 42, 3) := by decide +kernel
theorem dX8_nextPart_35 : decode cX8_nextPart 35 = .ok (.aload_n 0, 1) := by decide +kernel
theorem dX8_nextPart_36 : decode cX8_nextPart 36 = .ok (.iconst 0, 1) := by decide +kernel
theorem dX8_nextPart_37 : decode cX8_nextPart 37 = .ok (.putfield 45, 3) := by decide +kernel
theorem dX8_nextPart_40 : decode cX8_nextPart 40 = .ok (.iload_n 1, 1) := by decide +kernel
theorem dX8_nextPart_41 : decode cX8_nextPart 41 = .ok (.aload_n 0, 1) := by decide +kernel
theorem dX8_nextPart_42 : decode cX8_nextPart 42 = .ok (.getfield 19, 3) := by decide +kernel
theorem dX8_nextPart_45 : decode cX8_nextPart 45 = .ok (.if_icmp .ge 19, 3) := by decide +kernel
theorem dX8_nextPart_48 : decode cX8_nextPart 48 = .ok (.aload_n 0, 1) := by decide +kernel
theorem dX8_nextPart_49 : decode cX8_nextPart 49 = .ok (.aload_n 0, 1) := by decide +kernel
theorem dX8_nextPart_50 : decode cX8_nextPart 50 = .ok (.getfield 11, 3) := by decide +kernel
theorem dX8_nextPart_53 : decode cX8_nextPart 53 = .ok (.iload_n 1, 1) := by decide +kernel
theorem dX8_nextPart_54 : decode cX8_nextPart 54 = .ok (.iaload, 1) := by decide +kernel
theorem dX8_nextPart_55 : decode cX8_nextPart 55 = .ok (.invokestatic 48, 3) := by decide +kernel
theorem dX8_nextPart_58 : decode cX8_nextPart 58 = .ok (.putfield 45, 3) := by decide +kernel
theorem dX8_nextPart_61 : decode cX8_nextPart 61 = .ok (.iinc 1 1, 3) := by decide +kernel
theorem dX8_nextPart_64 : decode cX8_nextPart 64 = .ok (.aload_n 0, 1) := by decide +kernel
theorem dX8_nextPart_65 : decode cX8_nextPart 65 = .ok (.getfield 45, 3) := by decide +kernel
theorem dX8_nextPart_68 : decode cX8_nextPart 68 = .ok (.iconst 2, 1) := by decide +kernel
theorem dX8_nextPart_69 : decode cX8_nextPart 69 = .ok (.if_icmp .eq 11, 3) := by decide +kernel
theorem dX8_nextPart_72 : decode cX8_nextPart 72 = .ok (.aload_n 0, 1) := by decide +kernel
theorem dX8_nextPart_73 : decode cX8_nextPart 73 = .ok (.getfield 45, 3) := by decide +kernel
theorem dX8_nextPart_76 : decode cX8_nextPart 76 = .ok (.iconst 3, 1) := by decide +kernel
theorem dX8_nextPart_77 : decode cX8_nextPart 77 = .ok (.if_icmp .ne 7, 3) := by decide +kernel
theorem dX8_nextPart_80 : decode cX8_nextPart 80 = .ok (.iconst 1, 1) := by decide +kernel
theorem dX8_nextPart_81 : decode cX8_nextPart 81 = .ok (.goto 4, 3) := by decide +kernel
theorem dX8_nextPart_84 : decode cX8_nextPart 84 = .ok (.iconst 0, 1) := by decide +kernel
theorem dX8_nextPart_85 : decode cX8_nextPart 85 = .ok (.istore_n 2, 1) := by decide +kernel
theorem dX8_nextPart_86 : decode cX8_nextPart 86 = .ok (.iload_n 2, 1) := by decide +kernel
theorem dX8_nextPart_87 : decode cX8_nextPart 87 = .ok (.ifCond .eq 33, 3) := by decide +kernel
theorem dX8_nextPart_90 : decode cX8_nextPart 90 = .ok (.iload_n 1, 1) := by decide +kernel
theorem dX8_nextPart_91 : decode cX8_nextPart 91 = .ok (.aload_n 0, 1) := by decide +kernel
theorem dX8_nextPart_92 : decode cX8_nextPart 92 = .ok (.getfield 19, 3) := by decide +kernel
theorem dX8_nextPart_95 : decode cX8_nextPart 95 = .ok (.if_icmp .ge 25, 3) := by decide +kernel
theorem dX8_nextPart_98 : decode cX8_nextPart 98 = .ok (.aload_n 0, 1) := by decide +kernel
theorem dX8_nextPart_99 : decode cX8_nextPart 99 = .ok (.getfield 11, 3) := by decide +kernel
theorem dX8_nextPart_102 : decode cX8_nextPart 102 = .ok (.iload_n 1, 1) := by decide +kernel
theorem dX8_nextPart_103 : decode cX8_nextPart 103 = .ok (.iaload, 1) := by decide +kernel
theorem dX8_nextPart_104 : decode cX8_nextPart 104 = .ok (.invokestatic 48, 3) := by decide +kernel
theorem dX8_nextPart_107 : decode cX8_nextPart 107 = .ok (.aload_n 0, 1) := by decide +kernel
theorem dX8_nextPart_108 : decode cX8_nextPart 108 = .ok (.getfield 45, 3) := by decide +kernel
theorem dX8_nextPart_111 : decode cX8_nextPart 111 = .ok (.if_icmp .ne 9, 3) := by decide +kernel
theorem dX8_nextPart_114 : decode cX8_nextPart 114 = .ok (.iinc 1 1, 3) := by decide +kernel
theorem dX8_nextPart_117 : decode cX8_nextPart 117 = .ok (.goto (-31), 3) := by decide +kernel
theorem dX8_nextPart_120 : decode cX8_nextPart 120 = .ok (.aload_n 0, 1) := by decide +kernel
theorem dX8_nextPart_121 : decode cX8_nextPart 121 = .ok (.iload_n 1, 1) := by decide +kernel
theorem dX8_nextPart_122 : decode cX8_nextPart 122 = .ok (.putfield 36, 3) := by decide +kernel
theorem dX8_nextPart_125 : decode cX8_nextPart 125 = .ok (.return_, 1) := by decide +kernel
theorem dX8_number_0 : decode cX8_number 0 = .ok (.aload_n 0, 1) := by decide +kernel
theorem dX8_number_1 : decode cX8_number 1 = .ok (.invokevirtual 52, 3) := by decide +kernel
theorem dX8_number_4 : decode cX8_number 4 = .ok (.iconst 1, 1) := by decide +kernel
theorem dX8_number_5 : decode cX8_number 5 = .ok (.if_icmp .ne 11, 3) := by decide +kernel
theorem dX8_number_8 : decode cX8_number 8 = .ok (.aload_n 0, 1) := by decide +kernel
theorem dX8_number_9 : decode cX8_number 9 = .ok (.iconst 0, 1) := by decide +kernel
theorem dX8_number_10 : decode cX8_number 10 = .ok (.invokevirtual 55, 3) := by decide +kernel
theorem dX8_number_13 : decode cX8_number 13 = .ok (.goto 4, 3) := by decide +kernel
theorem dX8_number_16 : decode cX8_number 16 = .ok (.iconst (-1), 1) := by decide +kernel
theorem dX8_number_17 : decode cX8_number 17 = .ok (.istore_n 3, 1) := by decide +kernel
theorem dX8_number_18 : decode cX8_number 18 = .ok (.iload_n 3, 1) := by decide +kernel
theorem dX8_number_19 : decode cX8_number 19 = .ok (.iload_n 1, 1) := by decide +kernel
theorem dX8_number_20 : decode cX8_number 20 = .ok (.if_icmp .lt 8, 3) := by decide +kernel
theorem dX8_number_23 : decode cX8_number 23 = .ok (.iload_n 3, 1) := by decide +kernel
theorem dX8_number_24 : decode cX8_number 24 = .ok (.iload_n 2, 1) := by decide +kernel
theorem dX8_number_25 : decode cX8_number 25 = .ok (.if_icmp .le 7, 3) := by decide +kernel
theorem dX8_number_28 : decode cX8_number 28 = .ok (.iconst (-1), 1) := by decide +kernel
theorem dX8_number_29 : decode cX8_number 29 = .ok (.goto 4, 3) := by decide +kernel
theorem dX8_number_32 : decode cX8_number 32 = .ok (.iload_n 3, 1) := by decide +kernel
theorem dX8_number_33 : decode cX8_number 33 = .ok (.ireturn, 1) := by decide +kernel
theorem dX8_put_0 : decode cX8_put 0 = .ok (.bipush 24, 2) := by decide +kernel
theorem dX8_put_2 : decode cX8_put 2 = .ok (.istore_n 2, 1) := by decide +kernel
theorem dX8_put_3 : decode cX8_put 3 = .ok (.iload_n 2, 1) := by decide +kernel
theorem dX8_put_4 : decode cX8_put 4 = .ok (.ifCond .lt 26, 3) := by decide +kernel
theorem dX8_put_7 : decode cX8_put 7 = .ok (.iload_n 1, 1) := by decide +kernel
theorem dX8_put_8 : decode cX8_put 8 = .ok (.iload_n 2, 1) := by decide +kernel
theorem dX8_put_9 : decode cX8_put 9 = .ok (.iushr, 1) := by decide +kernel
theorem dX8_put_10 : decode cX8_put 10 = .ok (.sipush 255, 3) := by decide +kernel
theorem dX8_put_13 : decode cX8_put 13 = .ok (.iand, 1) := by decide +kernel
theorem dX8_put_14 : decode cX8_put 14 = .ok (.istore_n 3, 1) := by decide +kernel
theorem dX8_put_15 : decode cX8_put 15 = .ok (.iload_n 3, 1) := by decide +kernel
theorem dX8_put_16 : decode cX8_put 16 = .ok (.ifCond .eq 8, 3) := by decide +kernel
theorem dX8_put_19 : decode cX8_put 19 = .ok (.aload_n 0, 1) := by decide +kernel
theorem dX8_put_20 : decode cX8_put 20 = .ok (.iload_n 3, 1) := by decide +kernel
theorem dX8_put_21 : decode cX8_put 21 = .ok (.invokevirtual 15, 3) := by decide +kernel
theorem dX8_put_24 : decode cX8_put 24 = .ok (.iinc 2 (-8), 3) := by decide +kernel
theorem dX8_put_27 : decode cX8_put 27 = .ok (.goto (-24), 3) := by decide +kernel
theorem dX8_put_30 : decode cX8_put 30 = .ok (.return_, 1) := by decide +kernel
theorem dX9_init_0 : decode cX9_init 0 = .ok (.aload_n 0, 1) := by decide +kernel
theorem dX9_init_1 : decode cX9_init 1 = .ok (.invokespecial 1, 3) := by decide +kernel
theorem dX9_init_4 : decode cX9_init 4 = .ok (.return_, 1) := by decide +kernel
