theorem dX10_isPeer_0 : decode cX10_isPeer 0 = .ok (.aload_n 0, 1) := by decide +kernel
theorem dX10_isPeer_1 : decode cX10_isPeer 1 = .ok (.getfield 108, 3) := by decide +kernel
theorem dX10_isPeer_4 : decode cX10_isPeer 4 = .ok (.ifCond .eq 22, 3) := by decide +kernel
theorem dX10_isPeer_7 : decode cX10_isPeer 7 = .ok (.iload_n 1, 1) := by decide +kernel
theorem dX10_isPeer_8 : decode cX10_isPeer 8 = .ok (.ifCond .lt 18, 3) := by decide +kernel
theorem dX10_isPeer_11 : decode cX10_isPeer 11 = .ok (.iload_n 1, 1) := by decide +kernel
theorem dX10_isPeer_12 : decode cX10_isPeer 12 = .ok (.aload_n 0, 1) := by decide +kernel
theorem dX10_isPeer_13 : decode cX10_isPeer 13 = .ok (.getfield 23, 3) := by decide +kernel
theorem dX10_isPeer_16 : decode cX10_isPeer 16 = .ok (.getfield 132, 3) := by decide +kernel
theorem dX10_isPeer_19 : decode cX10_isPeer 19 = .ok (.if_icmp .ge 7, 3) := by decide +kernel
theorem dX10_isPeer_22 : decode cX10_isPeer 22 = .ok (.iconst 1, 1) := by decide +kernel
theorem dX10_isPeer_23 : decode cX10_isPeer 23 = .ok (.goto 4, 3) := by decide +kernel
theorem dX10_isPeer_26 : decode cX10_isPeer 26 = .ok (.iconst 0, 1) := by decide +kernel
theorem dX10_isPeer_27 : decode cX10_isPeer 27 = .ok (.ireturn, 1) := by decide +kernel
theorem dX10_peer_0 : decode cX10_peer 0 = .ok (.aload_n 0, 1) := by decide +kernel
theorem dX10_peer_1 : decode cX10_peer 1 = .ok (.iload_n 1, 1) := by decide +kernel
theorem dX10_peer_2 : decode cX10_peer 2 = .ok (.invokevirtual 217, 3) := by decide +kernel
theorem dX10_peer_5 : decode cX10_peer 5 = .ok (.ifCond .ne 5, 3) := by decide +kernel
theorem dX10_peer_8 : decode cX10_peer 8 = .ok (.iconst (-1), 1) := by decide +kernel
theorem dX10_peer_9 : decode cX10_peer 9 = .ok (.ireturn, 1) := by decide +kernel
theorem dX10_peer_10 : decode cX10_peer 10 = .ok (.iload_n 2, 1) := by decide +kernel
theorem dX10_peer_11 : decode cX10_peer 11 = .ok (.tableswitch 74 0 3 #[29, 41, 50, 62], 29) := by decide +kernel
theorem dX10_peer_40 : decode cX10_peer 40 = .ok (.aload_n 0, 1) := by decide +kernel
theorem dX10_peer_41 : decode cX10_peer 41 = .ok (.getfield 60, 3) := by decide +kernel
theorem dX10_peer_44 : decode cX10_peer 44 = .ok (.getfield 211, 3) := by decide +kernel
theorem dX10_peer_47 : decode cX10_peer 47 = .ok (.iload_n 1, 1) := by decide +kernel
theorem dX10_peer_48 : decode cX10_peer 48 = .ok (.invokestatic 235, 3) := by decide +kernel
theorem dX10_peer_51 : decode cX10_peer 51 = .ok (.ireturn, 1) := by decide +kernel
theorem dX10_peer_52 : decode cX10_peer 52 = .ok (.aload_n 0, 1) := by decide +kernel
theorem dX10_peer_53 : decode cX10_peer 53 = .ok (.getfield 60, 3) := by decide +kernel
theorem dX10_peer_56 : decode cX10_peer 56 = .ok (.iload_n 1, 1) := by decide +kernel
theorem dX10_peer_57 : decode cX10_peer 57 = .ok (.invokevirtual 238, 3) := by decide +kernel
theorem dX10_peer_60 : decode cX10_peer 60 = .ok (.ireturn, 1) := by decide +kernel
theorem dX10_peer_61 : decode cX10_peer 61 = .ok (.aload_n 0, 1) := by decide +kernel
theorem dX10_peer_62 : decode cX10_peer 62 = .ok (.getfield 60, 3) := by decide +kernel
theorem dX10_peer_65 : decode cX10_peer 65 = .ok (.getfield 155, 3) := by decide +kernel
theorem dX10_peer_68 : decode cX10_peer 68 = .ok (.iload_n 1, 1) := by decide +kernel
theorem dX10_peer_69 : decode cX10_peer 69 = .ok (.invokestatic 235, 3) := by decide +kernel
theorem dX10_peer_72 : decode cX10_peer 72 = .ok (.ireturn, 1) := by decide +kernel
theorem dX10_peer_73 : decode cX10_peer 73 = .ok (.aload_n 0, 1) := by decide +kernel
theorem dX10_peer_74 : decode cX10_peer 74 = .ok (.getfield 60, 3) := by decide +kernel
theorem dX10_peer_77 : decode cX10_peer 77 = .ok (.getfield 154, 3) := by decide +kernel
theorem dX10_peer_80 : decode cX10_peer 80 = .ok (.iload_n 1, 1) := by decide +kernel
theorem dX10_peer_81 : decode cX10_peer 81 = .ok (.invokestatic 235, 3) := by decide +kernel
theorem dX10_peer_84 : decode cX10_peer 84 = .ok (.ireturn, 1) := by decide +kernel
theorem dX10_peer_85 : decode cX10_peer 85 = .ok (.iconst (-1), 1) := by decide +kernel
theorem dX10_peer_86 : decode cX10_peer 86 = .ok (.ireturn, 1) := by decide +kernel
theorem dX10_round_0 : decode cX10_round 0 = .ok (.aload_n 0, 1) := by decide +kernel
theorem dX10_round_1 : decode cX10_round 1 = .ok (.invokevirtual 183, 3) := by decide +kernel
theorem dX10_round_4 : decode cX10_round 4 = .ok (.iconst 1, 1) := by decide +kernel
theorem dX10_round_5 : decode cX10_round 5 = .ok (.if_icmp .ge 5, 3) := by decide +kernel
theorem dX10_round_8 : decode cX10_round 8 = .ok (.iconst (-1), 1) := by decide +kernel
theorem dX10_round_9 : decode cX10_round 9 = .ok (.ireturn, 1) := by decide +kernel
theorem dX10_round_10 : decode cX10_round 10 = .ok (.aload_n 0, 1) := by decide +kernel
theorem dX10_round_11 : decode cX10_round 11 = .ok (.getfield 73, 3) := by decide +kernel
theorem dX10_round_14 : decode cX10_round 14 = .ok (.aload_n 0, 1) := by decide +kernel
theorem dX10_round_15 : decode cX10_round 15 = .ok (.getfield 60, 3) := by decide +kernel
theorem dX10_round_18 : decode cX10_round 18 = .ok (.invokevirtual 186, 3) := by decide +kernel
theorem dX10_round_21 : decode cX10_round 21 = .ok (.aload_n 0, 1) := by decide +kernel
theorem dX10_round_22 : decode cX10_round 22 = .ok (.getfield 60, 3) := by decide +kernel
theorem dX10_round_25 : decode cX10_round 25 = .ok (.aload_n 0, 1) := by decide +kernel
theorem dX10_round_26 : decode cX10_round 26 = .ok (.getfield 23, 3) := by decide +kernel
theorem dX10_round_29 : decode cX10_round 29 = .ok (.aload_n 0, 1) := by decide +kernel
theorem dX10_round_30 : decode cX10_round 30 = .ok (.getfield 39, 3) := by decide +kernel
theorem dX10_round_33 : decode cX10_round 33 = .ok (.invokevirtual 190, 3) := by decide +kernel
theorem dX10_round_36 : decode cX10_round 36 = .ok (.aload_n 0, 1) := by decide +kernel
theorem dX10_round_37 : decode cX10_round 37 = .ok (.getfield 60, 3) := by decide +kernel
theorem dX10_round_40 : decode cX10_round 40 = .ok (.getfield 159, 3) := by decide +kernel
theorem dX10_round_43 : decode cX10_round 43 = .ok (.ireturn, 1) := by decide +kernel
theorem dX10_roundsLeft_0 : decode cX10_roundsLeft 0 = .ok (.aload_n 0, 1) := by decide +kernel
theorem dX10_roundsLeft_1 : decode cX10_roundsLeft 1 = .ok (.getfield 108, 3) := by decide +kernel
theorem dX10_roundsLeft_4 : decode cX10_roundsLeft 4 = .ok (.ifCond .eq 21, 3) := by decide +kernel
theorem dX10_roundsLeft_7 : decode cX10_roundsLeft 7 = .ok (.aload_n 0, 1) := by decide +kernel
theorem dX10_roundsLeft_8 : decode cX10_roundsLeft 8 = .ok (.getfield 23, 3) := by decide +kernel
theorem dX10_roundsLeft_11 : decode cX10_roundsLeft 11 = .ok (.invokevirtual 406, 3) := by decide +kernel
theorem dX10_roundsLeft_14 : decode cX10_roundsLeft 14 = .ok (.aload_n 0, 1) := by decide +kernel
theorem dX10_roundsLeft_15 : decode cX10_roundsLeft 15 = .ok (.getfield 60, 3) := by decide +kernel
theorem dX10_roundsLeft_18 : decode cX10_roundsLeft 18 = .ok (.getfield 159, 3) := by decide +kernel
theorem dX10_roundsLeft_21 : decode cX10_roundsLeft 21 = .ok (.isub, 1) := by decide +kernel
theorem dX10_roundsLeft_22 : decode cX10_roundsLeft 22 = .ok (.goto 4, 3) := by decide +kernel
theorem dX10_roundsLeft_25 : decode cX10_roundsLeft 25 = .ok (.iconst 0, 1) := by decide +kernel
theorem dX10_roundsLeft_26 : decode cX10_roundsLeft 26 = .ok (.ireturn, 1) := by decide +kernel
theorem dX10_run_0 : decode cX10_run 0 = .ok (.aload_n 0, 1) := by decide +kernel
theorem dX10_run_1 : decode cX10_run 1 = .ok (.invokevirtual 183, 3) := by decide +kernel
theorem dX10_run_4 : decode cX10_run 4 = .ok (.istore_n 1, 1) := by decide +kernel
theorem dX10_run_5 : decode cX10_run 5 = .ok (.iload_n 1, 1) := by decide +kernel
theorem dX10_run_6 : decode cX10_run 6 = .ok (.iconst 1, 1) := by decide +kernel
theorem dX10_run_7 : decode cX10_run 7 = .ok (.if_icmp .ge 5, 3) := by decide +kernel
theorem dX10_run_10 : decode cX10_run 10 = .ok (.iconst (-1), 1) := by decide +kernel
theorem dX10_run_11 : decode cX10_run 11 = .ok (.ireturn, 1) := by decide +kernel
theorem dX10_run_12 : decode cX10_run 12 = .ok (.iconst 0, 1) := by decide +kernel
theorem dX10_run_13 : decode cX10_run 13 = .ok (.istore_n 2, 1) := by decide +kernel
theorem dX10_run_14 : decode cX10_run 14 = .ok (.iload_n 2, 1) := by decide +kernel
theorem dX10_run_15 : decode cX10_run 15 = .ok (.iload_n 1, 1) := by decide +kernel
theorem dX10_run_16 : decode cX10_run 16 = .ok (.if_icmp .ge 35, 3) := by decide +kernel
theorem dX10_run_19 : decode cX10_run 19 = .ok (.aload_n 0, 1) := by decide +kernel
theorem dX10_run_20 : decode cX10_run 20 = .ok (.getfield 73, 3) := by decide +kernel
theorem dX10_run_23 : decode cX10_run 23 = .ok (.aload_n 0, 1) := by decide +kernel
theorem dX10_run_24 : decode cX10_run 24 = .ok (.getfield 60, 3) := by decide +kernel
theorem dX10_run_27 : decode cX10_run 27 = .ok (.invokevirtual 186, 3) := by decide +kernel
theorem dX10_run_30 : decode cX10_run 30 = .ok (.aload_n 0, 1) := by decide +kernel
theorem dX10_run_31 : decode cX10_run 31 = .ok (.getfield 60, 3) := by decide +kernel
theorem dX10_run_34 : decode cX10_run 34 = .ok (.aload_n 0, 1) := by decide +kernel
theorem dX10_run_35 : decode cX10_run 35 = .ok (.getfield 23, 3) := by decide +kernel
theorem dX10_run_38 : decode cX10_run 38 = .ok (.aload_n 0, 1) := by decide +kernel
theorem dX10_run_39 : decode cX10_run 39 = .ok (.getfield 39, 3) := by decide +kernel
theorem dX10_run_42 : decode cX10_run 42 = .ok (.invokevirtual 190, 3) := by decide +kernel
theorem dX10_run_45 : decode cX10_run 45 = .ok (.iinc 2 1, 3) := by decide +kernel
theorem dX10_run_48 : decode cX10_run 48 = .ok (.goto (-34), 3) := by decide +kernel
theorem dX10_run_51 : decode cX10_run 51 = .ok (.iload_n 1, 1) := by decide +kernel
theorem dX10_run_52 : decode cX10_run 52 = .ok (.ireturn, 1) := by decide +kernel
