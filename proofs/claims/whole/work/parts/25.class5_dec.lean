theorem dX1_readSum_0 : decode cX1_readSum 0 = .ok (.aload_n 0, 1) := by decide +kernel
theorem dX1_readSum_1 : decode cX1_readSum 1 = .ok (.iload_n 1, 1) := by decide +kernel
theorem dX1_readSum_2 : decode cX1_readSum 2 = .ok (.invokevirtual 59, 3) := by decide +kernel
theorem dX1_readSum_5 : decode cX1_readSum 5 = .ok (.iconst 0, 1) := by decide +kernel
theorem dX1_readSum_6 : decode cX1_readSum 6 = .ok (.istore_n 2, 1) := by decide +kernel
theorem dX1_readSum_7 : decode cX1_readSum 7 = .ok (.iload_n 2, 1) := by decide +kernel
theorem dX1_readSum_8 : decode cX1_readSum 8 = .ok (.aload_n 0, 1) := by decide +kernel
theorem dX1_readSum_9 : decode cX1_readSum 9 = .ok (.getfield 22, 3) := by decide +kernel
theorem dX1_readSum_12 : decode cX1_readSum 12 = .ok (.arraylength, 1) := by decide +kernel
theorem dX1_readSum_13 : decode cX1_readSum 13 = .ok (.if_icmp .ge 59, 3) := by decide +kernel
theorem dX1_readSum_16 : decode cX1_readSum 16 = .ok (.aload_n 0, 1) := by decide +kernel
theorem dX1_readSum_17 : decode cX1_readSum 17 = .ok (.getfield 7, 3) := by decide +kernel
theorem dX1_readSum_20 : decode cX1_readSum 20 = .ok (.ifCond .ge 52, 3) := by decide +kernel
theorem dX1_readSum_23 : decode cX1_readSum 23 = .ok (.aload_n 0, 1) := by decide +kernel
theorem dX1_readSum_24 : decode cX1_readSum 24 = .ok (.invokevirtual 48, 3) := by decide +kernel
theorem dX1_readSum_27 : decode cX1_readSum 27 = .ok (.bipush 43, 2) := by decide +kernel
theorem dX1_readSum_29 : decode cX1_readSum 29 = .ok (.if_icmp .eq 12, 3) := by decide +kernel
theorem dX1_readSum_32 : decode cX1_readSum 32 = .ok (.aload_n 0, 1) := by decide +kernel
theorem dX1_readSum_33 : decode cX1_readSum 33 = .ok (.invokevirtual 48, 3) := by decide +kernel
theorem dX1_readSum_36 : decode cX1_readSum 36 = .ok (.bipush 45, 2) := by decide +kernel
theorem dX1_readSum_38 : decode cX1_readSum 38 = .ok (.if_icmp .ne 34, 3) := by decide +kernel
theorem dX1_readSum_41 : decode cX1_readSum 41 = .ok (.aload_n 0, 1) := by decide +kernel
theorem dX1_readSum_42 : decode cX1_readSum 42 = .ok (.invokevirtual 48, 3) := by decide +kernel
theorem dX1_readSum_45 : decode cX1_readSum 45 = .ok (.istore_n 3, 1) := by decide +kernel
theorem dX1_readSum_46 : decode cX1_readSum 46 = .ok (.aload_n 0, 1) := by decide +kernel
theorem dX1_readSum_47 : decode cX1_readSum 47 = .ok (.dup, 1) := by decide +kernel
theorem dX1_readSum_48 : decode cX1_readSum 48 = .ok (.getfield 42, 3) := by decide +kernel
theorem dX1_readSum_51 : decode cX1_readSum 51 = .ok (.iconst 1, 1) := by decide +kernel
theorem dX1_readSum_52 : decode cX1_readSum 52 = .ok (.iadd, 1) := by decide +kernel
theorem dX1_readSum_53 : decode cX1_readSum 53 = .ok (.putfield 42, 3) := by decide +kernel
theorem dX1_readSum_56 : decode cX1_readSum 56 = .ok (.aload_n 0, 1) := by decide +kernel
theorem dX1_readSum_57 : decode cX1_readSum 57 = .ok (.iload_n 1, 1) := by decide +kernel
theorem dX1_readSum_58 : decode cX1_readSum 58 = .ok (.invokevirtual 59, 3) := by decide +kernel
theorem dX1_readSum_61 : decode cX1_readSum 61 = .ok (.aload_n 0, 1) := by decide +kernel
theorem dX1_readSum_62 : decode cX1_readSum 62 = .ok (.iload_n 3, 1) := by decide +kernel
theorem dX1_readSum_63 : decode cX1_readSum 63 = .ok (.invokevirtual 62, 3) := by decide +kernel
theorem dX1_readSum_66 : decode cX1_readSum 66 = .ok (.iinc 2 1, 3) := by decide +kernel
theorem dX1_readSum_69 : decode cX1_readSum 69 = .ok (.goto (-62), 3) := by decide +kernel
theorem dX1_readSum_72 : decode cX1_readSum 72 = .ok (.return_, 1) := by decide +kernel
theorem dX1_init_0 : decode cX1_init 0 = .ok (.aload_n 0, 1) := by decide +kernel
theorem dX1_init_1 : decode cX1_init 1 = .ok (.invokespecial 1, 3) := by decide +kernel
theorem dX1_init_4 : decode cX1_init 4 = .ok (.aload_n 0, 1) := by decide +kernel
theorem dX1_init_5 : decode cX1_init 5 = .ok (.iconst (-1), 1) := by decide +kernel
theorem dX1_init_6 : decode cX1_init 6 = .ok (.putfield 7, 3) := by decide +kernel
theorem dX1_init_9 : decode cX1_init 9 = .ok (.iconst 0, 1) := by decide +kernel
theorem dX1_init_10 : decode cX1_init 10 = .ok (.iload_n 2, 1) := by decide +kernel
theorem dX1_init_11 : decode cX1_init 11 = .ok (.aload_n 1, 1) := by decide +kernel
theorem dX1_init_12 : decode cX1_init 12 = .ok (.arraylength, 1) := by decide +kernel
theorem dX1_init_13 : decode cX1_init 13 = .ok (.invokestatic 13, 3) := by decide +kernel
theorem dX1_init_16 : decode cX1_init 16 = .ok (.invokestatic 19, 3) := by decide +kernel
theorem dX1_init_19 : decode cX1_init 19 = .ok (.istore_n 3, 1) := by decide +kernel
theorem dX1_init_20 : decode cX1_init 20 = .ok (.aload_n 0, 1) := by decide +kernel
theorem dX1_init_21 : decode cX1_init 21 = .ok (.iload_n 3, 1) := by decide +kernel
theorem dX1_init_22 : decode cX1_init 22 = .ok (.newarray .int, 2) := by decide +kernel
theorem dX1_init_24 : decode cX1_init 24 = .ok (.putfield 22, 3) := by decide +kernel
theorem dX1_init_27 : decode cX1_init 27 = .ok (.aload_n 0, 1) := by decide +kernel
theorem dX1_init_28 : decode cX1_init 28 = .ok (.iload_n 3, 1) := by decide +kernel
theorem dX1_init_29 : decode cX1_init 29 = .ok (.newarray .int, 2) := by decide +kernel
theorem dX1_init_31 : decode cX1_init 31 = .ok (.putfield 26, 3) := by decide +kernel
theorem dX1_init_34 : decode cX1_init 34 = .ok (.aload_n 0, 1) := by decide +kernel
theorem dX1_init_35 : decode cX1_init 35 = .ok (.iload_n 3, 1) := by decide +kernel
theorem dX1_init_36 : decode cX1_init 36 = .ok (.newarray .int, 2) := by decide +kernel
theorem dX1_init_38 : decode cX1_init 38 = .ok (.putfield 29, 3) := by decide +kernel
theorem dX1_init_41 : decode cX1_init 41 = .ok (.aload_n 1, 1) := by decide +kernel
theorem dX1_init_42 : decode cX1_init 42 = .ok (.aload_n 0, 1) := by decide +kernel
theorem dX1_init_43 : decode cX1_init 43 = .ok (.getfield 22, 3) := by decide +kernel
theorem dX1_init_46 : decode cX1_init 46 = .ok (.invokestatic 32, 3) := by decide +kernel
theorem dX1_init_49 : decode cX1_init 49 = .ok (.aload_n 0, 1) := by decide +kernel
theorem dX1_init_50 : decode cX1_init 50 = .ok (.iconst 0, 1) := by decide +kernel
theorem dX1_init_51 : decode cX1_init 51 = .ok (.invokevirtual 38, 3) := by decide +kernel
theorem dX1_init_54 : decode cX1_init 54 = .ok (.aload_n 0, 1) := by decide +kernel
theorem dX1_init_55 : decode cX1_init 55 = .ok (.getfield 42, 3) := by decide +kernel
theorem dX1_init_58 : decode cX1_init 58 = .ok (.iload_n 3, 1) := by decide +kernel
theorem dX1_init_59 : decode cX1_init 59 = .ok (.if_icmp .ge 7, 3) := by decide +kernel
theorem dX1_init_62 : decode cX1_init 62 = .ok (.aload_n 0, 1) := by decide +kernel
theorem dX1_init_63 : decode cX1_init 63 = .ok (.invokevirtual 45, 3) := by decide +kernel
theorem dX1_init_66 : decode cX1_init 66 = .ok (.return_, 1) := by decide +kernel
theorem dX3_addLaw_0 : decode cX3_addLaw 0 = .ok (.aload_n 0, 1) := by decide +kernel
theorem dX3_addLaw_1 : decode cX3_addLaw 1 = .ok (.getfield 53, 3) := by decide +kernel
theorem dX3_addLaw_4 : decode cX3_addLaw 4 = .ok (.ifCond .lt 15, 3) := by decide +kernel
theorem dX3_addLaw_7 : decode cX3_addLaw 7 = .ok (.aload_n 0, 1) := by decide +kernel
theorem dX3_addLaw_8 : decode cX3_addLaw 8 = .ok (.getfield 53, 3) := by decide +kernel
theorem dX3_addLaw_11 : decode cX3_addLaw 11 = .ok (.aload_n 0, 1) := by decide +kernel
theorem dX3_addLaw_12 : decode cX3_addLaw 12 = .ok (.getfield 26, 3) := by decide +kernel
theorem dX3_addLaw_15 : decode cX3_addLaw 15 = .ok (.arraylength, 1) := by decide +kernel
theorem dX3_addLaw_16 : decode cX3_addLaw 16 = .ok (.if_icmp .lt 6, 3) := by decide +kernel
theorem dX3_addLaw_19 : decode cX3_addLaw 19 = .ok (.bipush (-2), 2) := by decide +kernel
theorem dX3_addLaw_21 : decode cX3_addLaw 21 = .ok (.ireturn, 1) := by decide +kernel
theorem dX3_addLaw_22 : decode cX3_addLaw 22 = .ok (.aload_n 0, 1) := by decide +kernel
theorem dX3_addLaw_23 : decode cX3_addLaw 23 = .ok (.getfield 26, 3) := by decide +kernel
theorem dX3_addLaw_26 : decode cX3_addLaw 26 = .ok (.aload_n 0, 1) := by decide +kernel
theorem dX3_addLaw_27 : decode cX3_addLaw 27 = .ok (.getfield 53, 3) := by decide +kernel
theorem dX3_addLaw_30 : decode cX3_addLaw 30 = .ok (.aload_n 1, 1) := by decide +kernel
theorem dX3_addLaw_31 : decode cX3_addLaw 31 = .ok (.aastore, 1) := by decide +kernel
theorem dX3_addLaw_32 : decode cX3_addLaw 32 = .ok (.aload_n 0, 1) := by decide +kernel
theorem dX3_addLaw_33 : decode cX3_addLaw 33 = .ok (.dup, 1) := by decide +kernel
theorem dX3_addLaw_34 : decode cX3_addLaw 34 = .ok (.getfield 53, 3) := by decide +kernel
theorem dX3_addLaw_37 : decode cX3_addLaw 37 = .ok (.iconst 1, 1) := by decide +kernel
theorem dX3_addLaw_38 : decode cX3_addLaw 38 = .ok (.iadd, 1) := by decide +kernel
theorem dX3_addLaw_39 : decode cX3_addLaw 39 = .ok (.putfield 53, 3) := by decide +kernel
theorem dX3_addLaw_42 : decode cX3_addLaw 42 = .ok (.aload_n 0, 1) := by decide +kernel
theorem dX3_addLaw_43 : decode cX3_addLaw 43 = .ok (.getfield 53, 3) := by decide +kernel
theorem dX3_addLaw_46 : decode cX3_addLaw 46 = .ok (.iconst 1, 1) := by decide +kernel
theorem dX3_addLaw_47 : decode cX3_addLaw 47 = .ok (.isub, 1) := by decide +kernel
theorem dX3_addLaw_48 : decode cX3_addLaw 48 = .ok (.ireturn, 1) := by decide +kernel
theorem dX11_law_0 : decode cX11_law 0 = .ok (.aload_n 0, 1) := by decide +kernel
theorem dX11_law_1 : decode cX11_law 1 = .ok (.iload_n 1, 1) := by decide +kernel
theorem dX11_law_2 : decode cX11_law 2 = .ok (.invokevirtual 124, 3) := by decide +kernel
theorem dX11_law_5 : decode cX11_law 5 = .ok (.astore_n 2, 1) := by decide +kernel
theorem dX11_law_6 : decode cX11_law 6 = .ok (.aload_n 2, 1) := by decide +kernel
theorem dX11_law_7 : decode cX11_law 7 = .ok (.ifnonnull 5, 3) := by decide +kernel
theorem dX11_law_10 : decode cX11_law 10 = .ok (.iconst (-1), 1) := by decide +kernel
theorem dX11_law_11 : decode cX11_law 11 = .ok (.ireturn, 1) := by decide +kernel
theorem dX11_law_12 : decode cX11_law 12 = .ok (.aload_n 0, 1) := by decide +kernel
theorem dX11_law_13 : decode cX11_law 13 = .ok (.getfield 10, 3) := by decide +kernel
theorem dX11_law_16 : decode cX11_law 16 = .ok (.getfield 45, 3) := by decide +kernel
theorem dX11_law_19 : decode cX11_law 19 = .ok (.bipush 6, 2) := by decide +kernel
theorem dX11_law_21 : decode cX11_law 21 = .ok (.if_icmp .lt 6, 3) := by decide +kernel
theorem dX11_law_24 : decode cX11_law 24 = .ok (.bipush (-2), 2) := by decide +kernel
theorem dX11_law_26 : decode cX11_law 26 = .ok (.ireturn, 1) := by decide +kernel
theorem dX11_law_27 : decode cX11_law 27 = .ok (.aload_n 2, 1) := by decide +kernel
theorem dX11_law_28 : decode cX11_law 28 = .ok (.invokevirtual 128, 3) := by decide +kernel
theorem dX11_law_31 : decode cX11_law 31 = .ok (.ifCond .eq 6, 3) := by decide +kernel
theorem dX11_law_34 : decode cX11_law 34 = .ok (.bipush (-11), 2) := by decide +kernel
theorem dX11_law_36 : decode cX11_law 36 = .ok (.ireturn, 1) := by decide +kernel
theorem dX11_law_37 : decode cX11_law 37 = .ok (.aload_n 2, 1) := by decide +kernel
theorem dX11_law_38 : decode cX11_law 38 = .ok (.getfield 132, 3) := by decide +kernel
theorem dX11_law_41 : decode cX11_law 41 = .ok (.ifCond .eq 6, 3) := by decide +kernel
theorem dX11_law_44 : decode cX11_law 44 = .ok (.bipush (-12), 2) := by decide +kernel
theorem dX11_law_46 : decode cX11_law 46 = .ok (.ireturn, 1) := by decide +kernel
theorem dX11_law_47 : decode cX11_law 47 = .ok (.new 135, 3) := by decide +kernel
theorem dX11_law_50 : decode cX11_law 50 = .ok (.dup, 1) := by decide +kernel
theorem dX11_law_51 : decode cX11_law 51 = .ok (.aload_n 2, 1) := by decide +kernel
theorem dX11_law_52 : decode cX11_law 52 = .ok (.getfield 137, 3) := by decide +kernel
theorem dX11_law_55 : decode cX11_law 55 = .ok (.aload_n 2, 1) := by decide +kernel
theorem dX11_law_56 : decode cX11_law 56 = .ok (.getfield 140, 3) := by decide +kernel
theorem dX11_law_59 : decode cX11_law 59 = .ok (.invokespecial 143, 3) := by decide +kernel
theorem dX11_law_62 : decode cX11_law 62 = .ok (.astore_n 3, 1) := by decide +kernel
theorem dX11_law_63 : decode cX11_law 63 = .ok (.aload_n 3, 1) := by decide +kernel
theorem dX11_law_64 : decode cX11_law 64 = .ok (.getfield 146, 3) := by decide +kernel
theorem dX11_law_67 : decode cX11_law 67 = .ok (.ifCond .lt 13, 3) := by decide +kernel
theorem dX11_law_70 : decode cX11_law 70 = .ok (.bipush (-100), 2) := by decide +kernel
theorem dX11_law_72 : decode cX11_law 72 = .ok (.aload_n 3, 1) := by decide +kernel
theorem dX11_law_73 : decode cX11_law 73 = .ok (.getfield 146, 3) := by decide +kernel
theorem dX11_law_76 : decode cX11_law 76 = .ok (.isub, 1) := by decide +kernel
theorem dX11_law_77 : decode cX11_law 77 = .ok (.goto 11, 3) := by decide +kernel
theorem dX11_law_80 : decode cX11_law 80 = .ok (.aload_n 0, 1) := by decide +kernel
theorem dX11_law_81 : decode cX11_law 81 = .ok (.getfield 10, 3) := by decide +kernel
theorem dX11_law_84 : decode cX11_law 84 = .ok (.aload_n 3, 1) := by decide +kernel
theorem dX11_law_85 : decode cX11_law 85 = .ok (.invokevirtual 149, 3) := by decide +kernel
theorem dX11_law_88 : decode cX11_law 88 = .ok (.ireturn, 1) := by decide +kernel
theorem dX3_leaderSeat_0 : decode cX3_leaderSeat 0 = .ok (.aload_n 0, 1) := by decide +kernel
theorem dX3_leaderSeat_1 : decode cX3_leaderSeat 1 = .ok (.getfield 30, 3) := by decide +kernel
theorem dX3_leaderSeat_4 : decode cX3_leaderSeat 4 = .ok (.iconst 1, 1) := by decide +kernel
theorem dX3_leaderSeat_5 : decode cX3_leaderSeat 5 = .ok (.invokestatic 60, 3) := by decide +kernel
theorem dX3_leaderSeat_8 : decode cX3_leaderSeat 8 = .ok (.istore_n 1, 1) := by decide +kernel
theorem dX3_leaderSeat_9 : decode cX3_leaderSeat 9 = .ok (.aload_n 0, 1) := by decide +kernel
theorem dX3_leaderSeat_10 : decode cX3_leaderSeat 10 = .ok (.iload_n 1, 1) := by decide +kernel
theorem dX3_leaderSeat_11 : decode cX3_leaderSeat 11 = .ok (.invokevirtual 49, 3) := by decide +kernel
theorem dX3_leaderSeat_14 : decode cX3_leaderSeat 14 = .ok (.ifCond .eq 7, 3) := by decide +kernel
theorem dX3_leaderSeat_17 : decode cX3_leaderSeat 17 = .ok (.iload_n 1, 1) := by decide +kernel
theorem dX3_leaderSeat_18 : decode cX3_leaderSeat 18 = .ok (.goto 4, 3) := by decide +kernel
theorem dX3_leaderSeat_21 : decode cX3_leaderSeat 21 = .ok (.iconst 0, 1) := by decide +kernel
theorem dX3_leaderSeat_22 : decode cX3_leaderSeat 22 = .ok (.ireturn, 1) := by decide +kernel
theorem dX3_seatFromLeader_0 : decode cX3_seatFromLeader 0 = .ok (.aload_n 0, 1) := by decide +kernel
theorem dX3_seatFromLeader_1 : decode cX3_seatFromLeader 1 = .ok (.getfield 45, 3) := by decide +kernel
theorem dX3_seatFromLeader_4 : decode cX3_seatFromLeader 4 = .ok (.ifCond .le 17, 3) := by decide +kernel
theorem dX3_seatFromLeader_7 : decode cX3_seatFromLeader 7 = .ok (.aload_n 0, 1) := by decide +kernel
theorem dX3_seatFromLeader_8 : decode cX3_seatFromLeader 8 = .ok (.getfield 126, 3) := by decide +kernel
theorem dX3_seatFromLeader_11 : decode cX3_seatFromLeader 11 = .ok (.iload_n 1, 1) := by decide +kernel
theorem dX3_seatFromLeader_12 : decode cX3_seatFromLeader 12 = .ok (.iadd, 1) := by decide +kernel
theorem dX3_seatFromLeader_13 : decode cX3_seatFromLeader 13 = .ok (.aload_n 0, 1) := by decide +kernel
theorem dX3_seatFromLeader_14 : decode cX3_seatFromLeader 14 = .ok (.getfield 45, 3) := by decide +kernel
theorem dX3_seatFromLeader_17 : decode cX3_seatFromLeader 17 = .ok (.irem, 1) := by decide +kernel
theorem dX3_seatFromLeader_18 : decode cX3_seatFromLeader 18 = .ok (.goto 4, 3) := by decide +kernel
theorem dX3_seatFromLeader_21 : decode cX3_seatFromLeader 21 = .ok (.iconst 0, 1) := by decide +kernel
theorem dX3_seatFromLeader_22 : decode cX3_seatFromLeader 22 = .ok (.ireturn, 1) := by decide +kernel
theorem dX3_beginTalk_0 : decode cX3_beginTalk 0 = .ok (.aload_n 0, 1) := by decide +kernel
theorem dX3_beginTalk_1 : decode cX3_beginTalk 1 = .ok (.invokevirtual 116, 3) := by decide +kernel
theorem dX3_beginTalk_4 : decode cX3_beginTalk 4 = .ok (.aload_n 0, 1) := by decide +kernel
theorem dX3_beginTalk_5 : decode cX3_beginTalk 5 = .ok (.iconst 1, 1) := by decide +kernel
theorem dX3_beginTalk_6 : decode cX3_beginTalk 6 = .ok (.putfield 119, 3) := by decide +kernel
theorem dX3_beginTalk_9 : decode cX3_beginTalk 9 = .ok (.aload_n 0, 1) := by decide +kernel
theorem dX3_beginTalk_10 : decode cX3_beginTalk 10 = .ok (.aload_n 0, 1) := by decide +kernel
theorem dX3_beginTalk_11 : decode cX3_beginTalk 11 = .ok (.invokevirtual 123, 3) := by decide +kernel
theorem dX3_beginTalk_14 : decode cX3_beginTalk 14 = .ok (.putfield 126, 3) := by decide +kernel
theorem dX3_beginTalk_17 : decode cX3_beginTalk 17 = .ok (.iconst 0, 1) := by decide +kernel
theorem dX3_beginTalk_18 : decode cX3_beginTalk 18 = .ok (.istore_n 1, 1) := by decide +kernel
theorem dX3_beginTalk_19 : decode cX3_beginTalk 19 = .ok (.iconst 0, 1) := by decide +kernel
theorem dX3_beginTalk_20 : decode cX3_beginTalk 20 = .ok (.istore_n 2, 1) := by decide +kernel
theorem dX3_beginTalk_21 : decode cX3_beginTalk 21 = .ok (.iload_n 2, 1) := by decide +kernel
theorem dX3_beginTalk_22 : decode cX3_beginTalk 22 = .ok (.aload_n 0, 1) := by decide +kernel
theorem dX3_beginTalk_23 : decode cX3_beginTalk 23 = .ok (.getfield 45, 3) := by decide +kernel
theorem dX3_beginTalk_26 : decode cX3_beginTalk 26 = .ok (.if_icmp .ge 97, 3) := by decide +kernel
theorem dX3_beginTalk_29 : decode cX3_beginTalk 29 = .ok (.aload_n 0, 1) := by decide +kernel
theorem dX3_beginTalk_30 : decode cX3_beginTalk 30 = .ok (.iload_n 2, 1) := by decide +kernel
theorem dX3_beginTalk_31 : decode cX3_beginTalk 31 = .ok (.invokevirtual 129, 3) := by decide +kernel
theorem dX3_beginTalk_34 : decode cX3_beginTalk 34 = .ok (.istore_n 3, 1) := by decide +kernel
theorem dX3_beginTalk_35 : decode cX3_beginTalk 35 = .ok (.aload_n 0, 1) := by decide +kernel
theorem dX3_beginTalk_36 : decode cX3_beginTalk 36 = .ok (.iload_n 3, 1) := by decide +kernel
theorem dX3_beginTalk_37 : decode cX3_beginTalk 37 = .ok (.invokevirtual 89, 3) := by decide +kernel
theorem dX3_beginTalk_40 : decode cX3_beginTalk 40 = .ok (.astore 4, 2) := by decide +kernel
theorem dX3_beginTalk_42 : decode cX3_beginTalk 42 = .ok (.aload 4, 2) := by decide +kernel
theorem dX3_beginTalk_44 : decode cX3_beginTalk 44 = .ok (.ifnull 38, 3) := by decide +kernel
theorem dX3_beginTalk_47 : decode cX3_beginTalk 47 = .ok (.aload_n 0, 1) := by decide +kernel
theorem dX3_beginTalk_48 : decode cX3_beginTalk 48 = .ok (.getfield 30, 3) := by decide +kernel
theorem dX3_beginTalk_51 : decode cX3_beginTalk 51 = .ok (.iconst 2, 1) := by decide +kernel
theorem dX3_beginTalk_52 : decode cX3_beginTalk 52 = .ok (.invokestatic 60, 3) := by decide +kernel
theorem dX3_beginTalk_55 : decode cX3_beginTalk 55 = .ok (.iconst 1, 1) := by decide +kernel
theorem dX3_beginTalk_56 : decode cX3_beginTalk 56 = .ok (.if_icmp .ne 26, 3) := by decide +kernel
theorem dX3_beginTalk_59 : decode cX3_beginTalk 59 = .ok (.iload_n 2, 1) := by decide +kernel
theorem dX3_beginTalk_60 : decode cX3_beginTalk 60 = .ok (.iload_n 1, 1) := by decide +kernel
theorem dX3_beginTalk_61 : decode cX3_beginTalk 61 = .ok (.isub, 1) := by decide +kernel
theorem dX3_beginTalk_62 : decode cX3_beginTalk 62 = .ok (.istore 5, 2) := by decide +kernel
theorem dX3_beginTalk_64 : decode cX3_beginTalk 64 = .ok (.aload_n 0, 1) := by decide +kernel
theorem dX3_beginTalk_65 : decode cX3_beginTalk 65 = .ok (.getfield 39, 3) := by decide +kernel
theorem dX3_beginTalk_68 : decode cX3_beginTalk 68 = .ok (.iload_n 3, 1) := by decide +kernel
theorem dX3_beginTalk_69 : decode cX3_beginTalk 69 = .ok (.aload 4, 2) := by decide +kernel
theorem dX3_beginTalk_71 : decode cX3_beginTalk 71 = .ok (.getfield 132, 3) := by decide +kernel
theorem dX3_beginTalk_74 : decode cX3_beginTalk 74 = .ok (.iload_n 1, 1) := by decide +kernel
theorem dX3_beginTalk_75 : decode cX3_beginTalk 75 = .ok (.iload 5, 2) := by decide +kernel
theorem dX3_beginTalk_77 : decode cX3_beginTalk 77 = .ok (.isub, 1) := by decide +kernel
theorem dX3_beginTalk_78 : decode cX3_beginTalk 78 = .ok (.imul, 1) := by decide +kernel
theorem dX3_beginTalk_79 : decode cX3_beginTalk 79 = .ok (.invokestatic 56, 3) := by decide +kernel
theorem dX3_beginTalk_82 : decode cX3_beginTalk 82 = .ok (.aload 4, 2) := by decide +kernel
theorem dX3_beginTalk_84 : decode cX3_beginTalk 84 = .ok (.ifnull 33, 3) := by decide +kernel
theorem dX3_beginTalk_87 : decode cX3_beginTalk 87 = .ok (.aload_n 0, 1) := by decide +kernel
theorem dX3_beginTalk_88 : decode cX3_beginTalk 88 = .ok (.iload_n 3, 1) := by decide +kernel
theorem dX3_beginTalk_89 : decode cX3_beginTalk 89 = .ok (.iconst 0, 1) := by decide +kernel
theorem dX3_beginTalk_90 : decode cX3_beginTalk 90 = .ok (.iconst 0, 1) := by decide +kernel
theorem dX3_beginTalk_91 : decode cX3_beginTalk 91 = .ok (.invokevirtual 135, 3) := by decide +kernel
theorem dX3_beginTalk_94 : decode cX3_beginTalk 94 = .ok (.aload 4, 2) := by decide +kernel
theorem dX3_beginTalk_96 : decode cX3_beginTalk 96 = .ok (.getfield 139, 3) := by decide +kernel
theorem dX3_beginTalk_99 : decode cX3_beginTalk 99 = .ok (.if_icmp .lt 18, 3) := by decide +kernel
theorem dX3_beginTalk_102 : decode cX3_beginTalk 102 = .ok (.aload_n 0, 1) := by decide +kernel
theorem dX3_beginTalk_103 : decode cX3_beginTalk 103 = .ok (.dup, 1) := by decide +kernel
theorem dX3_beginTalk_104 : decode cX3_beginTalk 104 = .ok (.getfield 70, 3) := by decide +kernel
theorem dX3_beginTalk_107 : decode cX3_beginTalk 107 = .ok (.iconst 1, 1) := by decide +kernel
theorem dX3_beginTalk_108 : decode cX3_beginTalk 108 = .ok (.iload_n 3, 1) := by decide +kernel
theorem dX3_beginTalk_109 : decode cX3_beginTalk 109 = .ok (.ishl, 1) := by decide +kernel
theorem dX3_beginTalk_110 : decode cX3_beginTalk 110 = .ok (.ior, 1) := by decide +kernel
theorem dX3_beginTalk_111 : decode cX3_beginTalk 111 = .ok (.putfield 70, 3) := by decide +kernel
theorem dX3_beginTalk_114 : decode cX3_beginTalk 114 = .ok (.iinc 1 1, 3) := by decide +kernel
theorem dX3_beginTalk_117 : decode cX3_beginTalk 117 = .ok (.iinc 2 1, 3) := by decide +kernel
theorem dX3_beginTalk_120 : decode cX3_beginTalk 120 = .ok (.goto (-99), 3) := by decide +kernel
theorem dX3_beginTalk_123 : decode cX3_beginTalk 123 = .ok (.aload_n 0, 1) := by decide +kernel
theorem dX3_beginTalk_124 : decode cX3_beginTalk 124 = .ok (.aload_n 0, 1) := by decide +kernel
theorem dX3_beginTalk_125 : decode cX3_beginTalk 125 = .ok (.getfield 70, 3) := by decide +kernel
theorem dX3_beginTalk_128 : decode cX3_beginTalk 128 = .ok (.putfield 107, 3) := by decide +kernel
theorem dX3_beginTalk_131 : decode cX3_beginTalk 131 = .ok (.return_, 1) := by decide +kernel
