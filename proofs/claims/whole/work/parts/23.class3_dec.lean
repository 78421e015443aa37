theorem dX1_readNumber_0 : decode cX1_readNumber 0 = .ok (.iconst 0, 1) := by decide +kernel
theorem dX1_readNumber_1 : decode cX1_readNumber 1 = .ok (.istore_n 1, 1) := by decide +kernel
theorem dX1_readNumber_2 : decode cX1_readNumber 2 = .ok (.iconst 0, 1) := by decide +kernel
theorem dX1_readNumber_3 : decode cX1_readNumber 3 = .ok (.istore_n 2, 1) := by decide +kernel
theorem dX1_readNumber_4 : decode cX1_readNumber 4 = .ok (.iload_n 2, 1) := by decide +kernel
theorem dX1_readNumber_5 : decode cX1_readNumber 5 = .ok (.iconst 3, 1) := by decide +kernel
theorem dX1_readNumber_6 : decode cX1_readNumber 6 = .ok (.if_icmp .ge 57, 3) := by decide +kernel
theorem dX1_readNumber_9 : decode cX1_readNumber 9 = .ok (.aload_n 0, 1) := by decide +kernel
theorem dX1_readNumber_10 : decode cX1_readNumber 10 = .ok (.invokevirtual 48, 3) := by decide +kernel
theorem dX1_readNumber_13 : decode cX1_readNumber 13 = .ok (.bipush 48, 2) := by decide +kernel
theorem dX1_readNumber_15 : decode cX1_readNumber 15 = .ok (.if_icmp .lt 48, 3) := by decide +kernel
theorem dX1_readNumber_18 : decode cX1_readNumber 18 = .ok (.aload_n 0, 1) := by decide +kernel
theorem dX1_readNumber_19 : decode cX1_readNumber 19 = .ok (.invokevirtual 48, 3) := by decide +kernel
theorem dX1_readNumber_22 : decode cX1_readNumber 22 = .ok (.bipush 57, 2) := by decide +kernel
theorem dX1_readNumber_24 : decode cX1_readNumber 24 = .ok (.if_icmp .gt 39, 3) := by decide +kernel
theorem dX1_readNumber_27 : decode cX1_readNumber 27 = .ok (.bipush 10, 2) := by decide +kernel
theorem dX1_readNumber_29 : decode cX1_readNumber 29 = .ok (.iload_n 1, 1) := by decide +kernel
theorem dX1_readNumber_30 : decode cX1_readNumber 30 = .ok (.imul, 1) := by decide +kernel
theorem dX1_readNumber_31 : decode cX1_readNumber 31 = .ok (.aload_n 0, 1) := by decide +kernel
theorem dX1_readNumber_32 : decode cX1_readNumber 32 = .ok (.invokevirtual 48, 3) := by decide +kernel
theorem dX1_readNumber_35 : decode cX1_readNumber 35 = .ok (.iadd, 1) := by decide +kernel
theorem dX1_readNumber_36 : decode cX1_readNumber 36 = .ok (.bipush 48, 2) := by decide +kernel
theorem dX1_readNumber_38 : decode cX1_readNumber 38 = .ok (.isub, 1) := by decide +kernel
theorem dX1_readNumber_39 : decode cX1_readNumber 39 = .ok (.istore_n 1, 1) := by decide +kernel
theorem dX1_readNumber_40 : decode cX1_readNumber 40 = .ok (.aload_n 0, 1) := by decide +kernel
theorem dX1_readNumber_41 : decode cX1_readNumber 41 = .ok (.dup, 1) := by decide +kernel
theorem dX1_readNumber_42 : decode cX1_readNumber 42 = .ok (.getfield 42, 3) := by decide +kernel
theorem dX1_readNumber_45 : decode cX1_readNumber 45 = .ok (.iconst 1, 1) := by decide +kernel
theorem dX1_readNumber_46 : decode cX1_readNumber 46 = .ok (.iadd, 1) := by decide +kernel
theorem dX1_readNumber_47 : decode cX1_readNumber 47 = .ok (.putfield 42, 3) := by decide +kernel
theorem dX1_readNumber_50 : decode cX1_readNumber 50 = .ok (.iload_n 1, 1) := by decide +kernel
theorem dX1_readNumber_51 : decode cX1_readNumber 51 = .ok (.ifCond .ne 6, 3) := by decide +kernel
theorem dX1_readNumber_54 : decode cX1_readNumber 54 = .ok (.goto 9, 3) := by decide +kernel
theorem dX1_readNumber_57 : decode cX1_readNumber 57 = .ok (.iinc 2 1, 3) := by decide +kernel
theorem dX1_readNumber_60 : decode cX1_readNumber 60 = .ok (.goto (-56), 3) := by decide +kernel
theorem dX1_readNumber_63 : decode cX1_readNumber 63 = .ok (.aload_n 0, 1) := by decide +kernel
theorem dX1_readNumber_64 : decode cX1_readNumber 64 = .ok (.iconst (-1), 1) := by decide +kernel
theorem dX1_readNumber_65 : decode cX1_readNumber 65 = .ok (.iload_n 1, 1) := by decide +kernel
theorem dX1_readNumber_66 : decode cX1_readNumber 66 = .ok (.isub, 1) := by decide +kernel
theorem dX1_readNumber_67 : decode cX1_readNumber 67 = .ok (.invokevirtual 62, 3) := by decide +kernel
theorem dX1_readNumber_70 : decode cX1_readNumber 70 = .ok (.return_, 1) := by decide +kernel
theorem dX3_addLaw_0 : decode cX3_addLaw 0 = .ok (.aload_n 0, 1) := by decide +kernel
theorem dX3_addLaw_1 : decode cX3_addLaw 1 = .ok (.getfield 53, 3) := by decide +kernel
theorem dX3_addLaw_4 : decode cX3_addLaw 4 = .ok (.aload_n 0, 1) := by decide +kernel
theorem dX3_addLaw_5 : decode cX3_addLaw 5 = .ok (.getfield 26, 3) := by decide +kernel
theorem dX3_addLaw_8 : decode cX3_addLaw 8 = .ok (.arraylength, 1) := by decide +kernel
theorem dX3_addLaw_9 : decode cX3_addLaw 9 = .ok (.if_icmp .lt 6, 3) := by decide +kernel
theorem dX3_addLaw_12 : decode cX3_addLaw 12 = .ok (.bipush (-2), 2) := by decide +kernel
theorem dX3_addLaw_14 : decode cX3_addLaw 14 = .ok (.ireturn, 1) := by decide +kernel
theorem dX3_addLaw_15 : decode cX3_addLaw 15 = .ok (.aload_n 0, 1) := by decide +kernel
theorem dX3_addLaw_16 : decode cX3_addLaw 16 = .ok (.getfield 26, 3) := by decide +kernel
theorem dX3_addLaw_19 : decode cX3_addLaw 19 = .ok (.aload_n 0, 1) := by decide +kernel
theorem dX3_addLaw_20 : decode cX3_addLaw 20 = .ok (.getfield 53, 3) := by decide +kernel
theorem dX3_addLaw_23 : decode cX3_addLaw 23 = .ok (.aload_n 1, 1) := by decide +kernel
theorem dX3_addLaw_24 : decode cX3_addLaw 24 = .ok (.aastore, 1) := by decide +kernel
theorem dX3_addLaw_25 : decode cX3_addLaw 25 = .ok (.aload_n 0, 1) := by decide +kernel
theorem dX3_addLaw_26 : decode cX3_addLaw 26 = .ok (.dup, 1) := by decide +kernel
theorem dX3_addLaw_27 : decode cX3_addLaw 27 = .ok (.getfield 53, 3) := by decide +kernel
theorem dX3_addLaw_30 : decode cX3_addLaw 30 = .ok (.iconst 1, 1) := by decide +kernel
theorem dX3_addLaw_31 : decode cX3_addLaw 31 = .ok (.iadd, 1) := by decide +kernel
theorem dX3_addLaw_32 : decode cX3_addLaw 32 = .ok (.putfield 53, 3) := by decide +kernel
theorem dX3_addLaw_35 : decode cX3_addLaw 35 = .ok (.aload_n 0, 1) := by decide +kernel
theorem dX3_addLaw_36 : decode cX3_addLaw 36 = .ok (.getfield 53, 3) := by decide +kernel
theorem dX3_addLaw_39 : decode cX3_addLaw 39 = .ok (.iconst 1, 1) := by decide +kernel
theorem dX3_addLaw_40 : decode cX3_addLaw 40 = .ok (.isub, 1) := by decide +kernel
theorem dX3_addLaw_41 : decode cX3_addLaw 41 = .ok (.ireturn, 1) := by decide +kernel
theorem dX3_leaderSeat_0 : decode cX3_leaderSeat 0 = .ok (.aload_n 0, 1) := by decide +kernel
theorem dX3_leaderSeat_1 : decode cX3_leaderSeat 1 = .ok (.getfield 30, 3) := by decide +kernel
theorem dX3_leaderSeat_4 : decode cX3_leaderSeat 4 = .ok (.iconst 1, 1) := by decide +kernel
theorem dX3_leaderSeat_5 : decode cX3_leaderSeat 5 = .ok (.invokestatic 60, 3) := by decide +kernel
theorem dX3_leaderSeat_8 : decode cX3_leaderSeat 8 = .ok (.istore_n 1, 1) := by decide +kernel
theorem dX3_leaderSeat_9 : decode cX3_leaderSeat 9 = .ok (.aload_n 0, 1) := by decide +kernel
theorem dX3_leaderSeat_10 : decode cX3_leaderSeat 10 = .ok (.iload_n 1, 1) := by decide +kernel
theorem dX3_leaderSeat_11 : decode cX3_leaderSeat 11 = .ok (.invokevirtual 49, 3) := by decide +kernel
theorem dX3_leaderSeat_14 : decode cX3_leaderSeat 14 = .ok (.ifCond .eq 7, 3) := by decide +kernel
theorem dX3_leaderSeat_17 : decode cX3_leaderSeat 17 = .ok (.iload_n 1, 1) := by decide +kernel
theorem dX3_leaderSeat_18 : decode cX3_leaderSeat 18 = .ok (.goto 4, 3) := by decide +kernel
theorem dX3_leaderSeat_21 : decode cX3_leaderSeat 21 = .ok (.iconst 0, 1) := by decide +kernel
theorem dX3_leaderSeat_22 : decode cX3_leaderSeat 22 = .ok (.ireturn, 1) := by decide +kernel
theorem dX3_seatFromLeader_0 : decode cX3_seatFromLeader 0 = .ok (.aload_n 0, 1) := by decide +kernel
theorem dX3_seatFromLeader_1 : decode cX3_seatFromLeader 1 = .ok (.getfield 45, 3) := by decide +kernel
theorem dX3_seatFromLeader_4 : decode cX3_seatFromLeader 4 = .ok (.ifCond .le 17, 3) := by decide +kernel
theorem dX3_seatFromLeader_7 : decode cX3_seatFromLeader 7 = .ok (.aload_n 0, 1) := by decide +kernel
theorem dX3_seatFromLeader_8 : decode cX3_seatFromLeader 8 = .ok (.getfield 126, 3) := by decide +kernel
theorem dX3_seatFromLeader_11 : decode cX3_seatFromLeader 11 = .ok (.iload_n 1, 1) := by decide +kernel
theorem dX3_seatFromLeader_12 : decode cX3_seatFromLeader 12 = .ok (.iadd, 1) := by decide +kernel
theorem dX3_seatFromLeader_13 : decode cX3_seatFromLeader 13 = .ok (.aload_n 0, 1) := by decide +kernel
theorem dX3_seatFromLeader_14 : decode cX3_seatFromLeader 14 = .ok (.getfield 45, 3) := by decide +kernel
theorem dX3_seatFromLeader_17 : decode cX3_seatFromLeader 17 = .ok (.irem, 1) := by decide +kernel
theorem dX3_seatFromLeader_18 : decode cX3_seatFromLeader 18 = .ok (.goto 4, 3) := by decide +kernel
theorem dX3_seatFromLeader_21 : decode cX3_seatFromLeader 21 = .ok (.iconst 0, 1) := by decide +kernel
theorem dX3_seatFromLeader_22 : decode cX3_seatFromLeader 22 = .ok (.ireturn, 1) := by decide +kernel
theorem dX3_beginTalk_0 : decode cX3_beginTalk 0 = .ok (.aload_n 0, 1) := by decide +kernel
theorem dX3_beginTalk_1 : decode cX3_beginTalk 1 = .ok (.invokevirtual 116, 3) := by decide +kernel
theorem dX3_beginTalk_4 : decode cX3_beginTalk 4 = .ok (.aload_n 0, 1) := by decide +kernel
theorem dX3_beginTalk_5 : decode cX3_beginTalk 5 = .ok (.iconst 1, 1) := by decide +kernel
theorem dX3_beginTalk_6 : decode cX3_beginTalk 6 = .ok (.putfield 119, 3) := by decide +kernel
theorem dX3_beginTalk_9 : decode cX3_beginTalk 9 = .ok (.aload_n 0, 1) := by decide +kernel
theorem dX3_beginTalk_10 : decode cX3_beginTalk 10 = .ok (.aload_n 0, 1) := by decide +kernel
theorem dX3_beginTalk_11 : decode cX3_beginTalk 11 = .ok (.invokevirtual 123, 3) := by decide +kernel
theorem dX3_beginTalk_14 : decode cX3_beginTalk 14 = .ok (.putfield 126, 3) := by decide +kernel
theorem dX3_beginTalk_17 : decode cX3_beginTalk 17 = .ok (.iconst 0, 1) := by decide +kernel
theorem dX3_beginTalk_18 : decode cX3_beginTalk 18 = .ok (.istore_n 1, 1) := by decide +kernel
theorem dX3_beginTalk_19 : decode cX3_beginTalk 19 = .ok (.iconst 0, 1) := by decide +kernel
theorem dX3_beginTalk_20 : decode cX3_beginTalk 20 = .ok (.istore_n 2, 1) := by decide +kernel
theorem dX3_beginTalk_21 : decode cX3_beginTalk 21 = .ok (.iload_n 2, 1) := by decide +kernel
theorem dX3_beginTalk_22 : decode cX3_beginTalk 22 = .ok (.aload_n 0, 1) := by decide +kernel
theorem dX3_beginTalk_23 : decode cX3_beginTalk 23 = .ok (.getfield 45, 3) := by decide +kernel
theorem dX3_beginTalk_26 : decode cX3_beginTalk 26 = .ok (.if_icmp .ge 97, 3) := by decide +kernel
theorem dX3_beginTalk_29 : decode cX3_beginTalk 29 = .ok (.aload_n 0, 1) := by decide +kernel
theorem dX3_beginTalk_30 : decode cX3_beginTalk 30 = .ok (.iload_n 2, 1) := by decide +kernel
theorem dX3_beginTalk_31 : decode cX3_beginTalk 31 = .ok (.invokevirtual 129, 3) := by decide +kernel
theorem dX3_beginTalk_34 : decode cX3_beginTalk 34 = .ok (.istore_n 3, 1) := by decide +kernel
theorem dX3_beginTalk_35 : decode cX3_beginTalk 35 = .ok (.aload_n 0, 1) := by decide +kernel
theorem dX3_beginTalk_36 : decode cX3_beginTalk 36 = .ok (.iload_n 3, 1) := by decide +kernel
theorem dX3_beginTalk_37 : decode cX3_beginTalk 37 = .ok (.invokevirtual 89, 3) := by decide +kernel
theorem dX3_beginTalk_40 : decode cX3_beginTalk 40 = .ok (.astore 4, 2) := by decide +kernel
theorem dX3_beginTalk_42 : decode cX3_beginTalk 42 = .ok (.aload 4, 2) := by decide +kernel
theorem dX3_beginTalk_44 : decode cX3_beginTalk 44 = .ok (.ifnull 38, 3) := by decide +kernel
theorem dX3_beginTalk_47 : decode cX3_beginTalk 47 = .ok (.aload_n 0, 1) := by decide +kernel
theorem dX3_beginTalk_48 : decode cX3_beginTalk 48 = .ok (.getfield 30, 3) := by decide +kernel
theorem dX3_beginTalk_51 : decode cX3_beginTalk 51 = .ok (.iconst 2, 1) := by decide +kernel
theorem dX3_beginTalk_52 : decode cX3_beginTalk 52 = .ok (.invokestatic 60, 3) := by decide +kernel
theorem dX3_beginTalk_55 : decode cX3_beginTalk 55 = .ok (.iconst 1, 1) := by decide +kernel
theorem dX3_beginTalk_56 : decode cX3_beginTalk 56 = .ok (.if_icmp .ne 26, 3) := by decide +kernel
theorem dX3_beginTalk_59 : decode cX3_beginTalk 59 = .ok (.iload_n 2, 1) := by decide +kernel
theorem dX3_beginTalk_60 : decode cX3_beginTalk 60 = .ok (.iload_n 1, 1) := by decide +kernel
theorem dX3_beginTalk_61 : decode cX3_beginTalk 61 = .ok (.isub, 1) := by decide +kernel
theorem dX3_beginTalk_62 : decode cX3_beginTalk 62 = .ok (.istore 5, 2) := by decide +kernel
theorem dX3_beginTalk_64 : decode cX3_beginTalk 64 = .ok (.aload_n 0, 1) := by decide +kernel
theorem dX3_beginTalk_65 : decode cX3_beginTalk 65 = .ok (.getfield 39, 3) := by decide +kernel
theorem dX3_beginTalk_68 : decode cX3_beginTalk 68 = .ok (.iload_n 3, 1) := by decide +kernel
theorem dX3_beginTalk_69 : decode cX3_beginTalk 69 = .ok (.aload 4, 2) := by decide +kernel
theorem dX3_beginTalk_71 : decode cX3_beginTalk 71 = .ok (.getfield 132, 3) := by decide +kernel
theorem dX3_beginTalk_74 : decode cX3_beginTalk 74 = .ok (.iload_n 1, 1) := by decide +kernel
theorem dX3_beginTalk_75 : decode cX3_beginTalk 75 = .ok (.iload 5, 2) := by decide +kernel
theorem dX3_beginTalk_77 : decode cX3_beginTalk 77 = .ok (.isub, 1) := by decide +kernel
theorem dX3_beginTalk_78 : decode cX3_beginTalk 78 = .ok (.imul, 1) := by decide +kernel
theorem dX3_beginTalk_79 : decode cX3_beginTalk 79 = .ok (.invokestatic 56, 3) := by decide +kernel
theorem dX3_beginTalk_82 : decode cX3_beginTalk 82 = .ok (.aload 4, 2) := by decide +kernel
theorem dX3_beginTalk_84 : decode cX3_beginTalk 84 = .ok (.ifnull 33, 3) := by decide +kernel
theorem dX3_beginTalk_87 : decode cX3_beginTalk 87 = .ok (.aload_n 0, 1) := by decide +kernel
theorem dX3_beginTalk_88 : decode cX3_beginTalk 88 = .ok (.iload_n 3, 1) := by decide +kernel
theorem dX3_beginTalk_89 : decode cX3_beginTalk 89 = .ok (.iconst 0, 1) := by decide +kernel
theorem dX3_beginTalk_90 : decode cX3_beginTalk 90 = .ok (.iconst 0, 1) := by decide +kernel
theorem dX3_beginTalk_91 : decode cX3_beginTalk 91 = .ok (.invokevirtual 135, 3) := by decide +kernel
theorem dX3_beginTalk_94 : decode cX3_beginTalk 94 = .ok (.aload 4, 2) := by decide +kernel
theorem dX3_beginTalk_96 : decode cX3_beginTalk 96 = .ok (.getfield 139, 3) := by decide +kernel
theorem dX3_beginTalk_99 : decode cX3_beginTalk 99 = .ok (.if_icmp .lt 18, 3) := by decide +kernel
theorem dX3_beginTalk_102 : decode cX3_beginTalk 102 = .ok (.aload_n 0, 1) := by decide +kernel
theorem dX3_beginTalk_103 : decode cX3_beginTalk 103 = .ok (.dup, 1) := by decide +kernel
theorem dX3_beginTalk_104 : decode cX3_beginTalk 104 = .ok (.getfield 70, 3) := by decide +kernel
theorem dX3_beginTalk_107 : decode cX3_beginTalk 107 = .ok (.iconst 1, 1) := by decide +kernel
theorem dX3_beginTalk_108 : decode cX3_beginTalk 108 = .ok (.iload_n 3, 1) := by decide +kernel
theorem dX3_beginTalk_109 : decode cX3_beginTalk 109 = .ok (.ishl, 1) := by decide +kernel
theorem dX3_beginTalk_110 : decode cX3_beginTalk 110 = .ok (.ior, 1) := by decide +kernel
theorem dX3_beginTalk_111 : decode cX3_beginTalk 111 = .ok (.putfield 70, 3) := by decide +kernel
theorem dX3_beginTalk_114 : decode cX3_beginTalk 114 = .ok (.iinc 1 1, 3) := by decide +kernel
theorem dX3_beginTalk_117 : decode cX3_beginTalk 117 = .ok (.iinc 2 1, 3) := by decide +kernel
theorem dX3_beginTalk_120 : decode cX3_beginTalk 120 = .ok (.goto (-99), 3) := by decide +kernel
theorem dX3_beginTalk_123 : decode cX3_beginTalk 123 = .ok (.aload_n 0, 1) := by decide +kernel
theorem dX3_beginTalk_124 : decode cX3_beginTalk 124 = .ok (.aload_n 0, 1) := by decide +kernel
theorem dX3_beginTalk_125 : decode cX3_beginTalk 125 = .ok (.getfield 70, 3) := by decide +kernel
theorem dX3_beginTalk_128 : decode cX3_beginTalk 128 = .ok (.putfield 107, 3) := by decide +kernel
theorem dX3_beginTalk_131 : decode cX3_beginTalk 131 = .ok (.return_, 1) := by decide +kernel
theorem dX11_begin_0 : decode cX11_begin 0 = .ok (.aload_n 0, 1) := by decide +kernel
theorem dX11_begin_1 : decode cX11_begin 1 = .ok (.getfield 10, 3) := by decide +kernel
theorem dX11_begin_4 : decode cX11_begin 4 = .ok (.getfield 48, 3) := by decide +kernel
theorem dX11_begin_7 : decode cX11_begin 7 = .ok (.ifCond .ne 6, 3) := by decide +kernel
theorem dX11_begin_10 : decode cX11_begin 10 = .ok (.bipush (-3), 2) := by decide +kernel
theorem dX11_begin_12 : decode cX11_begin 12 = .ok (.ireturn, 1) := by decide +kernel
theorem dX11_begin_13 : decode cX11_begin 13 = .ok (.aload_n 0, 1) := by decide +kernel
theorem dX11_begin_14 : decode cX11_begin 14 = .ok (.getfield 10, 3) := by decide +kernel
theorem dX11_begin_17 : decode cX11_begin 17 = .ok (.invokevirtual 162, 3) := by decide +kernel
theorem dX11_begin_20 : decode cX11_begin 20 = .ok (.aload_n 0, 1) := by decide +kernel
theorem dX11_begin_21 : decode cX11_begin 21 = .ok (.getfield 10, 3) := by decide +kernel
theorem dX11_begin_24 : decode cX11_begin 24 = .ok (.invokevirtual 113, 3) := by decide +kernel
theorem dX11_begin_27 : decode cX11_begin 27 = .ok (.ireturn, 1) := by decide +kernel
theorem dX3_needed_0 : decode cX3_needed 0 = .ok (.aload_n 0, 1) := by decide +kernel
theorem dX3_needed_1 : decode cX3_needed 1 = .ok (.getfield 30, 3) := by decide +kernel
theorem dX3_needed_4 : decode cX3_needed 4 = .ok (.iconst 0, 1) := by decide +kernel
theorem dX3_needed_5 : decode cX3_needed 5 = .ok (.invokestatic 60, 3) := by decide +kernel
theorem dX3_needed_8 : decode cX3_needed 8 = .ok (.aload_n 0, 1) := by decide +kernel
theorem dX3_needed_9 : decode cX3_needed 9 = .ok (.getfield 45, 3) := by decide +kernel
theorem dX3_needed_12 : decode cX3_needed 12 = .ok (.invokestatic 64, 3) := by decide +kernel
theorem dX3_needed_15 : decode cX3_needed 15 = .ok (.ireturn, 1) := by decide +kernel
theorem dX3_ends_0 : decode cX3_ends 0 = .ok (.aload_n 0, 1) := by decide +kernel
theorem dX3_ends_1 : decode cX3_ends 1 = .ok (.invokevirtual 79, 3) := by decide +kernel
theorem dX3_ends_4 : decode cX3_ends 4 = .ok (.aload_n 0, 1) := by decide +kernel
theorem dX3_ends_5 : decode cX3_ends 5 = .ok (.invokevirtual 142, 3) := by decide +kernel
theorem dX3_ends_8 : decode cX3_ends 8 = .ok (.if_icmp .lt 5, 3) := by decide +kernel
theorem dX3_ends_11 : decode cX3_ends 11 = .ok (.iconst 1, 1) := by decide +kernel
theorem dX3_ends_12 : decode cX3_ends 12 = .ok (.ireturn, 1) := by decide +kernel
theorem dX3_ends_13 : decode cX3_ends 13 = .ok (.aload_n 0, 1) := by decide +kernel
theorem dX3_ends_14 : decode cX3_ends 14 = .ok (.invokevirtual 145, 3) := by decide +kernel
theorem dX3_ends_17 : decode cX3_ends 17 = .ok (.aload_n 0, 1) := by decide +kernel
theorem dX3_ends_18 : decode cX3_ends 18 = .ok (.invokevirtual 142, 3) := by decide +kernel
theorem dX3_ends_21 : decode cX3_ends 21 = .ok (.if_icmp .lt 5, 3) := by decide +kernel
theorem dX3_ends_24 : decode cX3_ends 24 = .ok (.iconst 0, 1) := by decide +kernel
theorem dX3_ends_25 : decode cX3_ends 25 = .ok (.ireturn, 1) := by decide +kernel
theorem dX3_ends_26 : decode cX3_ends 26 = .ok (.aload_n 0, 1) := by decide +kernel
theorem dX3_ends_27 : decode cX3_ends 27 = .ok (.getfield 97, 3) := by decide +kernel
theorem dX3_ends_30 : decode cX3_ends 30 = .ok (.aload_n 0, 1) := by decide +kernel
theorem dX3_ends_31 : decode cX3_ends 31 = .ok (.getfield 30, 3) := by decide +kernel
theorem dX3_ends_34 : decode cX3_ends 34 = .ok (.iconst 3, 1) := by decide +kernel
theorem dX3_ends_35 : decode cX3_ends 35 = .ok (.invokestatic 60, 3) := by decide +kernel
theorem dX3_ends_38 : decode cX3_ends 38 = .ok (.if_icmp .lt 7, 3) := by decide +kernel
theorem dX3_ends_41 : decode cX3_ends 41 = .ok (.iconst 2, 1) := by decide +kernel
theorem dX3_ends_42 : decode cX3_ends 42 = .ok (.goto 5, 3) := by decide +kernel
theorem dX3_ends_45 : decode cX3_ends 45 = .ok (.bipush (-4), 2) := by decide +kernel
theorem dX3_ends_47 : decode cX3_ends 47 = .ok (.ireturn, 1) := by decide +kernel
theorem dX3_yesLessNo_0 : decode cX3_yesLessNo 0 = .ok (.iconst 2, 1) := by decide +kernel
theorem dX3_yesLessNo_1 : decode cX3_yesLessNo 1 = .ok (.aload_n 0, 1) := by decide +kernel
theorem dX3_yesLessNo_2 : decode cX3_yesLessNo 2 = .ok (.getfield 70, 3) := by decide +kernel
theorem dX3_yesLessNo_5 : decode cX3_yesLessNo 5 = .ok (.invokestatic 73, 3) := by decide +kernel
theorem dX3_yesLessNo_8 : decode cX3_yesLessNo 8 = .ok (.imul, 1) := by decide +kernel
theorem dX3_yesLessNo_9 : decode cX3_yesLessNo 9 = .ok (.aload_n 0, 1) := by decide +kernel
theorem dX3_yesLessNo_10 : decode cX3_yesLessNo 10 = .ok (.getfield 45, 3) := by decide +kernel
theorem dX3_yesLessNo_13 : decode cX3_yesLessNo 13 = .ok (.isub, 1) := by decide +kernel
theorem dX3_yesLessNo_14 : decode cX3_yesLessNo 14 = .ok (.ireturn, 1) := by decide +kernel
theorem dX3_push_0 : decode cX3_push 0 = .ok (.aload_n 0, 1) := by decide +kernel
theorem dX3_push_1 : decode cX3_push 1 = .ok (.getfield 39, 3) := by decide +kernel
theorem dX3_push_4 : decode cX3_push 4 = .ok (.iload_n 1, 1) := by decide +kernel
theorem dX3_push_5 : decode cX3_push 5 = .ok (.aload_n 0, 1) := by decide +kernel
theorem dX3_push_6 : decode cX3_push 6 = .ok (.getfield 39, 3) := by decide +kernel
theorem dX3_push_9 : decode cX3_push 9 = .ok (.iload_n 1, 1) := by decide +kernel
theorem dX3_push_10 : decode cX3_push 10 = .ok (.invokestatic 60, 3) := by decide +kernel
theorem dX3_push_13 : decode cX3_push 13 = .ok (.iload_n 2, 1) := by decide +kernel
theorem dX3_push_14 : decode cX3_push 14 = .ok (.iadd, 1) := by decide +kernel
theorem dX3_push_15 : decode cX3_push 15 = .ok (.invokestatic 56, 3) := by decide +kernel
theorem dX3_push_18 : decode cX3_push 18 = .ok (.return_, 1) := by decide +kernel
theorem dX0_act_0 : decode cX0_act 0 = .ok (.aload_n 1, 1) := by decide +kernel
theorem dX0_act_1 : decode cX0_act 1 = .ok (.invokevirtual 7, 3) := by decide +kernel
theorem dX0_act_4 : decode cX0_act 4 = .ok (.istore_n 3, 1) := by decide +kernel
theorem dX0_act_5 : decode cX0_act 5 = .ok (.iconst 0, 1) := by decide +kernel
theorem dX0_act_6 : decode cX0_act 6 = .ok (.istore 4, 2) := by decide +kernel
theorem dX0_act_8 : decode cX0_act 8 = .ok (.iload 4, 2) := by decide +kernel
theorem dX0_act_10 : decode cX0_act 10 = .ok (.aload_n 1, 1) := by decide +kernel
theorem dX0_act_11 : decode cX0_act 11 = .ok (.getfield 13, 3) := by decide +kernel
theorem dX0_act_14 : decode cX0_act 14 = .ok (.if_icmp .ge 37, 3) := by decide +kernel
theorem dX0_act_17 : decode cX0_act 17 = .ok (.aload_n 1, 1) := by decide +kernel
theorem dX0_act_18 : decode cX0_act 18 = .ok (.iload 4, 2) := by decide +kernel
theorem dX0_act_20 : decode cX0_act 20 = .ok (.invokevirtual 17, 3) := by decide +kernel
theorem dX0_act_23 : decode cX0_act 23 = .ok (.astore 5, 2) := by decide +kernel
theorem dX0_act_25 : decode cX0_act 25 = .ok (.aload 5, 2) := by decide +kernel
theorem dX0_act_27 : decode cX0_act 27 = .ok (.ifnull 18, 3) := by decide +kernel
theorem dX0_act_30 : decode cX0_act 30 = .ok (.aload_n 1, 1) := by decide +kernel
theorem dX0_act_31 : decode cX0_act 31 = .ok (.iload 4, 2) := by decide +kernel
theorem dX0_act_33 : decode cX0_act 33 = .ok (.aload 5, 2) := by decide +kernel
theorem dX0_act_35 : decode cX0_act 35 = .ok (.getfield 21, 3) := by decide +kernel
theorem dX0_act_38 : decode cX0_act 38 = .ok (.iload_n 3, 1) := by decide +kernel
theorem dX0_act_39 : decode cX0_act 39 = .ok (.imul, 1) := by decide +kernel
theorem dX0_act_40 : decode cX0_act 40 = .ok (.iconst 4, 1) := by decide +kernel
theorem dX0_act_41 : decode cX0_act 41 = .ok (.idiv, 1) := by decide +kernel
theorem dX0_act_42 : decode cX0_act 42 = .ok (.invokevirtual 24, 3) := by decide +kernel
theorem dX0_act_45 : decode cX0_act 45 = .ok (.iinc 4 1, 3) := by decide +kernel
theorem dX0_act_48 : decode cX0_act 48 = .ok (.goto (-40), 3) := by decide +kernel
theorem dX0_act_51 : decode cX0_act 51 = .ok (.return_, 1) := by decide +kernel
