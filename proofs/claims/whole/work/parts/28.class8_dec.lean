theorem dX11_go_0 : decode cX11_go 0 = .ok (.iload_n 1, 1) := by decide +kernel
theorem dX11_go_1 : decode cX11_go 1 = .ok (.iconst 1, 1) := by decide +kernel
theorem dX11_go_2 : decode cX11_go 2 = .ok (.if_icmp .lt 9, 3) := by decide +kernel
theorem dX11_go_5 : decode cX11_go 5 = .ok (.iload_n 1, 1) := by decide +kernel
theorem dX11_go_6 : decode cX11_go 6 = .ok (.bipush 60, 2) := by decide +kernel
theorem dX11_go_8 : decode cX11_go 8 = .ok (.if_icmp .le 5, 3) := by decide +kernel
theorem dX11_go_11 : decode cX11_go 11 = .ok (.iconst (-1), 1) := by decide +kernel
theorem dX11_go_12 : decode cX11_go 12 = .ok (.ireturn, 1) := by decide +kernel
theorem dX11_go_13 : decode cX11_go 13 = .ok (.aload_n 0, 1) := by decide +kernel
theorem dX11_go_14 : decode cX11_go 14 = .ok (.getfield 10, 3) := by decide +kernel
theorem dX11_go_17 : decode cX11_go 17 = .ok (.getfield 59, 3) := by decide +kernel
theorem dX11_go_20 : decode cX11_go 20 = .ok (.ifCond .ne 6, 3) := by decide +kernel
theorem dX11_go_23 : decode cX11_go 23 = .ok (.bipush (-3), 2) := by decide +kernel
theorem dX11_go_25 : decode cX11_go 25 = .ok (.ireturn, 1) := by decide +kernel
theorem dX11_go_26 : decode cX11_go 26 = .ok (.iconst 0, 1) := by decide +kernel
theorem dX11_go_27 : decode cX11_go 27 = .ok (.istore_n 2, 1) := by decide +kernel
theorem dX11_go_28 : decode cX11_go 28 = .ok (.iload_n 2, 1) := by decide +kernel
theorem dX11_go_29 : decode cX11_go 29 = .ok (.iload_n 1, 1) := by decide +kernel
theorem dX11_go_30 : decode cX11_go 30 = .ok (.if_icmp .ge 28, 3) := by decide +kernel
theorem dX11_go_33 : decode cX11_go 33 = .ok (.aload_n 0, 1) := by decide +kernel
theorem dX11_go_34 : decode cX11_go 34 = .ok (.getfield 10, 3) := by decide +kernel
theorem dX11_go_37 : decode cX11_go 37 = .ok (.invokevirtual 165, 3) := by decide +kernel
theorem dX11_go_40 : decode cX11_go 40 = .ok (.bipush (-4), 2) := by decide +kernel
theorem dX11_go_42 : decode cX11_go 42 = .ok (.if_icmp .ne 16, 3) := by decide +kernel
theorem dX11_go_45 : decode cX11_go 45 = .ok (.aload_n 0, 1) := by decide +kernel
theorem dX11_go_46 : decode cX11_go 46 = .ok (.getfield 10, 3) := by decide +kernel
theorem dX11_go_49 : decode cX11_go 49 = .ok (.invokevirtual 168, 3) := by decide +kernel
theorem dX11_go_52 : decode cX11_go 52 = .ok (.iinc 2 1, 3) := by decide +kernel
theorem dX11_go_55 : decode cX11_go 55 = .ok (.goto (-27), 3) := by decide +kernel
theorem dX11_go_58 : decode cX11_go 58 = .ok (.aload_n 0, 1) := by decide +kernel
theorem dX11_go_59 : decode cX11_go 59 = .ok (.getfield 10, 3) := by decide +kernel
theorem dX11_go_62 : decode cX11_go 62 = .ok (.invokevirtual 165, 3) := by decide +kernel
theorem dX11_go_65 : decode cX11_go 65 = .ok (.ireturn, 1) := by decide +kernel
theorem dX11_talk_0 : decode cX11_talk 0 = .ok (.iload_n 1, 1) := by decide +kernel
theorem dX11_talk_1 : decode cX11_talk 1 = .ok (.ifCond .lt 8, 3) := by decide +kernel
theorem dX11_talk_4 : decode cX11_talk 4 = .ok (.iload_n 1, 1) := by decide +kernel
theorem dX11_talk_5 : decode cX11_talk 5 = .ok (.iconst 5, 1) := by decide +kernel
theorem dX11_talk_6 : decode cX11_talk 6 = .ok (.if_icmp .le 5, 3) := by decide +kernel
theorem dX11_talk_9 : decode cX11_talk 9 = .ok (.iconst (-1), 1) := by decide +kernel
theorem dX11_talk_10 : decode cX11_talk 10 = .ok (.ireturn, 1) := by decide +kernel
theorem dX11_talk_11 : decode cX11_talk 11 = .ok (.aload_n 0, 1) := by decide +kernel
theorem dX11_talk_12 : decode cX11_talk 12 = .ok (.getfield 10, 3) := by decide +kernel
theorem dX11_talk_15 : decode cX11_talk 15 = .ok (.getfield 59, 3) := by decide +kernel
theorem dX11_talk_18 : decode cX11_talk 18 = .ok (.ifCond .ne 6, 3) := by decide +kernel
theorem dX11_talk_21 : decode cX11_talk 21 = .ok (.bipush (-3), 2) := by decide +kernel
theorem dX11_talk_23 : decode cX11_talk 23 = .ok (.ireturn, 1) := by decide +kernel
theorem dX11_talk_24 : decode cX11_talk 24 = .ok (.iload_n 1, 1) := by decide +kernel
theorem dX11_talk_25 : decode cX11_talk 25 = .ok (.tableswitch 75 0 4 #[35, 43, 51, 59, 67], 35) := by decide +kernel
theorem dX11_talk_60 : decode cX11_talk 60 = .ok (.aload_n 0, 1) := by decide +kernel
theorem dX11_talk_61 : decode cX11_talk 61 = .ok (.getfield 10, 3) := by decide +kernel
theorem dX11_talk_64 : decode cX11_talk 64 = .ok (.getfield 171, 3) := by decide +kernel
theorem dX11_talk_67 : decode cX11_talk 67 = .ok (.ireturn, 1) := by decide +kernel
theorem dX11_talk_68 : decode cX11_talk 68 = .ok (.aload_n 0, 1) := by decide +kernel
theorem dX11_talk_69 : decode cX11_talk 69 = .ok (.getfield 10, 3) := by decide +kernel
theorem dX11_talk_72 : decode cX11_talk 72 = .ok (.invokevirtual 113, 3) := by decide +kernel
theorem dX11_talk_75 : decode cX11_talk 75 = .ok (.ireturn, 1) := by decide +kernel
theorem dX11_talk_76 : decode cX11_talk 76 = .ok (.aload_n 0, 1) := by decide +kernel
theorem dX11_talk_77 : decode cX11_talk 77 = .ok (.getfield 10, 3) := by decide +kernel
theorem dX11_talk_80 : decode cX11_talk 80 = .ok (.invokevirtual 117, 3) := by decide +kernel
theorem dX11_talk_83 : decode cX11_talk 83 = .ok (.ireturn, 1) := by decide +kernel
theorem dX11_talk_84 : decode cX11_talk 84 = .ok (.aload_n 0, 1) := by decide +kernel
theorem dX11_talk_85 : decode cX11_talk 85 = .ok (.getfield 10, 3) := by decide +kernel
theorem dX11_talk_88 : decode cX11_talk 88 = .ok (.getfield 174, 3) := by decide +kernel
theorem dX11_talk_91 : decode cX11_talk 91 = .ok (.ireturn, 1) := by decide +kernel
theorem dX11_talk_92 : decode cX11_talk 92 = .ok (.aload_n 0, 1) := by decide +kernel
theorem dX11_talk_93 : decode cX11_talk 93 = .ok (.getfield 10, 3) := by decide +kernel
theorem dX11_talk_96 : decode cX11_talk 96 = .ok (.getfield 177, 3) := by decide +kernel
theorem dX11_talk_99 : decode cX11_talk 99 = .ok (.ireturn, 1) := by decide +kernel
theorem dX11_talk_100 : decode cX11_talk 100 = .ok (.aload_n 0, 1) := by decide +kernel
theorem dX11_talk_101 : decode cX11_talk 101 = .ok (.getfield 10, 3) := by decide +kernel
theorem dX11_talk_104 : decode cX11_talk 104 = .ok (.invokevirtual 165, 3) := by decide +kernel
theorem dX11_talk_107 : decode cX11_talk 107 = .ok (.ireturn, 1) := by decide +kernel
theorem dX3_seatFrom_0 : decode cX3_seatFrom 0 = .ok (.aload_n 0, 1) := by decide +kernel
theorem dX3_seatFrom_1 : decode cX3_seatFrom 1 = .ok (.aload_n 1, 1) := by decide +kernel
theorem dX3_seatFrom_2 : decode cX3_seatFrom 2 = .ok (.getfield 86, 3) := by decide +kernel
theorem dX3_seatFrom_5 : decode cX3_seatFrom 5 = .ok (.putfield 86, 3) := by decide +kernel
theorem dX3_seatFrom_8 : decode cX3_seatFrom 8 = .ok (.aload_n 1, 1) := by decide +kernel
theorem dX3_seatFrom_9 : decode cX3_seatFrom 9 = .ok (.getfield 9, 3) := by decide +kernel
theorem dX3_seatFrom_12 : decode cX3_seatFrom 12 = .ok (.aload_n 0, 1) := by decide +kernel
theorem dX3_seatFrom_13 : decode cX3_seatFrom 13 = .ok (.getfield 9, 3) := by decide +kernel
theorem dX3_seatFrom_16 : decode cX3_seatFrom 16 = .ok (.invokestatic 176, 3) := by decide +kernel
theorem dX3_seatFrom_19 : decode cX3_seatFrom 19 = .ok (.aload_n 1, 1) := by decide +kernel
theorem dX3_seatFrom_20 : decode cX3_seatFrom 20 = .ok (.getfield 30, 3) := by decide +kernel
theorem dX3_seatFrom_23 : decode cX3_seatFrom 23 = .ok (.aload_n 0, 1) := by decide +kernel
theorem dX3_seatFrom_24 : decode cX3_seatFrom 24 = .ok (.getfield 30, 3) := by decide +kernel
theorem dX3_seatFrom_27 : decode cX3_seatFrom 27 = .ok (.invokestatic 176, 3) := by decide +kernel
theorem dX3_seatFrom_30 : decode cX3_seatFrom 30 = .ok (.aload_n 0, 1) := by decide +kernel
theorem dX3_seatFrom_31 : decode cX3_seatFrom 31 = .ok (.getfield 30, 3) := by decide +kernel
theorem dX3_seatFrom_34 : decode cX3_seatFrom 34 = .ok (.iconst 1, 1) := by decide +kernel
theorem dX3_seatFrom_35 : decode cX3_seatFrom 35 = .ok (.iconst 0, 1) := by decide +kernel
theorem dX3_seatFrom_36 : decode cX3_seatFrom 36 = .ok (.invokestatic 56, 3) := by decide +kernel
theorem dX3_seatFrom_39 : decode cX3_seatFrom 39 = .ok (.aload_n 0, 1) := by decide +kernel
theorem dX3_seatFrom_40 : decode cX3_seatFrom 40 = .ok (.iconst 0, 1) := by decide +kernel
theorem dX3_seatFrom_41 : decode cX3_seatFrom 41 = .ok (.putfield 45, 3) := by decide +kernel
theorem dX3_seatFrom_44 : decode cX3_seatFrom 44 = .ok (.iconst 0, 1) := by decide +kernel
theorem dX3_seatFrom_45 : decode cX3_seatFrom 45 = .ok (.istore_n 3, 1) := by decide +kernel
theorem dX3_seatFrom_46 : decode cX3_seatFrom 46 = .ok (.iload_n 3, 1) := by decide +kernel
theorem dX3_seatFrom_47 : decode cX3_seatFrom 47 = .ok (.aload_n 1, 1) := by decide +kernel
theorem dX3_seatFrom_48 : decode cX3_seatFrom 48 = .ok (.getfield 45, 3) := by decide +kernel
theorem dX3_seatFrom_51 : decode cX3_seatFrom 51 = .ok (.if_icmp .ge 54, 3) := by decide +kernel
theorem dX3_seatFrom_54 : decode cX3_seatFrom 54 = .ok (.iload_n 2, 1) := by decide +kernel
theorem dX3_seatFrom_55 : decode cX3_seatFrom 55 = .ok (.iload_n 3, 1) := by decide +kernel
theorem dX3_seatFrom_56 : decode cX3_seatFrom 56 = .ok (.ishr, 1) := by decide +kernel
theorem dX3_seatFrom_57 : decode cX3_seatFrom 57 = .ok (.iconst 1, 1) := by decide +kernel
theorem dX3_seatFrom_58 : decode cX3_seatFrom 58 = .ok (.iand, 1) := by decide +kernel
theorem dX3_seatFrom_59 : decode cX3_seatFrom 59 = .ok (.ifCond .ne 40, 3) := by decide +kernel
theorem dX3_seatFrom_62 : decode cX3_seatFrom 62 = .ok (.iload_n 3, 1) := by decide +kernel
theorem dX3_seatFrom_63 : decode cX3_seatFrom 63 = .ok (.aload_n 1, 1) := by decide +kernel
theorem dX3_seatFrom_64 : decode cX3_seatFrom 64 = .ok (.invokevirtual 123, 3) := by decide +kernel
theorem dX3_seatFrom_67 : decode cX3_seatFrom 67 = .ok (.if_icmp .ne 15, 3) := by decide +kernel
theorem dX3_seatFrom_70 : decode cX3_seatFrom 70 = .ok (.aload_n 0, 1) := by decide +kernel
theorem dX3_seatFrom_71 : decode cX3_seatFrom 71 = .ok (.getfield 30, 3) := by decide +kernel
theorem dX3_seatFrom_74 : decode cX3_seatFrom 74 = .ok (.iconst 1, 1) := by decide +kernel
theorem dX3_seatFrom_75 : decode cX3_seatFrom 75 = .ok (.aload_n 0, 1) := by decide +kernel
theorem dX3_seatFrom_76 : decode cX3_seatFrom 76 = .ok (.getfield 45, 3) := by decide +kernel
theorem dX3_seatFrom_79 : decode cX3_seatFrom 79 = .ok (.invokestatic 56, 3) := by decide +kernel
theorem dX3_seatFrom_82 : decode cX3_seatFrom 82 = .ok (.aload_n 0, 1) := by decide +kernel
theorem dX3_seatFrom_83 : decode cX3_seatFrom 83 = .ok (.aload_n 1, 1) := by decide +kernel
theorem dX3_seatFrom_84 : decode cX3_seatFrom 84 = .ok (.iload_n 3, 1) := by decide +kernel
theorem dX3_seatFrom_85 : decode cX3_seatFrom 85 = .ok (.invokevirtual 89, 3) := by decide +kernel
theorem dX3_seatFrom_88 : decode cX3_seatFrom 88 = .ok (.aload_n 1, 1) := by decide +kernel
theorem dX3_seatFrom_89 : decode cX3_seatFrom 89 = .ok (.getfield 21, 3) := by decide +kernel
theorem dX3_seatFrom_92 : decode cX3_seatFrom 92 = .ok (.iload_n 3, 1) := by decide +kernel
theorem dX3_seatFrom_93 : decode cX3_seatFrom 93 = .ok (.invokestatic 60, 3) := by decide +kernel
theorem dX3_seatFrom_96 : decode cX3_seatFrom 96 = .ok (.invokevirtual 180, 3) := by decide +kernel
theorem dX3_seatFrom_99 : decode cX3_seatFrom 99 = .ok (.iinc 3 1, 3) := by decide +kernel
theorem dX3_seatFrom_102 : decode cX3_seatFrom 102 = .ok (.goto (-56), 3) := by decide +kernel
theorem dX3_seatFrom_105 : decode cX3_seatFrom 105 = .ok (.return_, 1) := by decide +kernel
theorem dX3_runThrough_0 : decode cX3_runThrough 0 = .ok (.aload_n 0, 1) := by decide +kernel
theorem dX3_runThrough_1 : decode cX3_runThrough 1 = .ok (.invokevirtual 161, 3) := by decide +kernel
theorem dX3_runThrough_4 : decode cX3_runThrough 4 = .ok (.iconst 0, 1) := by decide +kernel
theorem dX3_runThrough_5 : decode cX3_runThrough 5 = .ok (.istore_n 1, 1) := by decide +kernel
theorem dX3_runThrough_6 : decode cX3_runThrough 6 = .ok (.iload_n 1, 1) := by decide +kernel
theorem dX3_runThrough_7 : decode cX3_runThrough 7 = .ok (.sipush 3000, 3) := by decide +kernel
theorem dX3_runThrough_10 : decode cX3_runThrough 10 = .ok (.if_icmp .ge 22, 3) := by decide +kernel
theorem dX3_runThrough_13 : decode cX3_runThrough 13 = .ok (.aload_n 0, 1) := by decide +kernel
theorem dX3_runThrough_14 : decode cX3_runThrough 14 = .ok (.invokevirtual 164, 3) := by decide +kernel
theorem dX3_runThrough_17 : decode cX3_runThrough 17 = .ok (.bipush (-4), 2) := by decide +kernel
theorem dX3_runThrough_19 : decode cX3_runThrough 19 = .ok (.if_icmp .ne 13, 3) := by decide +kernel
theorem dX3_runThrough_22 : decode cX3_runThrough 22 = .ok (.aload_n 0, 1) := by decide +kernel
theorem dX3_runThrough_23 : decode cX3_runThrough 23 = .ok (.invokevirtual 167, 3) := by decide +kernel
theorem dX3_runThrough_26 : decode cX3_runThrough 26 = .ok (.iinc 1 1, 3) := by decide +kernel
theorem dX3_runThrough_29 : decode cX3_runThrough 29 = .ok (.goto (-23), 3) := by decide +kernel
theorem dX3_runThrough_32 : decode cX3_runThrough 32 = .ok (.aload_n 0, 1) := by decide +kernel
theorem dX3_runThrough_33 : decode cX3_runThrough 33 = .ok (.invokevirtual 164, 3) := by decide +kernel
theorem dX3_runThrough_36 : decode cX3_runThrough 36 = .ok (.ireturn, 1) := by decide +kernel
theorem dX11_runInMind_0 : decode cX11_runInMind 0 = .ok (.aload_n 0, 1) := by decide +kernel
theorem dX11_runInMind_1 : decode cX11_runInMind 1 = .ok (.getfield 16, 3) := by decide +kernel
theorem dX11_runInMind_4 : decode cX11_runInMind 4 = .ok (.aload_n 0, 1) := by decide +kernel
theorem dX11_runInMind_5 : decode cX11_runInMind 5 = .ok (.getfield 10, 3) := by decide +kernel
theorem dX11_runInMind_8 : decode cX11_runInMind 8 = .ok (.iconst 0, 1) := by decide +kernel
theorem dX11_runInMind_9 : decode cX11_runInMind 9 = .ok (.invokevirtual 195, 3) := by decide +kernel
theorem dX11_runInMind_12 : decode cX11_runInMind 12 = .ok (.aload_n 0, 1) := by decide +kernel
theorem dX11_runInMind_13 : decode cX11_runInMind 13 = .ok (.getfield 16, 3) := by decide +kernel
theorem dX11_runInMind_16 : decode cX11_runInMind 16 = .ok (.invokevirtual 202, 3) := by decide +kernel
theorem dX11_runInMind_19 : decode cX11_runInMind 19 = .ok (.pop, 1) := by decide +kernel
theorem dX11_runInMind_20 : decode cX11_runInMind 20 = .ok (.return_, 1) := by decide +kernel
theorem dX11_run_0 : decode cX11_run 0 = .ok (.iload_n 1, 1) := by decide +kernel
theorem dX11_run_1 : decode cX11_run 1 = .ok (.ifCond .lt 8, 3) := by decide +kernel
theorem dX11_run_4 : decode cX11_run 4 = .ok (.iload_n 1, 1) := by decide +kernel
theorem dX11_run_5 : decode cX11_run 5 = .ok (.iconst 4, 1) := by decide +kernel
theorem dX11_run_6 : decode cX11_run 6 = .ok (.if_icmp .le 5, 3) := by decide +kernel
theorem dX11_run_9 : decode cX11_run 9 = .ok (.iconst (-1), 1) := by decide +kernel
theorem dX11_run_10 : decode cX11_run 10 = .ok (.ireturn, 1) := by decide +kernel
theorem dX11_run_11 : decode cX11_run 11 = .ok (.aload_n 0, 1) := by decide +kernel
theorem dX11_run_12 : decode cX11_run 12 = .ok (.getfield 10, 3) := by decide +kernel
theorem dX11_run_15 : decode cX11_run 15 = .ok (.getfield 48, 3) := by decide +kernel
theorem dX11_run_18 : decode cX11_run 18 = .ok (.ifCond .ne 6, 3) := by decide +kernel
theorem dX11_run_21 : decode cX11_run 21 = .ok (.bipush (-3), 2) := by decide +kernel
theorem dX11_run_23 : decode cX11_run 23 = .ok (.ireturn, 1) := by decide +kernel
theorem dX11_run_24 : decode cX11_run 24 = .ok (.aload_n 0, 1) := by decide +kernel
theorem dX11_run_25 : decode cX11_run 25 = .ok (.invokevirtual 180, 3) := by decide +kernel
theorem dX11_run_28 : decode cX11_run 28 = .ok (.iload_n 1, 1) := by decide +kernel
theorem dX11_run_29 : decode cX11_run 29 = .ok (.tableswitch 66 0 3 #[31, 39, 47, 55], 31) := by decide +kernel
theorem dX11_run_60 : decode cX11_run 60 = .ok (.aload_n 0, 1) := by decide +kernel
theorem dX11_run_61 : decode cX11_run 61 = .ok (.getfield 16, 3) := by decide +kernel
theorem dX11_run_64 : decode cX11_run 64 = .ok (.invokevirtual 165, 3) := by decide +kernel
theorem dX11_run_67 : decode cX11_run 67 = .ok (.ireturn, 1) := by decide +kernel
theorem dX11_run_68 : decode cX11_run 68 = .ok (.aload_n 0, 1) := by decide +kernel
theorem dX11_run_69 : decode cX11_run 69 = .ok (.getfield 16, 3) := by decide +kernel
theorem dX11_run_72 : decode cX11_run 72 = .ok (.getfield 171, 3) := by decide +kernel
theorem dX11_run_75 : decode cX11_run 75 = .ok (.ireturn, 1) := by decide +kernel
theorem dX11_run_76 : decode cX11_run 76 = .ok (.aload_n 0, 1) := by decide +kernel
theorem dX11_run_77 : decode cX11_run 77 = .ok (.getfield 16, 3) := by decide +kernel
theorem dX11_run_80 : decode cX11_run 80 = .ok (.getfield 174, 3) := by decide +kernel
theorem dX11_run_83 : decode cX11_run 83 = .ok (.ireturn, 1) := by decide +kernel
theorem dX11_run_84 : decode cX11_run 84 = .ok (.aload_n 0, 1) := by decide +kernel
theorem dX11_run_85 : decode cX11_run 85 = .ok (.getfield 16, 3) := by decide +kernel
theorem dX11_run_88 : decode cX11_run 88 = .ok (.getfield 183, 3) := by decide +kernel
theorem dX11_run_91 : decode cX11_run 91 = .ok (.invokestatic 186, 3) := by decide +kernel
theorem dX11_run_94 : decode cX11_run 94 = .ok (.ireturn, 1) := by decide +kernel
theorem dX11_run_95 : decode cX11_run 95 = .ok (.aload_n 0, 1) := by decide +kernel
theorem dX11_run_96 : decode cX11_run 96 = .ok (.getfield 16, 3) := by decide +kernel
theorem dX11_run_99 : decode cX11_run 99 = .ok (.invokevirtual 113, 3) := by decide +kernel
theorem dX11_run_102 : decode cX11_run 102 = .ok (.ireturn, 1) := by decide +kernel
theorem dX11_slips_0 : decode cX11_slips 0 = .ok (.aload_n 0, 1) := by decide +kernel
theorem dX11_slips_1 : decode cX11_slips 1 = .ok (.getfield 10, 3) := by decide +kernel
theorem dX11_slips_4 : decode cX11_slips 4 = .ok (.getfield 48, 3) := by decide +kernel
theorem dX11_slips_7 : decode cX11_slips 7 = .ok (.ifCond .ne 6, 3) := by decide +kernel
theorem dX11_slips_10 : decode cX11_slips 10 = .ok (.bipush (-3), 2) := by decide +kernel
theorem dX11_slips_12 : decode cX11_slips 12 = .ok (.ireturn, 1) := by decide +kernel
theorem dX11_slips_13 : decode cX11_slips 13 = .ok (.aload_n 0, 1) := by decide +kernel
theorem dX11_slips_14 : decode cX11_slips 14 = .ok (.invokevirtual 180, 3) := by decide +kernel
theorem dX11_slips_17 : decode cX11_slips 17 = .ok (.iload_n 1, 1) := by decide +kernel
theorem dX11_slips_18 : decode cX11_slips 18 = .ok (.ifCond .eq 13, 3) := by decide +kernel
theorem dX11_slips_21 : decode cX11_slips 21 = .ok (.aload_n 0, 1) := by decide +kernel
theorem dX11_slips_22 : decode cX11_slips 22 = .ok (.getfield 16, 3) := by decide +kernel
theorem dX11_slips_25 : decode cX11_slips 25 = .ok (.getfield 183, 3) := by decide +kernel
theorem dX11_slips_28 : decode cX11_slips 28 = .ok (.goto 10, 3) := by decide +kernel
theorem dX11_slips_31 : decode cX11_slips 31 = .ok (.aload_n 0, 1) := by decide +kernel
theorem dX11_slips_32 : decode cX11_slips 32 = .ok (.getfield 16, 3) := by decide +kernel
theorem dX11_slips_35 : decode cX11_slips 35 = .ok (.getfield 107, 3) := by decide +kernel
theorem dX11_slips_38 : decode cX11_slips 38 = .ok (.ireturn, 1) := by decide +kernel
