theorem dX12_runAll_0 : decode cX12_runAll 0 = .ok (.aload_n 0, 1) := by decide +kernel
theorem dX12_runAll_1 : decode cX12_runAll 1 = .ok (.aload_n 0, 1) := by decide +kernel
theorem dX12_runAll_2 : decode cX12_runAll 2 = .ok (.getfield 25, 3) := by decide +kernel
theorem dX12_runAll_5 : decode cX12_runAll 5 = .ok (.invokevirtual 235, 3) := by decide +kernel
theorem dX12_runAll_8 : decode cX12_runAll 8 = .ok (.aload_n 0, 1) := by decide +kernel
theorem dX12_runAll_9 : decode cX12_runAll 9 = .ok (.aload_n 0, 1) := by decide +kernel
theorem dX12_runAll_10 : decode cX12_runAll 10 = .ok (.aload_n 0, 1) := by decide +kernel
theorem dX12_runAll_11 : decode cX12_runAll 11 = .ok (.getfield 9, 3) := by decide +kernel
theorem dX12_runAll_14 : decode cX12_runAll 14 = .ok (.iconst 1, 1) := by decide +kernel
theorem dX12_runAll_15 : decode cX12_runAll 15 = .ok (.iaload, 1) := by decide +kernel
theorem dX12_runAll_16 : decode cX12_runAll 16 = .ok (.invokevirtual 238, 3) := by decide +kernel
theorem dX12_runAll_19 : decode cX12_runAll 19 = .ok (.iload_n 1, 1) := by decide +kernel
theorem dX12_runAll_20 : decode cX12_runAll 20 = .ok (.aload_n 0, 1) := by decide +kernel
theorem dX12_runAll_21 : decode cX12_runAll 21 = .ok (.getfield 9, 3) := by decide +kernel
theorem dX12_runAll_24 : decode cX12_runAll 24 = .ok (.iconst 1, 1) := by decide +kernel
theorem dX12_runAll_25 : decode cX12_runAll 25 = .ok (.iaload, 1) := by decide +kernel
theorem dX12_runAll_26 : decode cX12_runAll 26 = .ok (.invokestatic 232, 3) := by decide +kernel
theorem dX12_runAll_29 : decode cX12_runAll 29 = .ok (.aload_n 0, 1) := by decide +kernel
theorem dX12_runAll_30 : decode cX12_runAll 30 = .ok (.getfield 9, 3) := by decide +kernel
theorem dX12_runAll_33 : decode cX12_runAll 33 = .ok (.iconst 5, 1) := by decide +kernel
theorem dX12_runAll_34 : decode cX12_runAll 34 = .ok (.iaload, 1) := by decide +kernel
theorem dX12_runAll_35 : decode cX12_runAll 35 = .ok (.iconst 1, 1) := by decide +kernel
theorem dX12_runAll_36 : decode cX12_runAll 36 = .ok (.if_icmp .ne 7, 3) := by decide +kernel
theorem dX12_runAll_39 : decode cX12_runAll 39 = .ok (.iconst 1, 1) := by decide +kernel
theorem dX12_runAll_40 : decode cX12_runAll 40 = .ok (.goto 4, 3) := by decide +kernel
theorem dX12_runAll_43 : decode cX12_runAll 43 = .ok (.iconst 0, 1) := by decide +kernel
theorem dX12_runAll_44 : decode cX12_runAll 44 = .ok (.invokevirtual 269, 3) := by decide +kernel
theorem dX12_runAll_47 : decode cX12_runAll 47 = .ok (.ireturn, 1) := by decide +kernel
theorem dX12_runNow_0 : decode cX12_runNow 0 = .ok (.aload_n 0, 1) := by decide +kernel
theorem dX12_runNow_1 : decode cX12_runNow 1 = .ok (.aload_n 0, 1) := by decide +kernel
theorem dX12_runNow_2 : decode cX12_runNow 2 = .ok (.getfield 9, 3) := by decide +kernel
theorem dX12_runNow_5 : decode cX12_runNow 5 = .ok (.iconst 3, 1) := by decide +kernel
theorem dX12_runNow_6 : decode cX12_runNow 6 = .ok (.iaload, 1) := by decide +kernel
theorem dX12_runNow_7 : decode cX12_runNow 7 = .ok (.invokevirtual 273, 3) := by decide +kernel
theorem dX12_runNow_10 : decode cX12_runNow 10 = .ok (.ireturn, 1) := by decide +kernel
theorem dX12_run_0 : decode cX12_run 0 = .ok (.iload_n 1, 1) := by decide +kernel
theorem dX12_run_1 : decode cX12_run 1 = .ok (.i2l, 1) := by decide +kernel
theorem dX12_run_2 : decode cX12_run 2 = .ok (.lconst 0, 1) := by decide +kernel
theorem dX12_run_3 : decode cX12_run 3 = .ok (.ldc2_w 276, 3) := by decide +kernel
theorem dX12_run_6 : decode cX12_run 6 = .ok (.invokestatic 62, 3) := by decide +kernel
theorem dX12_run_9 : decode cX12_run 9 = .ok (.ifCond .ne 5, 3) := by decide +kernel
theorem dX12_run_12 : decode cX12_run 12 = .ok (.iconst (-1), 1) := by decide +kernel
theorem dX12_run_13 : decode cX12_run 13 = .ok (.ireturn, 1) := by decide +kernel
theorem dX12_run_14 : decode cX12_run 14 = .ok (.aload_n 0, 1) := by decide +kernel
theorem dX12_run_15 : decode cX12_run 15 = .ok (.getfield 9, 3) := by decide +kernel
theorem dX12_run_18 : decode cX12_run 18 = .ok (.iconst 1, 1) := by decide +kernel
theorem dX12_run_19 : decode cX12_run 19 = .ok (.iaload, 1) := by decide +kernel
theorem dX12_run_20 : decode cX12_run 20 = .ok (.ifCond .ne 6, 3) := by decide +kernel
theorem dX12_run_23 : decode cX12_run 23 = .ok (.bipush (-3), 2) := by decide +kernel
theorem dX12_run_25 : decode cX12_run 25 = .ok (.ireturn, 1) := by decide +kernel
theorem dX12_run_26 : decode cX12_run 26 = .ok (.aload_n 0, 1) := by decide +kernel
theorem dX12_run_27 : decode cX12_run 27 = .ok (.invokevirtual 278, 3) := by decide +kernel
theorem dX12_run_30 : decode cX12_run 30 = .ok (.istore_n 2, 1) := by decide +kernel
theorem dX12_run_31 : decode cX12_run 31 = .ok (.iload_n 1, 1) := by decide +kernel
theorem dX12_run_32 : decode cX12_run 32 = .ok (.tableswitch 53 0 3 #[32, 34, 41, 48], 32) := by decide +kernel
theorem dX12_run_64 : decode cX12_run 64 = .ok (.iload_n 2, 1) := by decide +kernel
theorem dX12_run_65 : decode cX12_run 65 = .ok (.ireturn, 1) := by decide +kernel
theorem dX12_run_66 : decode cX12_run 66 = .ok (.aload_n 0, 1) := by decide +kernel
theorem dX12_run_67 : decode cX12_run 67 = .ok (.getfield 25, 3) := by decide +kernel
theorem dX12_run_70 : decode cX12_run 70 = .ok (.iconst 0, 1) := by decide +kernel
theorem dX12_run_71 : decode cX12_run 71 = .ok (.iaload, 1) := by decide +kernel
theorem dX12_run_72 : decode cX12_run 72 = .ok (.ireturn, 1) := by decide +kernel
theorem dX12_run_73 : decode cX12_run 73 = .ok (.aload_n 0, 1) := by decide +kernel
theorem dX12_run_74 : decode cX12_run 74 = .ok (.getfield 25, 3) := by decide +kernel
theorem dX12_run_77 : decode cX12_run 77 = .ok (.iconst 3, 1) := by decide +kernel
theorem dX12_run_78 : decode cX12_run 78 = .ok (.iaload, 1) := by decide +kernel
theorem dX12_run_79 : decode cX12_run 79 = .ok (.ireturn, 1) := by decide +kernel
theorem dX12_run_80 : decode cX12_run 80 = .ok (.aload_n 0, 1) := by decide +kernel
theorem dX12_run_81 : decode cX12_run 81 = .ok (.getfield 256, 3) := by decide +kernel
theorem dX12_run_84 : decode cX12_run 84 = .ok (.ireturn, 1) := by decide +kernel
theorem dX12_run_85 : decode cX12_run 85 = .ok (.aload_n 0, 1) := by decide +kernel
theorem dX12_run_86 : decode cX12_run 86 = .ok (.getfield 25, 3) := by decide +kernel
theorem dX12_run_89 : decode cX12_run 89 = .ok (.iconst 1, 1) := by decide +kernel
theorem dX12_run_90 : decode cX12_run 90 = .ok (.iaload, 1) := by decide +kernel
theorem dX12_run_91 : decode cX12_run 91 = .ok (.ireturn, 1) := by decide +kernel
theorem dX12_slips_0 : decode cX12_slips 0 = .ok (.aload_n 0, 1) := by decide +kernel
theorem dX12_slips_1 : decode cX12_slips 1 = .ok (.getfield 9, 3) := by decide +kernel
theorem dX12_slips_4 : decode cX12_slips 4 = .ok (.iconst 1, 1) := by decide +kernel
theorem dX12_slips_5 : decode cX12_slips 5 = .ok (.iaload, 1) := by decide +kernel
theorem dX12_slips_6 : decode cX12_slips 6 = .ok (.ifCond .ne 6, 3) := by decide +kernel
theorem dX12_slips_9 : decode cX12_slips 9 = .ok (.bipush (-3), 2) := by decide +kernel
theorem dX12_slips_11 : decode cX12_slips 11 = .ok (.ireturn, 1) := by decide +kernel
theorem dX12_slips_12 : decode cX12_slips 12 = .ok (.aload_n 0, 1) := by decide +kernel
theorem dX12_slips_13 : decode cX12_slips 13 = .ok (.invokevirtual 278, 3) := by decide +kernel
theorem dX12_slips_16 : decode cX12_slips 16 = .ok (.istore_n 2, 1) := by decide +kernel
theorem dX12_slips_17 : decode cX12_slips 17 = .ok (.iload_n 1, 1) := by decide +kernel
theorem dX12_slips_18 : decode cX12_slips 18 = .ok (.ifCond .eq 10, 3) := by decide +kernel
theorem dX12_slips_21 : decode cX12_slips 21 = .ok (.aload_n 0, 1) := by decide +kernel
theorem dX12_slips_22 : decode cX12_slips 22 = .ok (.getfield 262, 3) := by decide +kernel
theorem dX12_slips_25 : decode cX12_slips 25 = .ok (.goto 11, 3) := by decide +kernel
theorem dX12_slips_28 : decode cX12_slips 28 = .ok (.aload_n 0, 1) := by decide +kernel
theorem dX12_slips_29 : decode cX12_slips 29 = .ok (.aload_n 0, 1) := by decide +kernel
theorem dX12_slips_30 : decode cX12_slips 30 = .ok (.getfield 25, 3) := by decide +kernel
theorem dX12_slips_33 : decode cX12_slips 33 = .ok (.invokevirtual 259, 3) := by decide +kernel
theorem dX12_slips_36 : decode cX12_slips 36 = .ok (.ireturn, 1) := by decide +kernel
theorem dX12_moved_0 : decode cX12_moved 0 = .ok (.aload_n 0, 1) := by decide +kernel
theorem dX12_moved_1 : decode cX12_moved 1 = .ok (.iload_n 1, 1) := by decide +kernel
theorem dX12_moved_2 : decode cX12_moved 2 = .ok (.invokevirtual 84, 3) := by decide +kernel
theorem dX12_moved_5 : decode cX12_moved 5 = .ok (.ifCond .eq 15, 3) := by decide +kernel
theorem dX12_moved_8 : decode cX12_moved 8 = .ok (.iload_n 2, 1) := by decide +kernel
theorem dX12_moved_9 : decode cX12_moved 9 = .ok (.i2l, 1) := by decide +kernel
theorem dX12_moved_10 : decode cX12_moved 10 = .ok (.lconst 0, 1) := by decide +kernel
theorem dX12_moved_11 : decode cX12_moved 11 = .ok (.ldc2_w 281, 3) := by decide +kernel
theorem dX12_moved_14 : decode cX12_moved 14 = .ok (.invokestatic 62, 3) := by decide +kernel
theorem dX12_moved_17 : decode cX12_moved 17 = .ok (.ifCond .ne 6, 3) := by decide +kernel
theorem dX12_moved_20 : decode cX12_moved 20 = .ok (.ldc 97, 2) := by decide +kernel
theorem dX12_moved_22 : decode cX12_moved 22 = .ok (.ireturn, 1) := by decide +kernel
theorem dX12_moved_23 : decode cX12_moved 23 = .ok (.aload_n 0, 1) := by decide +kernel
theorem dX12_moved_24 : decode cX12_moved 24 = .ok (.invokevirtual 278, 3) := by decide +kernel
theorem dX12_moved_27 : decode cX12_moved 27 = .ok (.istore_n 3, 1) := by decide +kernel
theorem dX12_moved_28 : decode cX12_moved 28 = .ok (.iload_n 2, 1) := by decide +kernel
theorem dX12_moved_29 : decode cX12_moved 29 = .ok (.ifCond .ne 31, 3) := by decide +kernel
theorem dX12_moved_32 : decode cX12_moved 32 = .ok (.aload_n 0, 1) := by decide +kernel
theorem dX12_moved_33 : decode cX12_moved 33 = .ok (.aload_n 0, 1) := by decide +kernel
theorem dX12_moved_34 : decode cX12_moved 34 = .ok (.getfield 25, 3) := by decide +kernel
theorem dX12_moved_37 : decode cX12_moved 37 = .ok (.bipush 19, 2) := by decide +kernel
theorem dX12_moved_39 : decode cX12_moved 39 = .ok (.iload_n 1, 1) := by decide +kernel
theorem dX12_moved_40 : decode cX12_moved 40 = .ok (.iadd, 1) := by decide +kernel
theorem dX12_moved_41 : decode cX12_moved 41 = .ok (.iaload, 1) := by decide +kernel
theorem dX12_moved_42 : decode cX12_moved 42 = .ok (.invokevirtual 176, 3) := by decide +kernel
theorem dX12_moved_45 : decode cX12_moved 45 = .ok (.aload_n 0, 1) := by decide +kernel
theorem dX12_moved_46 : decode cX12_moved 46 = .ok (.aload_n 0, 1) := by decide +kernel
theorem dX12_moved_47 : decode cX12_moved 47 = .ok (.iload_n 1, 1) := by decide +kernel
theorem dX12_moved_48 : decode cX12_moved 48 = .ok (.bipush 6, 2) := by decide +kernel
theorem dX12_moved_50 : decode cX12_moved 50 = .ok (.invokevirtual 98, 3) := by decide +kernel
theorem dX12_moved_53 : decode cX12_moved 53 = .ok (.invokevirtual 176, 3) := by decide +kernel
theorem dX12_moved_56 : decode cX12_moved 56 = .ok (.isub, 1) := by decide +kernel
theorem dX12_moved_57 : decode cX12_moved 57 = .ok (.goto 44, 3) := by decide +kernel
theorem dX12_moved_60 : decode cX12_moved 60 = .ok (.iload_n 2, 1) := by decide +kernel
theorem dX12_moved_61 : decode cX12_moved 61 = .ok (.iconst 1, 1) := by decide +kernel
theorem dX12_moved_62 : decode cX12_moved 62 = .ok (.if_icmp .ne 22, 3) := by decide +kernel
theorem dX12_moved_65 : decode cX12_moved 65 = .ok (.aload_n 0, 1) := by decide +kernel
theorem dX12_moved_66 : decode cX12_moved 66 = .ok (.getfield 25, 3) := by decide +kernel
theorem dX12_moved_69 : decode cX12_moved 69 = .ok (.bipush 31, 2) := by decide +kernel
theorem dX12_moved_71 : decode cX12_moved 71 = .ok (.iload_n 1, 1) := by decide +kernel
theorem dX12_moved_72 : decode cX12_moved 72 = .ok (.iadd, 1) := by decide +kernel
theorem dX12_moved_73 : decode cX12_moved 73 = .ok (.iaload, 1) := by decide +kernel
theorem dX12_moved_74 : decode cX12_moved 74 = .ok (.aload_n 0, 1) := by decide +kernel
theorem dX12_moved_75 : decode cX12_moved 75 = .ok (.getfield 52, 3) := by decide +kernel
theorem dX12_moved_78 : decode cX12_moved 78 = .ok (.iload_n 1, 1) := by decide +kernel
theorem dX12_moved_79 : decode cX12_moved 79 = .ok (.iaload, 1) := by decide +kernel
theorem dX12_moved_80 : decode cX12_moved 80 = .ok (.isub, 1) := by decide +kernel
theorem dX12_moved_81 : decode cX12_moved 81 = .ok (.goto 20, 3) := by decide +kernel
theorem dX12_moved_84 : decode cX12_moved 84 = .ok (.aload_n 0, 1) := by decide +kernel
theorem dX12_moved_85 : decode cX12_moved 85 = .ok (.getfield 25, 3) := by decide +kernel
theorem dX12_moved_88 : decode cX12_moved 88 = .ok (.bipush 55, 2) := by decide +kernel
theorem dX12_moved_90 : decode cX12_moved 90 = .ok (.iload_n 1, 1) := by decide +kernel
theorem dX12_moved_91 : decode cX12_moved 91 = .ok (.iadd, 1) := by decide +kernel
theorem dX12_moved_92 : decode cX12_moved 92 = .ok (.iaload, 1) := by decide +kernel
theorem dX12_moved_93 : decode cX12_moved 93 = .ok (.ifCond .le 7, 3) := by decide +kernel
theorem dX12_moved_96 : decode cX12_moved 96 = .ok (.iconst 1, 1) := by decide +kernel
theorem dX12_moved_97 : decode cX12_moved 97 = .ok (.goto 4, 3) := by decide +kernel
theorem dX12_moved_100 : decode cX12_moved 100 = .ok (.iconst 0, 1) := by decide +kernel
theorem dX12_moved_101 : decode cX12_moved 101 = .ok (.ireturn, 1) := by decide +kernel
theorem dX12_out_0 : decode cX12_out 0 = .ok (.iload_n 1, 1) := by decide +kernel
theorem dX12_out_1 : decode cX12_out 1 = .ok (.i2l, 1) := by decide +kernel
theorem dX12_out_2 : decode cX12_out 2 = .ok (.lconst 0, 1) := by decide +kernel
theorem dX12_out_3 : decode cX12_out 3 = .ok (.aload_n 0, 1) := by decide +kernel
theorem dX12_out_4 : decode cX12_out 4 = .ok (.getfield 9, 3) := by decide +kernel
theorem dX12_out_7 : decode cX12_out 7 = .ok (.iconst 0, 1) := by decide +kernel
theorem dX12_out_8 : decode cX12_out 8 = .ok (.iaload, 1) := by decide +kernel
theorem dX12_out_9 : decode cX12_out 9 = .ok (.iconst 1, 1) := by decide +kernel
theorem dX12_out_10 : decode cX12_out 10 = .ok (.isub, 1) := by decide +kernel
theorem dX12_out_11 : decode cX12_out 11 = .ok (.i2l, 1) := by decide +kernel
theorem dX12_out_12 : decode cX12_out 12 = .ok (.invokestatic 62, 3) := by decide +kernel
theorem dX12_out_15 : decode cX12_out 15 = .ok (.ifCond .ne 5, 3) := by decide +kernel
theorem dX12_out_18 : decode cX12_out 18 = .ok (.iconst (-1), 1) := by decide +kernel
theorem dX12_out_19 : decode cX12_out 19 = .ok (.ireturn, 1) := by decide +kernel
theorem dX12_out_20 : decode cX12_out 20 = .ok (.aload_n 0, 1) := by decide +kernel
theorem dX12_out_21 : decode cX12_out 21 = .ok (.getfield 9, 3) := by decide +kernel
theorem dX12_out_24 : decode cX12_out 24 = .ok (.iconst 1, 1) := by decide +kernel
theorem dX12_out_25 : decode cX12_out 25 = .ok (.iaload, 1) := by decide +kernel
theorem dX12_out_26 : decode cX12_out 26 = .ok (.ifCond .ne 6, 3) := by decide +kernel
theorem dX12_out_29 : decode cX12_out 29 = .ok (.bipush (-3), 2) := by decide +kernel
theorem dX12_out_31 : decode cX12_out 31 = .ok (.ireturn, 1) := by decide +kernel
theorem dX12_out_32 : decode cX12_out 32 = .ok (.aload_n 0, 1) := by decide +kernel
theorem dX12_out_33 : decode cX12_out 33 = .ok (.invokevirtual 278, 3) := by decide +kernel
theorem dX12_out_36 : decode cX12_out 36 = .ok (.istore_n 2, 1) := by decide +kernel
theorem dX12_out_37 : decode cX12_out 37 = .ok (.aload_n 0, 1) := by decide +kernel
theorem dX12_out_38 : decode cX12_out 38 = .ok (.getfield 55, 3) := by decide +kernel
theorem dX12_out_41 : decode cX12_out 41 = .ok (.iload_n 1, 1) := by decide +kernel
theorem dX12_out_42 : decode cX12_out 42 = .ok (.iaload, 1) := by decide +kernel
theorem dX12_out_43 : decode cX12_out 43 = .ok (.ireturn, 1) := by decide +kernel
theorem dX12_one_0 : decode cX12_one 0 = .ok (.iconst 0, 1) := by decide +kernel
theorem dX12_one_1 : decode cX12_one 1 = .ok (.istore_n 1, 1) := by decide +kernel
theorem dX12_one_2 : decode cX12_one 2 = .ok (.iconst 0, 1) := by decide +kernel
theorem dX12_one_3 : decode cX12_one 3 = .ok (.istore_n 2, 1) := by decide +kernel
theorem dX12_one_4 : decode cX12_one 4 = .ok (.iconst 0, 1) := by decide +kernel
theorem dX12_one_5 : decode cX12_one 5 = .ok (.istore_n 3, 1) := by decide +kernel
theorem dX12_one_6 : decode cX12_one 6 = .ok (.iload_n 3, 1) := by decide +kernel
theorem dX12_one_7 : decode cX12_one 7 = .ok (.aload_n 0, 1) := by decide +kernel
theorem dX12_one_8 : decode cX12_one 8 = .ok (.getfield 9, 3) := by decide +kernel
theorem dX12_one_11 : decode cX12_one 11 = .ok (.iconst 1, 1) := by decide +kernel
theorem dX12_one_12 : decode cX12_one 12 = .ok (.iaload, 1) := by decide +kernel
theorem dX12_one_13 : decode cX12_one 13 = .ok (.if_icmp .ge 31, 3) := by decide +kernel
theorem dX12_one_16 : decode cX12_one 16 = .ok (.iload_n 2, 1) := by decide +kernel
theorem dX12_one_17 : decode cX12_one 17 = .ok (.iload_n 1, 1) := by decide +kernel
theorem dX12_one_18 : decode cX12_one 18 = .ok (.aload_n 0, 1) := by decide +kernel
theorem dX12_one_19 : decode cX12_one 19 = .ok (.iload_n 3, 1) := by decide +kernel
theorem dX12_one_20 : decode cX12_one 20 = .ok (.bipush 6, 2) := by decide +kernel
theorem dX12_one_22 : decode cX12_one 22 = .ok (.invokevirtual 98, 3) := by decide +kernel
theorem dX12_one_25 : decode cX12_one 25 = .ok (.iand, 1) := by decide +kernel
theorem dX12_one_26 : decode cX12_one 26 = .ok (.ior, 1) := by decide +kernel
theorem dX12_one_27 : decode cX12_one 27 = .ok (.istore_n 2, 1) := by decide +kernel
theorem dX12_one_28 : decode cX12_one 28 = .ok (.iload_n 1, 1) := by decide +kernel
theorem dX12_one_29 : decode cX12_one 29 = .ok (.aload_n 0, 1) := by decide +kernel
theorem dX12_one_30 : decode cX12_one 30 = .ok (.iload_n 3, 1) := by decide +kernel
theorem dX12_one_31 : decode cX12_one 31 = .ok (.bipush 6, 2) := by decide +kernel
theorem dX12_one_33 : decode cX12_one 33 = .ok (.invokevirtual 98, 3) := by decide +kernel
theorem dX12_one_36 : decode cX12_one 36 = .ok (.ior, 1) := by decide +kernel
theorem dX12_one_37 : decode cX12_one 37 = .ok (.istore_n 1, 1) := by decide +kernel
theorem dX12_one_38 : decode cX12_one 38 = .ok (.iinc 3 1, 3) := by decide +kernel
theorem dX12_one_41 : decode cX12_one 41 = .ok (.goto (-35), 3) := by decide +kernel
theorem dX12_one_44 : decode cX12_one 44 = .ok (.iload_n 1, 1) := by decide +kernel
theorem dX12_one_45 : decode cX12_one 45 = .ok (.iload_n 2, 1) := by decide +kernel
theorem dX12_one_46 : decode cX12_one 46 = .ok (.iconst (-1), 1) := by decide +kernel
theorem dX12_one_47 : decode cX12_one 47 = .ok (.ixor, 1) := by decide +kernel
theorem dX12_one_48 : decode cX12_one 48 = .ok (.iand, 1) := by decide +kernel
theorem dX12_one_49 : decode cX12_one 49 = .ok (.ireturn, 1) := by decide +kernel
