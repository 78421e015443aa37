theorem dX12_neededNow_0 : decode cX12_neededNow 0 = .ok (.aload_n 0, 1) := by decide +kernel
theorem dX12_neededNow_1 : decode cX12_neededNow 1 = .ok (.getfield 9, 3) := by decide +kernel
theorem dX12_neededNow_4 : decode cX12_neededNow 4 = .ok (.iconst 3, 1) := by decide +kernel
theorem dX12_neededNow_5 : decode cX12_neededNow 5 = .ok (.iaload, 1) := by decide +kernel
theorem dX12_neededNow_6 : decode cX12_neededNow 6 = .ok (.aload_n 0, 1) := by decide +kernel
theorem dX12_neededNow_7 : decode cX12_neededNow 7 = .ok (.getfield 9, 3) := by decide +kernel
theorem dX12_neededNow_10 : decode cX12_neededNow 10 = .ok (.iconst 1, 1) := by decide +kernel
theorem dX12_neededNow_11 : decode cX12_neededNow 11 = .ok (.iaload, 1) := by decide +kernel
theorem dX12_neededNow_12 : decode cX12_neededNow 12 = .ok (.invokestatic 232, 3) := by decide +kernel
theorem dX12_neededNow_15 : decode cX12_neededNow 15 = .ok (.ireturn, 1) := by decide +kernel
theorem dX12_begin_0 : decode cX12_begin 0 = .ok (.aload_n 0, 1) := by decide +kernel
theorem dX12_begin_1 : decode cX12_begin 1 = .ok (.getfield 9, 3) := by decide +kernel
theorem dX12_begin_4 : decode cX12_begin 4 = .ok (.iconst 1, 1) := by decide +kernel
theorem dX12_begin_5 : decode cX12_begin 5 = .ok (.iaload, 1) := by decide +kernel
theorem dX12_begin_6 : decode cX12_begin 6 = .ok (.ifCond .ne 6, 3) := by decide +kernel
theorem dX12_begin_9 : decode cX12_begin 9 = .ok (.bipush (-3), 2) := by decide +kernel
theorem dX12_begin_11 : decode cX12_begin 11 = .ok (.ireturn, 1) := by decide +kernel
theorem dX12_begin_12 : decode cX12_begin 12 = .ok (.aload_n 0, 1) := by decide +kernel
theorem dX12_begin_13 : decode cX12_begin 13 = .ok (.aload_n 0, 1) := by decide +kernel
theorem dX12_begin_14 : decode cX12_begin 14 = .ok (.getfield 22, 3) := by decide +kernel
theorem dX12_begin_17 : decode cX12_begin 17 = .ok (.invokevirtual 235, 3) := by decide +kernel
theorem dX12_begin_20 : decode cX12_begin 20 = .ok (.aload_n 0, 1) := by decide +kernel
theorem dX12_begin_21 : decode cX12_begin 21 = .ok (.aload_n 0, 1) := by decide +kernel
theorem dX12_begin_22 : decode cX12_begin 22 = .ok (.getfield 22, 3) := by decide +kernel
theorem dX12_begin_25 : decode cX12_begin 25 = .ok (.aload_n 0, 1) := by decide +kernel
theorem dX12_begin_26 : decode cX12_begin 26 = .ok (.aload_n 0, 1) := by decide +kernel
theorem dX12_begin_27 : decode cX12_begin 27 = .ok (.getfield 9, 3) := by decide +kernel
theorem dX12_begin_30 : decode cX12_begin 30 = .ok (.iconst 1, 1) := by decide +kernel
theorem dX12_begin_31 : decode cX12_begin 31 = .ok (.iaload, 1) := by decide +kernel
theorem dX12_begin_32 : decode cX12_begin 32 = .ok (.invokevirtual 238, 3) := by decide +kernel
theorem dX12_begin_35 : decode cX12_begin 35 = .ok (.aload_n 0, 1) := by decide +kernel
theorem dX12_begin_36 : decode cX12_begin 36 = .ok (.getfield 9, 3) := by decide +kernel
theorem dX12_begin_39 : decode cX12_begin 39 = .ok (.iconst 5, 1) := by decide +kernel
theorem dX12_begin_40 : decode cX12_begin 40 = .ok (.iaload, 1) := by decide +kernel
theorem dX12_begin_41 : decode cX12_begin 41 = .ok (.iconst 1, 1) := by decide +kernel
theorem dX12_begin_42 : decode cX12_begin 42 = .ok (.if_icmp .ne 7, 3) := by decide +kernel
theorem dX12_begin_45 : decode cX12_begin 45 = .ok (.iconst 1, 1) := by decide +kernel
theorem dX12_begin_46 : decode cX12_begin 46 = .ok (.goto 4, 3) := by decide +kernel
theorem dX12_begin_49 : decode cX12_begin 49 = .ok (.iconst 0, 1) := by decide +kernel
theorem dX12_begin_50 : decode cX12_begin 50 = .ok (.invokevirtual 241, 3) := by decide +kernel
theorem dX12_begin_53 : decode cX12_begin 53 = .ok (.aload_n 0, 1) := by decide +kernel
theorem dX12_begin_54 : decode cX12_begin 54 = .ok (.getfield 22, 3) := by decide +kernel
theorem dX12_begin_57 : decode cX12_begin 57 = .ok (.iconst 1, 1) := by decide +kernel
theorem dX12_begin_58 : decode cX12_begin 58 = .ok (.iaload, 1) := by decide +kernel
theorem dX12_begin_59 : decode cX12_begin 59 = .ok (.ireturn, 1) := by decide +kernel
theorem dX12_go_0 : decode cX12_go 0 = .ok (.iload_n 1, 1) := by decide +kernel
theorem dX12_go_1 : decode cX12_go 1 = .ok (.i2l, 1) := by decide +kernel
theorem dX12_go_2 : decode cX12_go 2 = .ok (.lconst 1, 1) := by decide +kernel
theorem dX12_go_3 : decode cX12_go 3 = .ok (.ldc2_w 245, 3) := by decide +kernel
theorem dX12_go_6 : decode cX12_go 6 = .ok (.invokestatic 62, 3) := by decide +kernel
theorem dX12_go_9 : decode cX12_go 9 = .ok (.ifCond .ne 5, 3) := by decide +kernel
theorem dX12_go_12 : decode cX12_go 12 = .ok (.iconst (-1), 1) := by decide +kernel
theorem dX12_go_13 : decode cX12_go 13 = .ok (.ireturn, 1) := by decide +kernel
theorem dX12_go_14 : decode cX12_go 14 = .ok (.aload_n 0, 1) := by decide +kernel
theorem dX12_go_15 : decode cX12_go 15 = .ok (.invokevirtual 101, 3) := by decide +kernel
theorem dX12_go_18 : decode cX12_go 18 = .ok (.ifCond .ne 6, 3) := by decide +kernel
theorem dX12_go_21 : decode cX12_go 21 = .ok (.bipush (-3), 2) := by decide +kernel
theorem dX12_go_23 : decode cX12_go 23 = .ok (.ireturn, 1) := by decide +kernel
theorem dX12_go_24 : decode cX12_go 24 = .ok (.iconst 0, 1) := by decide +kernel
theorem dX12_go_25 : decode cX12_go 25 = .ok (.istore_n 2, 1) := by decide +kernel
theorem dX12_go_26 : decode cX12_go 26 = .ok (.iload_n 2, 1) := by decide +kernel
theorem dX12_go_27 : decode cX12_go 27 = .ok (.iload_n 1, 1) := by decide +kernel
theorem dX12_go_28 : decode cX12_go 28 = .ok (.if_icmp .ge 34, 3) := by decide +kernel
theorem dX12_go_31 : decode cX12_go 31 = .ok (.aload_n 0, 1) := by decide +kernel
theorem dX12_go_32 : decode cX12_go 32 = .ok (.aload_n 0, 1) := by decide +kernel
theorem dX12_go_33 : decode cX12_go 33 = .ok (.getfield 22, 3) := by decide +kernel
theorem dX12_go_36 : decode cX12_go 36 = .ok (.aload_n 0, 1) := by decide +kernel
theorem dX12_go_37 : decode cX12_go 37 = .ok (.invokevirtual 247, 3) := by decide +kernel
theorem dX12_go_40 : decode cX12_go 40 = .ok (.invokevirtual 250, 3) := by decide +kernel
theorem dX12_go_43 : decode cX12_go 43 = .ok (.bipush (-4), 2) := by decide +kernel
theorem dX12_go_45 : decode cX12_go 45 = .ok (.if_icmp .ne 17, 3) := by decide +kernel
theorem dX12_go_48 : decode cX12_go 48 = .ok (.aload_n 0, 1) := by decide +kernel
theorem dX12_go_49 : decode cX12_go 49 = .ok (.aload_n 0, 1) := by decide +kernel
theorem dX12_go_50 : decode cX12_go 50 = .ok (.getfield 22, 3) := by decide +kernel
theorem dX12_go_53 : decode cX12_go 53 = .ok (.invokevirtual 253, 3) := by decide +kernel
theorem dX12_go_56 : decode cX12_go 56 = .ok (.iinc 2 1, 3) := by decide +kernel
theorem dX12_go_59 : decode cX12_go 59 = .ok (.goto (-33), 3) := by decide +kernel
theorem dX12_go_62 : decode cX12_go 62 = .ok (.aload_n 0, 1) := by decide +kernel
theorem dX12_go_63 : decode cX12_go 63 = .ok (.aload_n 0, 1) := by decide +kernel
theorem dX12_go_64 : decode cX12_go 64 = .ok (.getfield 22, 3) := by decide +kernel
theorem dX12_go_67 : decode cX12_go 67 = .ok (.aload_n 0, 1) := by decide +kernel
theorem dX12_go_68 : decode cX12_go 68 = .ok (.invokevirtual 247, 3) := by decide +kernel
theorem dX12_go_71 : decode cX12_go 71 = .ok (.invokevirtual 250, 3) := by decide +kernel
theorem dX12_go_74 : decode cX12_go 74 = .ok (.ireturn, 1) := by decide +kernel
theorem dX12_talk_0 : decode cX12_talk 0 = .ok (.iload_n 1, 1) := by decide +kernel
theorem dX12_talk_1 : decode cX12_talk 1 = .ok (.i2l, 1) := by decide +kernel
theorem dX12_talk_2 : decode cX12_talk 2 = .ok (.lconst 0, 1) := by decide +kernel
theorem dX12_talk_3 : decode cX12_talk 3 = .ok (.ldc2_w 217, 3) := by decide +kernel
theorem dX12_talk_6 : decode cX12_talk 6 = .ok (.invokestatic 62, 3) := by decide +kernel
theorem dX12_talk_9 : decode cX12_talk 9 = .ok (.ifCond .ne 5, 3) := by decide +kernel
theorem dX12_talk_12 : decode cX12_talk 12 = .ok (.iconst (-1), 1) := by decide +kernel
theorem dX12_talk_13 : decode cX12_talk 13 = .ok (.ireturn, 1) := by decide +kernel
theorem dX12_talk_14 : decode cX12_talk 14 = .ok (.aload_n 0, 1) := by decide +kernel
theorem dX12_talk_15 : decode cX12_talk 15 = .ok (.invokevirtual 101, 3) := by decide +kernel
theorem dX12_talk_18 : decode cX12_talk 18 = .ok (.ifCond .ne 6, 3) := by decide +kernel
theorem dX12_talk_21 : decode cX12_talk 21 = .ok (.bipush (-3), 2) := by decide +kernel
theorem dX12_talk_23 : decode cX12_talk 23 = .ok (.ireturn, 1) := by decide +kernel
theorem dX12_talk_24 : decode cX12_talk 24 = .ok (.iload_n 1, 1) := by decide +kernel
theorem dX12_talk_25 : decode cX12_talk 25 = .ok (.iconst 4, 1) := by decide +kernel
theorem dX12_talk_26 : decode cX12_talk 26 = .ok (.if_icmp .ge 12, 3) := by decide +kernel
theorem dX12_talk_29 : decode cX12_talk 29 = .ok (.aload_n 0, 1) := by decide +kernel
theorem dX12_talk_30 : decode cX12_talk 30 = .ok (.getfield 22, 3) := by decide +kernel
theorem dX12_talk_33 : decode cX12_talk 33 = .ok (.iload_n 1, 1) := by decide +kernel
theorem dX12_talk_34 : decode cX12_talk 34 = .ok (.iaload, 1) := by decide +kernel
theorem dX12_talk_35 : decode cX12_talk 35 = .ok (.goto 31, 3) := by decide +kernel
theorem dX12_talk_38 : decode cX12_talk 38 = .ok (.iload_n 1, 1) := by decide +kernel
theorem dX12_talk_39 : decode cX12_talk 39 = .ok (.iconst 4, 1) := by decide +kernel
theorem dX12_talk_40 : decode cX12_talk 40 = .ok (.if_icmp .ne 14, 3) := by decide +kernel
theorem dX12_talk_43 : decode cX12_talk 43 = .ok (.aload_n 0, 1) := by decide +kernel
theorem dX12_talk_44 : decode cX12_talk 44 = .ok (.aload_n 0, 1) := by decide +kernel
theorem dX12_talk_45 : decode cX12_talk 45 = .ok (.getfield 22, 3) := by decide +kernel
theorem dX12_talk_48 : decode cX12_talk 48 = .ok (.invokevirtual 208, 3) := by decide +kernel
theorem dX12_talk_51 : decode cX12_talk 51 = .ok (.goto 15, 3) := by decide +kernel
theorem dX12_talk_54 : decode cX12_talk 54 = .ok (.aload_n 0, 1) := by decide +kernel
theorem dX12_talk_55 : decode cX12_talk 55 = .ok (.aload_n 0, 1) := by decide +kernel
theorem dX12_talk_56 : decode cX12_talk 56 = .ok (.getfield 22, 3) := by decide +kernel
theorem dX12_talk_59 : decode cX12_talk 59 = .ok (.aload_n 0, 1) := by decide +kernel
theorem dX12_talk_60 : decode cX12_talk 60 = .ok (.invokevirtual 247, 3) := by decide +kernel
theorem dX12_talk_63 : decode cX12_talk 63 = .ok (.invokevirtual 250, 3) := by decide +kernel
theorem dX12_talk_66 : decode cX12_talk 66 = .ok (.ireturn, 1) := by decide +kernel
theorem dX12_slipsOf_0 : decode cX12_slipsOf 0 = .ok (.iconst 0, 1) := by decide +kernel
theorem dX12_slipsOf_1 : decode cX12_slipsOf 1 = .ok (.istore_n 2, 1) := by decide +kernel
theorem dX12_slipsOf_2 : decode cX12_slipsOf 2 = .ok (.iconst 0, 1) := by decide +kernel
theorem dX12_slipsOf_3 : decode cX12_slipsOf 3 = .ok (.istore_n 3, 1) := by decide +kernel
theorem dX12_slipsOf_4 : decode cX12_slipsOf 4 = .ok (.iload_n 3, 1) := by decide +kernel
theorem dX12_slipsOf_5 : decode cX12_slipsOf 5 = .ok (.aload_n 1, 1) := by decide +kernel
theorem dX12_slipsOf_6 : decode cX12_slipsOf 6 = .ok (.iconst 5, 1) := by decide +kernel
theorem dX12_slipsOf_7 : decode cX12_slipsOf 7 = .ok (.iaload, 1) := by decide +kernel
theorem dX12_slipsOf_8 : decode cX12_slipsOf 8 = .ok (.if_icmp .ge 20, 3) := by decide +kernel
theorem dX12_slipsOf_11 : decode cX12_slipsOf 11 = .ok (.iload_n 2, 1) := by decide +kernel
theorem dX12_slipsOf_12 : decode cX12_slipsOf 12 = .ok (.aload_n 1, 1) := by decide +kernel
theorem dX12_slipsOf_13 : decode cX12_slipsOf 13 = .ok (.bipush 43, 2) := by decide +kernel
theorem dX12_slipsOf_15 : decode cX12_slipsOf 15 = .ok (.iload_n 3, 1) := by decide +kernel
theorem dX12_slipsOf_16 : decode cX12_slipsOf 16 = .ok (.iadd, 1) := by decide +kernel
theorem dX12_slipsOf_17 : decode cX12_slipsOf 17 = .ok (.iaload, 1) := by decide +kernel
theorem dX12_slipsOf_18 : decode cX12_slipsOf 18 = .ok (.iload_n 3, 1) := by decide +kernel
theorem dX12_slipsOf_19 : decode cX12_slipsOf 19 = .ok (.ishl, 1) := by decide +kernel
theorem dX12_slipsOf_20 : decode cX12_slipsOf 20 = .ok (.ior, 1) := by decide +kernel
theorem dX12_slipsOf_21 : decode cX12_slipsOf 21 = .ok (.istore_n 2, 1) := by decide +kernel
theorem dX12_slipsOf_22 : decode cX12_slipsOf 22 = .ok (.iinc 3 1, 3) := by decide +kernel
theorem dX12_slipsOf_25 : decode cX12_slipsOf 25 = .ok (.goto (-21), 3) := by decide +kernel
theorem dX12_slipsOf_28 : decode cX12_slipsOf 28 = .ok (.iload_n 2, 1) := by decide +kernel
theorem dX12_slipsOf_29 : decode cX12_slipsOf 29 = .ok (.ireturn, 1) := by decide +kernel
theorem dX12_marks_0 : decode cX12_marks 0 = .ok (.aload_n 0, 1) := by decide +kernel
theorem dX12_marks_1 : decode cX12_marks 1 = .ok (.aload_n 0, 1) := by decide +kernel
theorem dX12_marks_2 : decode cX12_marks 2 = .ok (.getfield 25, 3) := by decide +kernel
theorem dX12_marks_5 : decode cX12_marks 5 = .ok (.invokevirtual 208, 3) := by decide +kernel
theorem dX12_marks_8 : decode cX12_marks 8 = .ok (.istore_n 2, 1) := by decide +kernel
theorem dX12_marks_9 : decode cX12_marks 9 = .ok (.iconst 0, 1) := by decide +kernel
theorem dX12_marks_10 : decode cX12_marks 10 = .ok (.istore_n 3, 1) := by decide +kernel
theorem dX12_marks_11 : decode cX12_marks 11 = .ok (.iload_n 3, 1) := by decide +kernel
theorem dX12_marks_12 : decode cX12_marks 12 = .ok (.aload_n 0, 1) := by decide +kernel
theorem dX12_marks_13 : decode cX12_marks 13 = .ok (.getfield 9, 3) := by decide +kernel
theorem dX12_marks_16 : decode cX12_marks 16 = .ok (.iconst 0, 1) := by decide +kernel
theorem dX12_marks_17 : decode cX12_marks 17 = .ok (.iaload, 1) := by decide +kernel
theorem dX12_marks_18 : decode cX12_marks 18 = .ok (.if_icmp .ge 34, 3) := by decide +kernel
theorem dX12_marks_21 : decode cX12_marks 21 = .ok (.iload_n 2, 1) := by decide +kernel
theorem dX12_marks_22 : decode cX12_marks 22 = .ok (.iload_n 3, 1) := by decide +kernel
theorem dX12_marks_23 : decode cX12_marks 23 = .ok (.ishr, 1) := by decide +kernel
theorem dX12_marks_24 : decode cX12_marks 24 = .ok (.iconst 1, 1) := by decide +kernel
theorem dX12_marks_25 : decode cX12_marks 25 = .ok (.iand, 1) := by decide +kernel
theorem dX12_marks_26 : decode cX12_marks 26 = .ok (.iconst 1, 1) := by decide +kernel
theorem dX12_marks_27 : decode cX12_marks 27 = .ok (.if_icmp .ne 19, 3) := by decide +kernel
theorem dX12_marks_30 : decode cX12_marks 30 = .ok (.aload_n 0, 1) := by decide +kernel
theorem dX12_marks_31 : decode cX12_marks 31 = .ok (.getfield 55, 3) := by decide +kernel
theorem dX12_marks_34 : decode cX12_marks 34 = .ok (.iload_n 3, 1) := by decide +kernel
theorem dX12_marks_35 : decode cX12_marks 35 = .ok (.iaload, 1) := by decide +kernel
theorem dX12_marks_36 : decode cX12_marks 36 = .ok (.ifCond .ge 10, 3) := by decide +kernel
theorem dX12_marks_39 : decode cX12_marks 39 = .ok (.aload_n 0, 1) := by decide +kernel
theorem dX12_marks_40 : decode cX12_marks 40 = .ok (.getfield 55, 3) := by decide +kernel
theorem dX12_marks_43 : decode cX12_marks 43 = .ok (.iload_n 3, 1) := by decide +kernel
theorem dX12_marks_44 : decode cX12_marks 44 = .ok (.iload_n 1, 1) := by decide +kernel
theorem dX12_marks_45 : decode cX12_marks 45 = .ok (.iastore, 1) := by decide +kernel
theorem dX12_marks_46 : decode cX12_marks 46 = .ok (.iinc 3 1, 3) := by decide +kernel
theorem dX12_marks_49 : decode cX12_marks 49 = .ok (.goto (-38), 3) := by decide +kernel
theorem dX12_marks_52 : decode cX12_marks 52 = .ok (.return_, 1) := by decide +kernel
theorem dX12_runs_0 : decode cX12_runs 0 = .ok (.aload_n 0, 1) := by decide +kernel
theorem dX12_runs_1 : decode cX12_runs 1 = .ok (.aload_n 0, 1) := by decide +kernel
theorem dX12_runs_2 : decode cX12_runs 2 = .ok (.getfield 25, 3) := by decide +kernel
theorem dX12_runs_5 : decode cX12_runs 5 = .ok (.iload_n 1, 1) := by decide +kernel
theorem dX12_runs_6 : decode cX12_runs 6 = .ok (.iload_n 3, 1) := by decide +kernel
theorem dX12_runs_7 : decode cX12_runs 7 = .ok (.invokevirtual 241, 3) := by decide +kernel
theorem dX12_runs_10 : decode cX12_runs 10 = .ok (.aload_n 0, 1) := by decide +kernel
theorem dX12_runs_11 : decode cX12_runs 11 = .ok (.aload_n 0, 1) := by decide +kernel
theorem dX12_runs_12 : decode cX12_runs 12 = .ok (.getfield 25, 3) := by decide +kernel
theorem dX12_runs_15 : decode cX12_runs 15 = .ok (.iconst 1, 1) := by decide +kernel
theorem dX12_runs_16 : decode cX12_runs 16 = .ok (.iaload, 1) := by decide +kernel
theorem dX12_runs_17 : decode cX12_runs 17 = .ok (.putfield 256, 3) := by decide +kernel
theorem dX12_runs_20 : decode cX12_runs 20 = .ok (.aload_n 0, 1) := by decide +kernel
theorem dX12_runs_21 : decode cX12_runs 21 = .ok (.aload_n 0, 1) := by decide +kernel
theorem dX12_runs_22 : decode cX12_runs 22 = .ok (.aload_n 0, 1) := by decide +kernel
theorem dX12_runs_23 : decode cX12_runs 23 = .ok (.getfield 25, 3) := by decide +kernel
theorem dX12_runs_26 : decode cX12_runs 26 = .ok (.invokevirtual 259, 3) := by decide +kernel
theorem dX12_runs_29 : decode cX12_runs 29 = .ok (.putfield 262, 3) := by decide +kernel
theorem dX12_runs_32 : decode cX12_runs 32 = .ok (.iconst 0, 1) := by decide +kernel
theorem dX12_runs_33 : decode cX12_runs 33 = .ok (.istore 4, 2) := by decide +kernel
theorem dX12_runs_35 : decode cX12_runs 35 = .ok (.iload 4, 2) := by decide +kernel
theorem dX12_runs_37 : decode cX12_runs 37 = .ok (.bipush 12, 2) := by decide +kernel
theorem dX12_runs_39 : decode cX12_runs 39 = .ok (.if_icmp .ge 35, 3) := by decide +kernel
theorem dX12_runs_42 : decode cX12_runs 42 = .ok (.aload_n 0, 1) := by decide +kernel
theorem dX12_runs_43 : decode cX12_runs 43 = .ok (.getfield 52, 3) := by decide +kernel
theorem dX12_runs_46 : decode cX12_runs 46 = .ok (.iload 4, 2) := by decide +kernel
theorem dX12_runs_48 : decode cX12_runs 48 = .ok (.aload_n 0, 1) := by decide +kernel
theorem dX12_runs_49 : decode cX12_runs 49 = .ok (.getfield 25, 3) := by decide +kernel
theorem dX12_runs_52 : decode cX12_runs 52 = .ok (.bipush 31, 2) := by decide +kernel
theorem dX12_runs_54 : decode cX12_runs 54 = .ok (.iload 4, 2) := by decide +kernel
theorem dX12_runs_56 : decode cX12_runs 56 = .ok (.iadd, 1) := by decide +kernel
theorem dX12_runs_57 : decode cX12_runs 57 = .ok (.iaload, 1) := by decide +kernel
theorem dX12_runs_58 : decode cX12_runs 58 = .ok (.iastore, 1) := by decide +kernel
theorem dX12_runs_59 : decode cX12_runs 59 = .ok (.aload_n 0, 1) := by decide +kernel
theorem dX12_runs_60 : decode cX12_runs 60 = .ok (.getfield 55, 3) := by decide +kernel
theorem dX12_runs_63 : decode cX12_runs 63 = .ok (.iload 4, 2) := by decide +kernel
theorem dX12_runs_65 : decode cX12_runs 65 = .ok (.bipush (-4), 2) := by decide +kernel
theorem dX12_runs_67 : decode cX12_runs 67 = .ok (.iastore, 1) := by decide +kernel
theorem dX12_runs_68 : decode cX12_runs 68 = .ok (.iinc 4 1, 3) := by decide +kernel
theorem dX12_runs_71 : decode cX12_runs 71 = .ok (.goto (-36), 3) := by decide +kernel
theorem dX12_runs_74 : decode cX12_runs 74 = .ok (.aload_n 0, 1) := by decide +kernel
theorem dX12_runs_75 : decode cX12_runs 75 = .ok (.iconst 0, 1) := by decide +kernel
theorem dX12_runs_76 : decode cX12_runs 76 = .ok (.invokevirtual 265, 3) := by decide +kernel
theorem dX12_runs_79 : decode cX12_runs 79 = .ok (.aload_n 0, 1) := by decide +kernel
theorem dX12_runs_80 : decode cX12_runs 80 = .ok (.aload_n 0, 1) := by decide +kernel
theorem dX12_runs_81 : decode cX12_runs 81 = .ok (.getfield 25, 3) := by decide +kernel
theorem dX12_runs_84 : decode cX12_runs 84 = .ok (.iload_n 2, 1) := by decide +kernel
theorem dX12_runs_85 : decode cX12_runs 85 = .ok (.invokevirtual 250, 3) := by decide +kernel
theorem dX12_runs_88 : decode cX12_runs 88 = .ok (.istore 4, 2) := by decide +kernel
theorem dX12_runs_90 : decode cX12_runs 90 = .ok (.iload 4, 2) := by decide +kernel
theorem dX12_runs_92 : decode cX12_runs 92 = .ok (.bipush (-4), 2) := by decide +kernel
theorem dX12_runs_94 : decode cX12_runs 94 = .ok (.if_icmp .ne 39, 3) := by decide +kernel
theorem dX12_runs_97 : decode cX12_runs 97 = .ok (.aload_n 0, 1) := by decide +kernel
theorem dX12_runs_98 : decode cX12_runs 98 = .ok (.getfield 25, 3) := by decide +kernel
theorem dX12_runs_101 : decode cX12_runs 101 = .ok (.iconst 0, 1) := by decide +kernel
theorem dX12_runs_102 : decode cX12_runs 102 = .ok (.iaload, 1) := by decide +kernel
theorem dX12_runs_103 : decode cX12_runs 103 = .ok (.istore 5, 2) := by decide +kernel
theorem dX12_runs_105 : decode cX12_runs 105 = .ok (.aload_n 0, 1) := by decide +kernel
theorem dX12_runs_106 : decode cX12_runs 106 = .ok (.aload_n 0, 1) := by decide +kernel
theorem dX12_runs_107 : decode cX12_runs 107 = .ok (.getfield 25, 3) := by decide +kernel
theorem dX12_runs_110 : decode cX12_runs 110 = .ok (.invokevirtual 253, 3) := by decide +kernel
theorem dX12_runs_113 : decode cX12_runs 113 = .ok (.aload_n 0, 1) := by decide +kernel
theorem dX12_runs_114 : decode cX12_runs 114 = .ok (.iload 5, 2) := by decide +kernel
theorem dX12_runs_116 : decode cX12_runs 116 = .ok (.invokevirtual 265, 3) := by decide +kernel
theorem dX12_runs_119 : decode cX12_runs 119 = .ok (.aload_n 0, 1) := by decide +kernel
theorem dX12_runs_120 : decode cX12_runs 120 = .ok (.aload_n 0, 1) := by decide +kernel
theorem dX12_runs_121 : decode cX12_runs 121 = .ok (.getfield 25, 3) := by decide +kernel
theorem dX12_runs_124 : decode cX12_runs 124 = .ok (.iload_n 2, 1) := by decide +kernel
theorem dX12_runs_125 : decode cX12_runs 125 = .ok (.invokevirtual 250, 3) := by decide +kernel
theorem dX12_runs_128 : decode cX12_runs 128 = .ok (.istore 4, 2) := by decide +kernel
theorem dX12_runs_130 : decode cX12_runs 130 = .ok (.goto (-40), 3) := by decide +kernel
theorem dX12_runs_133 : decode cX12_runs 133 = .ok (.iload 4, 2) := by decide +kernel
theorem dX12_runs_135 : decode cX12_runs 135 = .ok (.ireturn, 1) := by decide +kernel
