theorem dX12_tellsThing_0 : decode cX12_tellsThing 0 = .ok (.aload_n 1, 1) := by decide +kernel
theorem dX12_tellsThing_1 : decode cX12_tellsThing 1 = .ok (.bipush 19, 2) := by decide +kernel
theorem dX12_tellsThing_3 : decode cX12_tellsThing 3 = .ok (.iload_n 2, 1) := by decide +kernel
theorem dX12_tellsThing_4 : decode cX12_tellsThing 4 = .ok (.iadd, 1) := by decide +kernel
theorem dX12_tellsThing_5 : decode cX12_tellsThing 5 = .ok (.iaload, 1) := by decide +kernel
theorem dX12_tellsThing_6 : decode cX12_tellsThing 6 = .ok (.aload_n 0, 1) := by decide +kernel
theorem dX12_tellsThing_7 : decode cX12_tellsThing 7 = .ok (.aload_n 1, 1) := by decide +kernel
theorem dX12_tellsThing_8 : decode cX12_tellsThing 8 = .ok (.invokevirtual 208, 3) := by decide +kernel
theorem dX12_tellsThing_11 : decode cX12_tellsThing 11 = .ok (.iconst (-1), 1) := by decide +kernel
theorem dX12_tellsThing_12 : decode cX12_tellsThing 12 = .ok (.ixor, 1) := by decide +kernel
theorem dX12_tellsThing_13 : decode cX12_tellsThing 13 = .ok (.iand, 1) := by decide +kernel
theorem dX12_tellsThing_14 : decode cX12_tellsThing 14 = .ok (.istore_n 3, 1) := by decide +kernel
theorem dX12_tellsThing_15 : decode cX12_tellsThing 15 = .ok (.bipush (-4), 2) := by decide +kernel
theorem dX12_tellsThing_17 : decode cX12_tellsThing 17 = .ok (.istore 4, 2) := by decide +kernel
theorem dX12_tellsThing_19 : decode cX12_tellsThing 19 = .ok (.iconst 0, 1) := by decide +kernel
theorem dX12_tellsThing_20 : decode cX12_tellsThing 20 = .ok (.istore 5, 2) := by decide +kernel
theorem dX12_tellsThing_22 : decode cX12_tellsThing 22 = .ok (.iload 5, 2) := by decide +kernel
theorem dX12_tellsThing_24 : decode cX12_tellsThing 24 = .ok (.aload_n 0, 1) := by decide +kernel
theorem dX12_tellsThing_25 : decode cX12_tellsThing 25 = .ok (.getfield 9, 3) := by decide +kernel
theorem dX12_tellsThing_28 : decode cX12_tellsThing 28 = .ok (.iconst 0, 1) := by decide +kernel
theorem dX12_tellsThing_29 : decode cX12_tellsThing 29 = .ok (.iaload, 1) := by decide +kernel
theorem dX12_tellsThing_30 : decode cX12_tellsThing 30 = .ok (.if_icmp .ge 57, 3) := by decide +kernel
theorem dX12_tellsThing_33 : decode cX12_tellsThing 33 = .ok (.iload_n 3, 1) := by decide +kernel
theorem dX12_tellsThing_34 : decode cX12_tellsThing 34 = .ok (.iload 5, 2) := by decide +kernel
theorem dX12_tellsThing_36 : decode cX12_tellsThing 36 = .ok (.ishr, 1) := by decide +kernel
theorem dX12_tellsThing_37 : decode cX12_tellsThing 37 = .ok (.iconst 1, 1) := by decide +kernel
theorem dX12_tellsThing_38 : decode cX12_tellsThing 38 = .ok (.iand, 1) := by decide +kernel
theorem dX12_tellsThing_39 : decode cX12_tellsThing 39 = .ok (.iconst 1, 1) := by decide +kernel
theorem dX12_tellsThing_40 : decode cX12_tellsThing 40 = .ok (.if_icmp .ne 41, 3) := by decide +kernel
theorem dX12_tellsThing_43 : decode cX12_tellsThing 43 = .ok (.iload 4, 2) := by decide +kernel
theorem dX12_tellsThing_45 : decode cX12_tellsThing 45 = .ok (.ifCond .lt 32, 3) := by decide +kernel
theorem dX12_tellsThing_48 : decode cX12_tellsThing 48 = .ok (.aload_n 0, 1) := by decide +kernel
theorem dX12_tellsThing_49 : decode cX12_tellsThing 49 = .ok (.getfield 9, 3) := by decide +kernel
theorem dX12_tellsThing_52 : decode cX12_tellsThing 52 = .ok (.bipush 7, 2) := by decide +kernel
theorem dX12_tellsThing_54 : decode cX12_tellsThing 54 = .ok (.iload 5, 2) := by decide +kernel
theorem dX12_tellsThing_56 : decode cX12_tellsThing 56 = .ok (.iadd, 1) := by decide +kernel
theorem dX12_tellsThing_57 : decode cX12_tellsThing 57 = .ok (.iaload, 1) := by decide +kernel
theorem dX12_tellsThing_58 : decode cX12_tellsThing 58 = .ok (.invokestatic 212, 3) := by decide +kernel
theorem dX12_tellsThing_61 : decode cX12_tellsThing 61 = .ok (.aload_n 0, 1) := by decide +kernel
theorem dX12_tellsThing_62 : decode cX12_tellsThing 62 = .ok (.getfield 9, 3) := by decide +kernel
theorem dX12_tellsThing_65 : decode cX12_tellsThing 65 = .ok (.bipush 7, 2) := by decide +kernel
theorem dX12_tellsThing_67 : decode cX12_tellsThing 67 = .ok (.iload 4, 2) := by decide +kernel
theorem dX12_tellsThing_69 : decode cX12_tellsThing 69 = .ok (.iadd, 1) := by decide +kernel
theorem dX12_tellsThing_70 : decode cX12_tellsThing 70 = .ok (.iaload, 1) := by decide +kernel
theorem dX12_tellsThing_71 : decode cX12_tellsThing 71 = .ok (.invokestatic 212, 3) := by decide +kernel
theorem dX12_tellsThing_74 : decode cX12_tellsThing 74 = .ok (.if_icmp .le 7, 3) := by decide +kernel
theorem dX12_tellsThing_77 : decode cX12_tellsThing 77 = .ok (.iload 5, 2) := by decide +kernel
theorem dX12_tellsThing_79 : decode cX12_tellsThing 79 = .ok (.istore 4, 2) := by decide +kernel
theorem dX12_tellsThing_81 : decode cX12_tellsThing 81 = .ok (.iinc 5 1, 3) := by decide +kernel
theorem dX12_tellsThing_84 : decode cX12_tellsThing 84 = .ok (.goto (-62), 3) := by decide +kernel
theorem dX12_tellsThing_87 : decode cX12_tellsThing 87 = .ok (.iconst 0, 1) := by decide +kernel
theorem dX12_tellsThing_88 : decode cX12_tellsThing 88 = .ok (.istore 5, 2) := by decide +kernel
theorem dX12_tellsThing_90 : decode cX12_tellsThing 90 = .ok (.iload 5, 2) := by decide +kernel
theorem dX12_tellsThing_92 : decode cX12_tellsThing 92 = .ok (.aload_n 1, 1) := by decide +kernel
theorem dX12_tellsThing_93 : decode cX12_tellsThing 93 = .ok (.iconst 5, 1) := by decide +kernel
theorem dX12_tellsThing_94 : decode cX12_tellsThing 94 = .ok (.iaload, 1) := by decide +kernel
theorem dX12_tellsThing_95 : decode cX12_tellsThing 95 = .ok (.if_icmp .ge 28, 3) := by decide +kernel
theorem dX12_tellsThing_98 : decode cX12_tellsThing 98 = .ok (.iload 4, 2) := by decide +kernel
theorem dX12_tellsThing_100 : decode cX12_tellsThing 100 = .ok (.ifCond .lt 23, 3) := by decide +kernel
theorem dX12_tellsThing_103 : decode cX12_tellsThing 103 = .ok (.aload_n 1, 1) := by decide +kernel
theorem dX12_tellsThing_104 : decode cX12_tellsThing 104 = .ok (.bipush 19, 2) := by decide +kernel
theorem dX12_tellsThing_106 : decode cX12_tellsThing 106 = .ok (.iload 5, 2) := by decide +kernel
theorem dX12_tellsThing_108 : decode cX12_tellsThing 108 = .ok (.iadd, 1) := by decide +kernel
theorem dX12_tellsThing_109 : decode cX12_tellsThing 109 = .ok (.dup2, 1) := by decide +kernel
theorem dX12_tellsThing_110 : decode cX12_tellsThing 110 = .ok (.iaload, 1) := by decide +kernel
theorem dX12_tellsThing_111 : decode cX12_tellsThing 111 = .ok (.iconst 1, 1) := by decide +kernel
theorem dX12_tellsThing_112 : decode cX12_tellsThing 112 = .ok (.iload 4, 2) := by decide +kernel
theorem dX12_tellsThing_114 : decode cX12_tellsThing 114 = .ok (.ishl, 1) := by decide +kernel
theorem dX12_tellsThing_115 : decode cX12_tellsThing 115 = .ok (.ior, 1) := by decide +kernel
theorem dX12_tellsThing_116 : decode cX12_tellsThing 116 = .ok (.iastore, 1) := by decide +kernel
theorem dX12_tellsThing_117 : decode cX12_tellsThing 117 = .ok (.iinc 5 1, 3) := by decide +kernel
theorem dX12_tellsThing_120 : decode cX12_tellsThing 120 = .ok (.goto (-30), 3) := by decide +kernel
theorem dX12_tellsThing_123 : decode cX12_tellsThing 123 = .ok (.return_, 1) := by decide +kernel
theorem dX12_presses_0 : decode cX12_presses 0 = .ok (.aload_n 1, 1) := by decide +kernel
theorem dX12_presses_1 : decode cX12_presses 1 = .ok (.iconst 1, 1) := by decide +kernel
theorem dX12_presses_2 : decode cX12_presses 2 = .ok (.iaload, 1) := by decide +kernel
theorem dX12_presses_3 : decode cX12_presses 3 = .ok (.aload_n 1, 1) := by decide +kernel
theorem dX12_presses_4 : decode cX12_presses 4 = .ok (.iconst 2, 1) := by decide +kernel
theorem dX12_presses_5 : decode cX12_presses 5 = .ok (.iaload, 1) := by decide +kernel
theorem dX12_presses_6 : decode cX12_presses 6 = .ok (.isub, 1) := by decide +kernel
theorem dX12_presses_7 : decode cX12_presses 7 = .ok (.istore_n 2, 1) := by decide +kernel
theorem dX12_presses_8 : decode cX12_presses 8 = .ok (.iconst 0, 1) := by decide +kernel
theorem dX12_presses_9 : decode cX12_presses 9 = .ok (.istore_n 3, 1) := by decide +kernel
theorem dX12_presses_10 : decode cX12_presses 10 = .ok (.iload_n 3, 1) := by decide +kernel
theorem dX12_presses_11 : decode cX12_presses 11 = .ok (.aload_n 1, 1) := by decide +kernel
theorem dX12_presses_12 : decode cX12_presses 12 = .ok (.iconst 5, 1) := by decide +kernel
theorem dX12_presses_13 : decode cX12_presses 13 = .ok (.iaload, 1) := by decide +kernel
theorem dX12_presses_14 : decode cX12_presses 14 = .ok (.if_icmp .ge 88, 3) := by decide +kernel
theorem dX12_presses_17 : decode cX12_presses 17 = .ok (.iload_n 2, 1) := by decide +kernel
theorem dX12_presses_18 : decode cX12_presses 18 = .ok (.ifCond .le 20, 3) := by decide +kernel
theorem dX12_presses_21 : decode cX12_presses 21 = .ok (.aload_n 1, 1) := by decide +kernel
theorem dX12_presses_22 : decode cX12_presses 22 = .ok (.bipush 43, 2) := by decide +kernel
theorem dX12_presses_24 : decode cX12_presses 24 = .ok (.iload_n 3, 1) := by decide +kernel
theorem dX12_presses_25 : decode cX12_presses 25 = .ok (.iadd, 1) := by decide +kernel
theorem dX12_presses_26 : decode cX12_presses 26 = .ok (.iaload, 1) := by decide +kernel
theorem dX12_presses_27 : decode cX12_presses 27 = .ok (.ifCond .ne 7, 3) := by decide +kernel
theorem dX12_presses_30 : decode cX12_presses 30 = .ok (.iconst 1, 1) := by decide +kernel
theorem dX12_presses_31 : decode cX12_presses 31 = .ok (.goto 26, 3) := by decide +kernel
theorem dX12_presses_34 : decode cX12_presses 34 = .ok (.iconst 0, 1) := by decide +kernel
theorem dX12_presses_35 : decode cX12_presses 35 = .ok (.goto 22, 3) := by decide +kernel
theorem dX12_presses_38 : decode cX12_presses 38 = .ok (.iload_n 2, 1) := by decide +kernel
theorem dX12_presses_39 : decode cX12_presses 39 = .ok (.ifCond .ge 17, 3) := by decide +kernel
theorem dX12_presses_42 : decode cX12_presses 42 = .ok (.aload_n 1, 1) := by decide +kernel
theorem dX12_presses_43 : decode cX12_presses 43 = .ok (.bipush 43, 2) := by decide +kernel
theorem dX12_presses_45 : decode cX12_presses 45 = .ok (.iload_n 3, 1) := by decide +kernel
theorem dX12_presses_46 : decode cX12_presses 46 = .ok (.iadd, 1) := by decide +kernel
theorem dX12_presses_47 : decode cX12_presses 47 = .ok (.iaload, 1) := by decide +kernel
theorem dX12_presses_48 : decode cX12_presses 48 = .ok (.iconst 1, 1) := by decide +kernel
theorem dX12_presses_49 : decode cX12_presses 49 = .ok (.if_icmp .ne 7, 3) := by decide +kernel
theorem dX12_presses_52 : decode cX12_presses 52 = .ok (.iconst 1, 1) := by decide +kernel
theorem dX12_presses_53 : decode cX12_presses 53 = .ok (.goto 4, 3) := by decide +kernel
theorem dX12_presses_56 : decode cX12_presses 56 = .ok (.iconst 0, 1) := by decide +kernel
theorem dX12_presses_57 : decode cX12_presses 57 = .ok (.istore 4, 2) := by decide +kernel
theorem dX12_presses_59 : decode cX12_presses 59 = .ok (.iload 4, 2) := by decide +kernel
theorem dX12_presses_61 : decode cX12_presses 61 = .ok (.ifCond .eq 35, 3) := by decide +kernel
theorem dX12_presses_64 : decode cX12_presses 64 = .ok (.aload_n 1, 1) := by decide +kernel
theorem dX12_presses_65 : decode cX12_presses 65 = .ok (.bipush 31, 2) := by decide +kernel
theorem dX12_presses_67 : decode cX12_presses 67 = .ok (.iload_n 3, 1) := by decide +kernel
theorem dX12_presses_68 : decode cX12_presses 68 = .ok (.iadd, 1) := by decide +kernel
theorem dX12_presses_69 : decode cX12_presses 69 = .ok (.dup2, 1) := by decide +kernel
theorem dX12_presses_70 : decode cX12_presses 70 = .ok (.iaload, 1) := by decide +kernel
theorem dX12_presses_71 : decode cX12_presses 71 = .ok (.iconst 2, 1) := by decide +kernel
theorem dX12_presses_72 : decode cX12_presses 72 = .ok (.aload_n 0, 1) := by decide +kernel
theorem dX12_presses_73 : decode cX12_presses 73 = .ok (.aload_n 1, 1) := by decide +kernel
theorem dX12_presses_74 : decode cX12_presses 74 = .ok (.bipush 7, 2) := by decide +kernel
theorem dX12_presses_76 : decode cX12_presses 76 = .ok (.iload_n 3, 1) := by decide +kernel
theorem dX12_presses_77 : decode cX12_presses 77 = .ok (.iadd, 1) := by decide +kernel
theorem dX12_presses_78 : decode cX12_presses 78 = .ok (.iaload, 1) := by decide +kernel
theorem dX12_presses_79 : decode cX12_presses 79 = .ok (.iconst 1, 1) := by decide +kernel
theorem dX12_presses_80 : decode cX12_presses 80 = .ok (.invokevirtual 98, 3) := by decide +kernel
theorem dX12_presses_83 : decode cX12_presses 83 = .ok (.imul, 1) := by decide +kernel
theorem dX12_presses_84 : decode cX12_presses 84 = .ok (.iload_n 2, 1) := by decide +kernel
theorem dX12_presses_85 : decode cX12_presses 85 = .ok (.ifCond .le 7, 3) := by decide +kernel
theorem dX12_presses_88 : decode cX12_presses 88 = .ok (.iconst 1, 1) := by decide +kernel
theorem dX12_presses_89 : decode cX12_presses 89 = .ok (.goto 4, 3) := by decide +kernel
theorem dX12_presses_92 : decode cX12_presses 92 = .ok (.iconst (-1), 1) := by decide +kernel
theorem dX12_presses_93 : decode cX12_presses 93 = .ok (.imul, 1) := by decide +kernel
theorem dX12_presses_94 : decode cX12_presses 94 = .ok (.iadd, 1) := by decide +kernel
theorem dX12_presses_95 : decode cX12_presses 95 = .ok (.iastore, 1) := by decide +kernel
theorem dX12_presses_96 : decode cX12_presses 96 = .ok (.iinc 3 1, 3) := by decide +kernel
theorem dX12_presses_99 : decode cX12_presses 99 = .ok (.goto (-89), 3) := by decide +kernel
theorem dX12_presses_102 : decode cX12_presses 102 = .ok (.return_, 1) := by decide +kernel
theorem dX12_takesAll_0 : decode cX12_takesAll 0 = .ok (.aload_n 1, 1) := by decide +kernel
theorem dX12_takesAll_1 : decode cX12_takesAll 1 = .ok (.iconst 5, 1) := by decide +kernel
theorem dX12_takesAll_2 : decode cX12_takesAll 2 = .ok (.aload_n 0, 1) := by decide +kernel
theorem dX12_takesAll_3 : decode cX12_takesAll 3 = .ok (.getfield 9, 3) := by decide +kernel
theorem dX12_takesAll_6 : decode cX12_takesAll 6 = .ok (.iconst 1, 1) := by decide +kernel
theorem dX12_takesAll_7 : decode cX12_takesAll 7 = .ok (.iaload, 1) := by decide +kernel
theorem dX12_takesAll_8 : decode cX12_takesAll 8 = .ok (.iastore, 1) := by decide +kernel
theorem dX12_takesAll_9 : decode cX12_takesAll 9 = .ok (.iconst 0, 1) := by decide +kernel
theorem dX12_takesAll_10 : decode cX12_takesAll 10 = .ok (.istore_n 2, 1) := by decide +kernel
theorem dX12_takesAll_11 : decode cX12_takesAll 11 = .ok (.iload_n 2, 1) := by decide +kernel
theorem dX12_takesAll_12 : decode cX12_takesAll 12 = .ok (.aload_n 0, 1) := by decide +kernel
theorem dX12_takesAll_13 : decode cX12_takesAll 13 = .ok (.getfield 9, 3) := by decide +kernel
theorem dX12_takesAll_16 : decode cX12_takesAll 16 = .ok (.iconst 1, 1) := by decide +kernel
theorem dX12_takesAll_17 : decode cX12_takesAll 17 = .ok (.iaload, 1) := by decide +kernel
theorem dX12_takesAll_18 : decode cX12_takesAll 18 = .ok (.if_icmp .ge 29, 3) := by decide +kernel
theorem dX12_takesAll_21 : decode cX12_takesAll 21 = .ok (.aload_n 1, 1) := by decide +kernel
theorem dX12_takesAll_22 : decode cX12_takesAll 22 = .ok (.bipush 7, 2) := by decide +kernel
theorem dX12_takesAll_24 : decode cX12_takesAll 24 = .ok (.iload_n 2, 1) := by decide +kernel
theorem dX12_takesAll_25 : decode cX12_takesAll 25 = .ok (.iadd, 1) := by decide +kernel
theorem dX12_takesAll_26 : decode cX12_takesAll 26 = .ok (.iload_n 2, 1) := by decide +kernel
theorem dX12_takesAll_27 : decode cX12_takesAll 27 = .ok (.iastore, 1) := by decide +kernel
theorem dX12_takesAll_28 : decode cX12_takesAll 28 = .ok (.aload_n 1, 1) := by decide +kernel
theorem dX12_takesAll_29 : decode cX12_takesAll 29 = .ok (.bipush 19, 2) := by decide +kernel
theorem dX12_takesAll_31 : decode cX12_takesAll 31 = .ok (.iload_n 2, 1) := by decide +kernel
theorem dX12_takesAll_32 : decode cX12_takesAll 32 = .ok (.iadd, 1) := by decide +kernel
theorem dX12_takesAll_33 : decode cX12_takesAll 33 = .ok (.aload_n 0, 1) := by decide +kernel
theorem dX12_takesAll_34 : decode cX12_takesAll 34 = .ok (.iload_n 2, 1) := by decide +kernel
theorem dX12_takesAll_35 : decode cX12_takesAll 35 = .ok (.bipush 6, 2) := by decide +kernel
theorem dX12_takesAll_37 : decode cX12_takesAll 37 = .ok (.invokevirtual 98, 3) := by decide +kernel
theorem dX12_takesAll_40 : decode cX12_takesAll 40 = .ok (.iastore, 1) := by decide +kernel
theorem dX12_takesAll_41 : decode cX12_takesAll 41 = .ok (.iinc 2 1, 3) := by decide +kernel
theorem dX12_takesAll_44 : decode cX12_takesAll 44 = .ok (.goto (-33), 3) := by decide +kernel
theorem dX12_takesAll_47 : decode cX12_takesAll 47 = .ok (.return_, 1) := by decide +kernel
theorem dX12_leaderOf_0 : decode cX12_leaderOf 0 = .ok (.aload_n 0, 1) := by decide +kernel
theorem dX12_leaderOf_1 : decode cX12_leaderOf 1 = .ok (.getfield 9, 3) := by decide +kernel
theorem dX12_leaderOf_4 : decode cX12_leaderOf 4 = .ok (.iconst 4, 1) := by decide +kernel
theorem dX12_leaderOf_5 : decode cX12_leaderOf 5 = .ok (.iaload, 1) := by decide +kernel
theorem dX12_leaderOf_6 : decode cX12_leaderOf 6 = .ok (.iload_n 1, 1) := by decide +kernel
theorem dX12_leaderOf_7 : decode cX12_leaderOf 7 = .ok (.if_icmp .ge 12, 3) := by decide +kernel
theorem dX12_leaderOf_10 : decode cX12_leaderOf 10 = .ok (.aload_n 0, 1) := by decide +kernel
theorem dX12_leaderOf_11 : decode cX12_leaderOf 11 = .ok (.getfield 9, 3) := by decide +kernel
theorem dX12_leaderOf_14 : decode cX12_leaderOf 14 = .ok (.iconst 4, 1) := by decide +kernel
theorem dX12_leaderOf_15 : decode cX12_leaderOf 15 = .ok (.iaload, 1) := by decide +kernel
theorem dX12_leaderOf_16 : decode cX12_leaderOf 16 = .ok (.goto 4, 3) := by decide +kernel
theorem dX12_leaderOf_19 : decode cX12_leaderOf 19 = .ok (.iconst 0, 1) := by decide +kernel
theorem dX12_leaderOf_20 : decode cX12_leaderOf 20 = .ok (.ireturn, 1) := by decide +kernel
theorem dX12_neededNow_0 : decode cX12_neededNow 0 = .ok (.aload_n 0, 1) := by decide +kernel
theorem dX12_neededNow_1 : decode cX12_neededNow 1 = .ok (.getfield 9, 3) := by decide +kernel
theorem dX12_neededNow_4 : decode cX12_neededNow 4 = .ok (.iconst 3, 1) := by decide +kernel
theorem dX12_neededNow_5 : decode cX12_neededNow 5 = .ok (.iaload, 1) := by decide +kernel
theorem dX12_neededNow_6 : decode cX12_neededNow 6 = .ok (.aload_n 0, 1) := by decide +kernel
theorem dX12_neededNow_7 : decode cX12_neededNow 7 = .ok (.getfield 9, 3) := by decide +kernel
theorem dX12_neededNow_10 : decode cX12_neededNow 10 = .ok (.iconst 1, 1) := by decide +kernel
theorem dX12_neededNow_11 : decode cX12_neededNow 11 = .ok (.iaload, 1) := by decide +kernel
theorem dX12_neededNow_12 : decode cX12_neededNow 12 = .ok (.invokestatic 232, 3) := by decide +kernel
theorem dX12_neededNow_15 : decode cX12_neededNow 15 = .ok (.ireturn, 1) := by decide +kernel
theorem dX12_talk_0 : decode cX12_talk 0 = .ok (.iload_n 1, 1) := by decide +kernel
theorem dX12_talk_1 : decode cX12_talk 1 = .ok (.i2l, 1) := by decide +kernel
theorem dX12_talk_2 : decode cX12_talk 2 = .ok (.lconst 0, 1) := by decide +kernel
theorem dX12_talk_3 : decode cX12_talk 3 = .ok (.ldc2_w 217, 3) := by decide +kernel
theorem dX12_talk_6 : decode cX12_talk 6 = .ok (.invokestatic 62, 3) := by decide +kernel
theorem dX12_talk_9 : decode cX12_talk 9 = .ok (.ifCond .ne 5, 3) := by decide +kernel
theorem dX12_talk_12 : decode cX12_talk 12 = .ok (.iconst (-1), 1) := by decide +kernel
theorem dX12_talk_13 : decode cX12_talk 13 = .ok (.ireturn, 1) := by decide +kernel
theorem dX12_talk_14 : decode cX12_talk 14 = .ok (.aload_n 0, 1) := by decide +kernel
theorem dX12_talk_15 : decode cX12_talk 15 = .ok (.invokevirtual 101, 3) := by decide +kernel
theorem dX12_talk_18 : decode cX12_talk 18 = .ok (.ifCond .ne 6, 3) := by decide +kernel
theorem dX12_talk_21 : decode cX12_talk 21 = .ok (.bipush (-3), 2) := by decide +kernel
theorem dX12_talk_23 : decode cX12_talk 23 = .ok (.ireturn, 1) := by decide +kernel
theorem dX12_talk_24 : decode cX12_talk 24 = .ok (.iload_n 1, 1) := by decide +kernel
theorem dX12_talk_25 : decode cX12_talk 25 = .ok (.iconst 4, 1) := by decide +kernel
theorem dX12_talk_26 : decode cX12_talk 26 = .ok (.if_icmp .ge 12, 3) := by decide +kernel
theorem dX12_talk_29 : decode cX12_talk 29 = .ok (.aload_n 0, 1) := by decide +kernel
theorem dX12_talk_30 : decode cX12_talk 30 = .ok (.getfield 22, 3) := by decide +kernel
theorem dX12_talk_33 : decode cX12_talk 33 = .ok (.iload_n 1, 1) := by decide +kernel
theorem dX12_talk_34 : decode cX12_talk 34 = .ok (.iaload, 1) := by decide +kernel
theorem dX12_talk_35 : decode cX12_talk 35 = .ok (.goto 31, 3) := by decide +kernel
theorem dX12_talk_38 : decode cX12_talk 38 = .ok (.iload_n 1, 1) := by decide +kernel
theorem dX12_talk_39 : decode cX12_talk 39 = .ok (.iconst 4, 1) := by decide +kernel
theorem dX12_talk_40 : decode cX12_talk 40 = .ok (.if_icmp .ne 14, 3) := by decide +kernel
theorem dX12_talk_43 : decode cX12_talk 43 = .ok (.aload_n 0, 1) := by decide +kernel
theorem dX12_talk_44 : decode cX12_talk 44 = .ok (.aload_n 0, 1) := by decide +kernel
theorem dX12_talk_45 : decode cX12_talk 45 = .ok (.getfield 22, 3) := by decide +kernel
theorem dX12_talk_48 : decode cX12_talk 48 = .ok (.invokevirtual 208, 3) := by decide +kernel
theorem dX12_talk_51 : decode cX12_talk 51 = .ok (.goto 15, 3) := by decide +kernel
theorem dX12_talk_54 : decode cX12_talk 54 = .ok (.aload_n 0, 1) := by decide +kernel
theorem dX12_talk_55 : decode cX12_talk 55 = .ok (.aload_n 0, 1) := by decide +kernel
theorem dX12_talk_56 : decode cX12_talk 56 = .ok (.getfield 22, 3) := by decide +kernel
theorem dX12_talk_59 : decode cX12_talk 59 = .ok (.aload_n 0, 1) := by decide +kernel
theorem dX12_talk_60 : decode cX12_talk 60 = .ok (.invokevirtual 247, 3) := by decide +kernel
theorem dX12_talk_63 : decode cX12_talk 63 = .ok (.invokevirtual 250, 3) := by decide +kernel
theorem dX12_talk_66 : decode cX12_talk 66 = .ok (.ireturn, 1) := by decide +kernel
theorem dX12_slipsOf_0 : decode cX12_slipsOf 0 = .ok (.iconst 0, 1) := by decide +kernel
theorem dX12_slipsOf_1 : decode cX12_slipsOf 1 = .ok (.istore_n 2, 1) := by decide +kernel
theorem dX12_slipsOf_2 : decode cX12_slipsOf 2 = .ok (.iconst 0, 1) := by decide +kernel
theorem dX12_slipsOf_3 : decode cX12_slipsOf 3 = .ok (.istore_n 3, 1) := by decide +kernel
theorem dX12_slipsOf_4 : decode cX12_slipsOf 4 = .ok (.iload_n 3, 1) := by decide +kernel
theorem dX12_slipsOf_5 : decode cX12_slipsOf 5 = .ok (.aload_n 1, 1) := by decide +kernel
theorem dX12_slipsOf_6 : decode cX12_slipsOf 6 = .ok (.iconst 5, 1) := by decide +kernel
theorem dX12_slipsOf_7 : decode cX12_slipsOf 7 = .ok (.iaload, 1) := by decide +kernel
theorem dX12_slipsOf_8 : decode cX12_slipsOf 8 = .ok (.if_icmp .ge 20, 3) := by decide +kernel
theorem dX12_slipsOf_11 : decode cX12_slipsOf 11 = .ok (.iload_n 2, 1) := by decide +kernel
theorem dX12_slipsOf_12 : decode cX12_slipsOf 12 = .ok (.aload_n 1, 1) := by decide +kernel
theorem dX12_slipsOf_13 : decode cX12_slipsOf 13 = .ok (.bipush 43, 2) := by decide +kernel
theorem dX12_slipsOf_15 : decode cX12_slipsOf 15 = .ok (.iload_n 3, 1) := by decide +kernel
theorem dX12_slipsOf_16 : decode cX12_slipsOf 16 = .ok (.iadd, 1) := by decide +kernel
theorem dX12_slipsOf_17 : decode cX12_slipsOf 17 = .ok (.iaload, 1) := by decide +kernel
theorem dX12_slipsOf_18 : decode cX12_slipsOf 18 = .ok (.iload_n 3, 1) := by decide +kernel
theorem dX12_slipsOf_19 : decode cX12_slipsOf 19 = .ok (.ishl, 1) := by decide +kernel
theorem dX12_slipsOf_20 : decode cX12_slipsOf 20 = .ok (.ior, 1) := by decide +kernel
theorem dX12_slipsOf_21 : decode cX12_slipsOf 21 = .ok (.istore_n 2, 1) := by decide +kernel
theorem dX12_slipsOf_22 : decode cX12_slipsOf 22 = .ok (.iinc 3 1, 3) := by decide +kernel
theorem dX12_slipsOf_25 : decode cX12_slipsOf 25 = .ok (.goto (-21), 3) := by decide +kernel
theorem dX12_slipsOf_28 : decode cX12_slipsOf 28 = .ok (.iload_n 2, 1) := by decide +kernel
theorem dX12_slipsOf_29 : decode cX12_slipsOf 29 = .ok (.ireturn, 1) := by decide +kernel
