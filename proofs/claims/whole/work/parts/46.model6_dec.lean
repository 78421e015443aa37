theorem dX12_tellsThing_0 : decode cX12_tellsThing 0 = .ok (.aload_n 1, 1) := by decide +kernel
theorem dX12_tellsThing_1 : decode cX12_tellsThing 1 = .ok (.bipush 19, 2) := by decide +kernel
theorem dX12_tellsThing_3 : decode cX12_tellsThing 3 = .ok (.iload_n 2, 1) := by decide +kernel
theorem dX12_tellsThing_4 : decode cX12_tellsThing 4 = .ok (.iadd, 1) := by decide +kernel
theorem dX12_tellsThing_5 : decode cX12_tellsThing 5 = .ok (.iaload, 1) := by decide +kernel
theorem dX12_tellsThing_6 : decode cX12_tellsThing 6 = .ok (.aload_n 0, 1) := by decide +kernel
theorem dX12_tellsThing_7 : decode cX12_tellsThing 7 = .ok (.aload_n 1, 1) := by decide +kernel
theorem dX12_tellsThing_8 : decode cX12_tellsThing 8 = .ok (.invokevirtual 208, 3) := by decide +kernel
theorem dX12_tellsThing_11 : decode cX12_tellsThing 11 = .ok (.iconst (-1), 1) := by decide +kernel
theorem dX12_tellsThing_12 : decode cX12_tellsThing 12 = .ok (.ixor, 1) := by decide +kernel
theorem dX12_tellsThing_13 : decode cX12_tellsThing 13 = .ok (.iand, 1) := by decide +kernel
theorem dX12_tellsThing_14 : decode cX12_tellsThing 14 = .ok (.istore_n 3, 1) := by decide +kernel
theorem dX12_tellsThing_15 : decode cX12_tellsThing 15 = .ok (.bipush (-4), 2) := by decide +kernel
theorem dX12_tellsThing_17 : decode cX12_tellsThing 17 = .ok (.istore 4, 2) := by decide +kernel
theorem dX12_tellsThing_19 : decode cX12_tellsThing 19 = .ok (.iconst 0, 1) := by decide +kernel
theorem dX12_tellsThing_20 : decode cX12_tellsThing 20 = .ok (.istore 5, 2) := by decide +kernel
theorem dX12_tellsThing_22 : decode cX12_tellsThing 22 = .ok (.iload 5, 2) := by decide +kernel
theorem dX12_tellsThing_24 : decode cX12_tellsThing 24 = .ok (.aload_n 0, 1) := by decide +kernel
theorem dX12_tellsThing_25 : decode cX12_tellsThing 25 = .ok (.getfield 9, 3) := by decide +kernel
theorem dX12_tellsThing_28 : decode cX12_tellsThing 28 = .ok (.iconst 0, 1) := by decide +kernel
theorem dX12_tellsThing_29 : decode cX12_tellsThing 29 = .ok (.iaload, 1) := by decide +kernel
theorem dX12_tellsThing_30 : decode cX12_tellsThing 30 = .ok (.if_icmp .ge 57, 3) := by decide +kernel
theorem dX12_tellsThing_33 : decode cX12_tellsThing 33 = .ok (.iload_n 3, 1) := by decide +kernel
theorem dX12_tellsThing_34 : decode cX12_tellsThing 34 = .ok (.iload 5, 2) := by decide +kernel
theorem dX12_tellsThing_36 : decode cX12_tellsThing 36 = .ok (.ishr, 1) := by decide +kernel
theorem dX12_tellsThing_37 : decode cX12_tellsThing 37 = .ok (.iconst 1, 1) := by decide +kernel
theorem dX12_tellsThing_38 : decode cX12_tellsThing 38 = .ok (.iand, 1) := by decide +kernel
theorem dX12_tellsThing_39 : decode cX12_tellsThing 39 = .ok (.iconst 1, 1) := by decide +kernel
theorem dX12_tellsThing_40 : decode cX12_tellsThing 40 = .ok (.if_icmp .ne 41, 3) := by decide +kernel
theorem dX12_tellsThing_43 : decode cX12_tellsThing 43 = .ok (.iload 4, 2) := by decide +kernel
theorem dX12_tellsThing_45 : decode cX12_tellsThing 45 = .ok (.ifCond .lt 32, 3) := by decide +kernel
theorem dX12_tellsThing_48 : decode cX12_tellsThing 48 = .ok (.aload_n 0, 1) := by decide +kernel
theorem dX12_tellsThing_49 : decode cX12_tellsThing 49 = .ok (.getfield 9, 3) := by decide +kernel
theorem dX12_tellsThing_52 : decode cX12_tellsThing 52 = .ok (.bipush 7, 2) := by decide +kernel
theorem dX12_tellsThing_54 : decode cX12_tellsThing 54 = .ok (.iload 5, 2) := by decide +kernel
theorem dX12_tellsThing_56 : decode cX12_tellsThing 56 = .ok (.iadd, 1) := by decide +kernel
theorem dX12_tellsThing_57 : decode cX12_tellsThing 57 = .ok (.iaload, 1) := by decide +kernel
theorem dX12_tellsThing_58 : decode cX12_tellsThing 58 = .ok (.invokestatic 212, 3) := by decide +kernel
theorem dX12_tellsThing_61 : decode cX12_tellsThing 61 = .ok (.aload_n 0, 1) := by decide +kernel
theorem dX12_tellsThing_62 : decode cX12_tellsThing 62 = .ok (.getfield 9, 3) := by decide +kernel
theorem dX12_tellsThing_65 : decode cX12_tellsThing 65 = .ok (.bipush 7, 2) := by decide +kernel
theorem dX12_tellsThing_67 : decode cX12_tellsThing 67 = .ok (.iload 4, 2) := by decide +kernel
theorem dX12_tellsThing_69 : decode cX12_tellsThing 69 = .ok (.iadd, 1) := by decide +kernel
theorem dX12_tellsThing_70 : decode cX12_tellsThing 70 = .ok (.iaload, 1) := by decide +kernel
theorem dX12_tellsThing_71 : decode cX12_tellsThing 71 = .ok (.invokestatic 212, 3) := by decide +kernel
theorem dX12_tellsThing_74 : decode cX12_tellsThing 74 = .ok (.if_icmp .le 7, 3) := by decide +kernel
theorem dX12_tellsThing_77 : decode cX12_tellsThing 77 = .ok (.iload 5, 2) := by decide +kernel
theorem dX12_tellsThing_79 : decode cX12_tellsThing 79 = .ok (.istore 4, 2) := by decide +kernel
theorem dX12_tellsThing_81 : decode cX12_tellsThing 81 = .ok (.iinc 5 1, 3) := by decide +kernel
theorem dX12_tellsThing_84 : decode cX12_tellsThing 84 = .ok (.goto (-62), 3) := by decide +kernel
theorem dX12_tellsThing_87 : decode cX12_tellsThing 87 = .ok (.iconst 0, 1) := by decide +kernel
theorem dX12_tellsThing_88 : decode cX12_tellsThing 88 = .ok (.istore 5, 2) := by decide +kernel
theorem dX12_tellsThing_90 : decode cX12_tellsThing 90 = .ok (.iload 5, 2) := by decide +kernel
theorem dX12_tellsThing_92 : decode cX12_tellsThing 92 = .ok (.aload_n 1, 1) := by decide +kernel
theorem dX12_tellsThing_93 : decode cX12_tellsThing 93 = .ok (.iconst 5, 1) := by decide +kernel
theorem dX12_tellsThing_94 : decode cX12_tellsThing 94 = .ok (.iaload, 1) := by decide +kernel
theorem dX12_tellsThing_95 : decode cX12_tellsThing 95 = .ok (.if_icmp .ge 28, 3) := by decide +kernel
theorem dX12_tellsThing_98 : decode cX12_tellsThing 98 = .ok (.iload 4, 2) := by decide +kernel
theorem dX12_tellsThing_100 : decode cX12_tellsThing 100 = .ok (.ifCond .lt 23, 3) := by decide +kernel
theorem dX12_tellsThing_103 : decode cX12_tellsThing 103 = .ok (.aload_n 1, 1) := by decide +kernel
theorem dX12_tellsThing_104 : decode cX12_tellsThing 104 = .ok (.bipush 19, 2) := by decide +kernel
theorem dX12_tellsThing_106 : decode cX12_tellsThing 106 = .ok (.iload 5, 2) := by decide +kernel
theorem dX12_tellsThing_108 : decode cX12_tellsThing 108 = .ok (.iadd, 1) := by decide +kernel
theorem dX12_tellsThing_109 : decode cX12_tellsThing 109 = .ok (.dup2, 1) := by decide +kernel
theorem dX12_tellsThing_110 : decode cX12_tellsThing 110 = .ok (.iaload, 1) := by decide +kernel
theorem dX12_tellsThing_111 : decode cX12_tellsThing 111 = .ok (.iconst 1, 1) := by decide +kernel
theorem dX12_tellsThing_112 : decode cX12_tellsThing 112 = .ok (.iload 4, 2) := by decide +kernel
theorem dX12_tellsThing_114 : decode cX12_tellsThing 114 = .ok (.ishl, 1) := by decide +kernel
theorem dX12_tellsThing_115 : decode cX12_tellsThing 115 = .ok (.ior, 1) := by decide +kernel
theorem dX12_tellsThing_116 : decode cX12_tellsThing 116 = .ok (.iastore, 1) := by decide +kernel
theorem dX12_tellsThing_117 : decode cX12_tellsThing 117 = .ok (.iinc 5 1, 3) := by decide +kernel
theorem dX12_tellsThing_120 : decode cX12_tellsThing 120 = .ok (.goto (-30), 3) := by decide +kernel
theorem dX12_tellsThing_123 : decode cX12_tellsThing 123 = .ok (.return_, 1) := by decide +kernel
theorem dX12_tellsStory_0 : decode cX12_tellsStory 0 = .ok (.aload_n 0, 1) := by decide +kernel
theorem dX12_tellsStory_1 : decode cX12_tellsStory 1 = .ok (.aload_n 1, 1) := by decide +kernel
theorem dX12_tellsStory_2 : decode cX12_tellsStory 2 = .ok (.iconst 1, 1) := by decide +kernel
theorem dX12_tellsStory_3 : decode cX12_tellsStory 3 = .ok (.iaload, 1) := by decide +kernel
theorem dX12_tellsStory_4 : decode cX12_tellsStory 4 = .ok (.aload_n 1, 1) := by decide +kernel
theorem dX12_tellsStory_5 : decode cX12_tellsStory 5 = .ok (.iconst 2, 1) := by decide +kernel
theorem dX12_tellsStory_6 : decode cX12_tellsStory 6 = .ok (.iaload, 1) := by decide +kernel
theorem dX12_tellsStory_7 : decode cX12_tellsStory 7 = .ok (.aload_n 1, 1) := by decide +kernel
theorem dX12_tellsStory_8 : decode cX12_tellsStory 8 = .ok (.iconst 0, 1) := by decide +kernel
theorem dX12_tellsStory_9 : decode cX12_tellsStory 9 = .ok (.iaload, 1) := by decide +kernel
theorem dX12_tellsStory_10 : decode cX12_tellsStory 10 = .ok (.invokevirtual 180, 3) := by decide +kernel
theorem dX12_tellsStory_13 : decode cX12_tellsStory 13 = .ok (.iconst 0, 1) := by decide +kernel
theorem dX12_tellsStory_14 : decode cX12_tellsStory 14 = .ok (.istore_n 3, 1) := by decide +kernel
theorem dX12_tellsStory_15 : decode cX12_tellsStory 15 = .ok (.iload_n 3, 1) := by decide +kernel
theorem dX12_tellsStory_16 : decode cX12_tellsStory 16 = .ok (.aload_n 1, 1) := by decide +kernel
theorem dX12_tellsStory_17 : decode cX12_tellsStory 17 = .ok (.iconst 5, 1) := by decide +kernel
theorem dX12_tellsStory_18 : decode cX12_tellsStory 18 = .ok (.iaload, 1) := by decide +kernel
theorem dX12_tellsStory_19 : decode cX12_tellsStory 19 = .ok (.if_icmp .ge 74, 3) := by decide +kernel
theorem dX12_tellsStory_22 : decode cX12_tellsStory 22 = .ok (.aload_n 0, 1) := by decide +kernel
theorem dX12_tellsStory_23 : decode cX12_tellsStory 23 = .ok (.aload_n 1, 1) := by decide +kernel
theorem dX12_tellsStory_24 : decode cX12_tellsStory 24 = .ok (.iload_n 3, 1) := by decide +kernel
theorem dX12_tellsStory_25 : decode cX12_tellsStory 25 = .ok (.invokevirtual 196, 3) := by decide +kernel
theorem dX12_tellsStory_28 : decode cX12_tellsStory 28 = .ok (.i2l, 1) := by decide +kernel
theorem dX12_tellsStory_29 : decode cX12_tellsStory 29 = .ok (.aload_n 0, 1) := by decide +kernel
theorem dX12_tellsStory_30 : decode cX12_tellsStory 30 = .ok (.aload_n 1, 1) := by decide +kernel
theorem dX12_tellsStory_31 : decode cX12_tellsStory 31 = .ok (.bipush 7, 2) := by decide +kernel
theorem dX12_tellsStory_33 : decode cX12_tellsStory 33 = .ok (.iload_n 3, 1) := by decide +kernel
theorem dX12_tellsStory_34 : decode cX12_tellsStory 34 = .ok (.iadd, 1) := by decide +kernel
theorem dX12_tellsStory_35 : decode cX12_tellsStory 35 = .ok (.iaload, 1) := by decide +kernel
theorem dX12_tellsStory_36 : decode cX12_tellsStory 36 = .ok (.iconst 3, 1) := by decide +kernel
theorem dX12_tellsStory_37 : decode cX12_tellsStory 37 = .ok (.invokevirtual 98, 3) := by decide +kernel
theorem dX12_tellsStory_40 : decode cX12_tellsStory 40 = .ok (.i2l, 1) := by decide +kernel
theorem dX12_tellsStory_41 : decode cX12_tellsStory 41 = .ok (.lsub, 1) := by decide +kernel
theorem dX12_tellsStory_42 : decode cX12_tellsStory 42 = .ok (.lstore 4, 2) := by decide +kernel
theorem dX12_tellsStory_44 : decode cX12_tellsStory 44 = .ok (.lload 4, 2) := by decide +kernel
theorem dX12_tellsStory_46 : decode cX12_tellsStory 46 = .ok (.ldc2_w 215, 3) := by decide +kernel
theorem dX12_tellsStory_49 : decode cX12_tellsStory 49 = .ok (.lcmp, 1) := by decide +kernel
theorem dX12_tellsStory_50 : decode cX12_tellsStory 50 = .ok (.ifCond .le 37, 3) := by decide +kernel
theorem dX12_tellsStory_53 : decode cX12_tellsStory 53 = .ok (.lload 4, 2) := by decide +kernel
theorem dX12_tellsStory_55 : decode cX12_tellsStory 55 = .ok (.ldc2_w 217, 3) := by decide +kernel
theorem dX12_tellsStory_58 : decode cX12_tellsStory 58 = .ok (.lcmp, 1) := by decide +kernel
theorem dX12_tellsStory_59 : decode cX12_tellsStory 59 = .ok (.ifCond .ge 28, 3) := by decide +kernel
theorem dX12_tellsStory_62 : decode cX12_tellsStory 62 = .ok (.aload_n 1, 1) := by decide +kernel
theorem dX12_tellsStory_63 : decode cX12_tellsStory 63 = .ok (.bipush 31, 2) := by decide +kernel
theorem dX12_tellsStory_65 : decode cX12_tellsStory 65 = .ok (.iload_n 3, 1) := by decide +kernel
theorem dX12_tellsStory_66 : decode cX12_tellsStory 66 = .ok (.iadd, 1) := by decide +kernel
theorem dX12_tellsStory_67 : decode cX12_tellsStory 67 = .ok (.dup2, 1) := by decide +kernel
theorem dX12_tellsStory_68 : decode cX12_tellsStory 68 = .ok (.iaload, 1) := by decide +kernel
theorem dX12_tellsStory_69 : decode cX12_tellsStory 69 = .ok (.aload_n 1, 1) := by decide +kernel
theorem dX12_tellsStory_70 : decode cX12_tellsStory 70 = .ok (.bipush 43, 2) := by decide +kernel
theorem dX12_tellsStory_72 : decode cX12_tellsStory 72 = .ok (.iload_n 2, 1) := by decide +kernel
theorem dX12_tellsStory_73 : decode cX12_tellsStory 73 = .ok (.iadd, 1) := by decide +kernel
theorem dX12_tellsStory_74 : decode cX12_tellsStory 74 = .ok (.iaload, 1) := by decide +kernel
theorem dX12_tellsStory_75 : decode cX12_tellsStory 75 = .ok (.iconst 1, 1) := by decide +kernel
theorem dX12_tellsStory_76 : decode cX12_tellsStory 76 = .ok (.if_icmp .ne 7, 3) := by decide +kernel
theorem dX12_tellsStory_79 : decode cX12_tellsStory 79 = .ok (.iconst 2, 1) := by decide +kernel
theorem dX12_tellsStory_80 : decode cX12_tellsStory 80 = .ok (.goto 5, 3) := by decide +kernel
theorem dX12_tellsStory_83 : decode cX12_tellsStory 83 = .ok (.bipush (-2), 2) := by decide +kernel
theorem dX12_tellsStory_85 : decode cX12_tellsStory 85 = .ok (.iadd, 1) := by decide +kernel
theorem dX12_tellsStory_86 : decode cX12_tellsStory 86 = .ok (.iastore, 1) := by decide +kernel
theorem dX12_tellsStory_87 : decode cX12_tellsStory 87 = .ok (.iinc 3 1, 3) := by decide +kernel
theorem dX12_tellsStory_90 : decode cX12_tellsStory 90 = .ok (.goto (-75), 3) := by decide +kernel
theorem dX12_tellsStory_93 : decode cX12_tellsStory 93 = .ok (.return_, 1) := by decide +kernel
theorem dX12_presses_0 : decode cX12_presses 0 = .ok (.aload_n 1, 1) := by decide +kernel
theorem dX12_presses_1 : decode cX12_presses 1 = .ok (.iconst 1, 1) := by decide +kernel
theorem dX12_presses_2 : decode cX12_presses 2 = .ok (.iaload, 1) := by decide +kernel
theorem dX12_presses_3 : decode cX12_presses 3 = .ok (.aload_n 1, 1) := by decide +kernel
theorem dX12_presses_4 : decode cX12_presses 4 = .ok (.iconst 2, 1) := by decide +kernel
theorem dX12_presses_5 : decode cX12_presses 5 = .ok (.iaload, 1) := by decide +kernel
theorem dX12_presses_6 : decode cX12_presses 6 = .ok (.isub, 1) := by decide +kernel
theorem dX12_presses_7 : decode cX12_presses 7 = .ok (.istore_n 2, 1) := by decide +kernel
theorem dX12_presses_8 : decode cX12_presses 8 = .ok (.iconst 0, 1) := by decide +kernel
theorem dX12_presses_9 : decode cX12_presses 9 = .ok (.istore_n 3, 1) := by decide +kernel
theorem dX12_presses_10 : decode cX12_presses 10 = .ok (.iload_n 3, 1) := by decide +kernel
theorem dX12_presses_11 : decode cX12_presses 11 = .ok (.aload_n 1, 1) := by decide +kernel
theorem dX12_presses_12 : decode cX12_presses 12 = .ok (.iconst 5, 1) := by decide +kernel
theorem dX12_presses_13 : decode cX12_presses 13 = .ok (.iaload, 1) := by decide +kernel
theorem dX12_presses_14 : decode cX12_presses 14 = .ok (.if_icmp .ge 88, 3) := by decide +kernel
theorem dX12_presses_17 : decode cX12_presses 17 = .ok (.iload_n 2, 1) := by decide +kernel
theorem dX12_presses_18 : decode cX12_presses 18 = .ok (.ifCond .le 20, 3) := by decide +kernel
theorem dX12_presses_21 : decode cX12_presses 21 = .ok (.aload_n 1, 1) := by decide +kernel
theorem dX12_presses_22 : decode cX12_presses 22 = .ok (.bipush 43, 2) := by decide +kernel
theorem dX12_presses_24 : decode cX12_presses 24 = .ok (.iload_n 3, 1) := by decide +kernel
theorem dX12_presses_25 : decode cX12_presses 25 = .ok (.iadd, 1) := by decide +kernel
theorem dX12_presses_26 : decode cX12_presses 26 = .ok (.iaload, 1) := by decide +kernel
theorem dX12_presses_27 : decode cX12_presses 27 = .ok (.ifCond .ne 7, 3) := by decide +kernel
theorem dX12_presses_30 : decode cX12_presses 30 = .ok (.iconst 1, 1) := by decide +kernel
theorem dX12_presses_31 : decode cX12_presses 31 = .ok (.goto 26, 3) := by decide +kernel
theorem dX12_presses_34 : decode cX12_presses 34 = .ok (.iconst 0, 1) := by decide +kernel
theorem dX12_presses_35 : decode cX12_presses 35 = .ok (.goto 22, 3) := by decide +kernel
theorem dX12_presses_38 : decode cX12_presses 38 = .ok (.iload_n 2, 1) := by decide +kernel
theorem dX12_presses_39 : decode cX12_presses 39 = .ok (.ifCond .ge 17, 3) := by decide +kernel
theorem dX12_presses_42 : decode cX12_presses 42 = .ok (.aload_n 1, 1) := by decide +kernel
theorem dX12_presses_43 : decode cX12_presses 43 = .ok (.bipush 43, 2) := by decide +kernel
theorem dX12_presses_45 : decode cX12_presses 45 = .ok (.iload_n 3, 1) := by decide +kernel
theorem dX12_presses_46 : decode cX12_presses 46 = .ok (.iadd, 1) := by decide +kernel
theorem dX12_presses_47 : decode cX12_presses 47 = .ok (.iaload, 1) := by decide +kernel
theorem dX12_presses_48 : decode cX12_presses 48 = .ok (.iconst 1, 1) := by decide +kernel
theorem dX12_presses_49 : decode cX12_presses 49 = .ok (.if_icmp .ne 7, 3) := by decide +kernel
theorem dX12_presses_52 : decode cX12_presses 52 = .ok (.iconst 1, 1) := by decide +kernel
theorem dX12_presses_53 : decode cX12_presses 53 = .ok (.goto 4, 3) := by decide +kernel
theorem dX12_presses_56 : decode cX12_presses 56 = .ok (.iconst 0, 1) := by decide +kernel
theorem dX12_presses_57 : decode cX12_presses 57 = .ok (.istore 4, 2) := by decide +kernel
theorem dX12_presses_59 : decode cX12_presses 59 = .ok (.iload 4, 2) := by decide +kernel
theorem dX12_presses_61 : decode cX12_presses 61 = .ok (.ifCond .eq 35, 3) := by decide +kernel
theorem dX12_presses_64 : decode cX12_presses 64 = .ok (.aload_n 1, 1) := by decide +kernel
theorem dX12_presses_65 : decode cX12_presses 65 = .ok (.bipush 31, 2) := by decide +kernel
theorem dX12_presses_67 : decode cX12_presses 67 = .ok (.iload_n 3, 1) := by decide +kernel
theorem dX12_presses_68 : decode cX12_presses 68 = .ok (.iadd, 1) := by decide +kernel
theorem dX12_presses_69 : decode cX12_presses 69 = .ok (.dup2, 1) := by decide +kernel
theorem dX12_presses_70 : decode cX12_presses 70 = .ok (.iaload, 1) := by decide +kernel
theorem dX12_presses_71 : decode cX12_presses 71 = .ok (.iconst 2, 1) := by decide +kernel
theorem dX12_presses_72 : decode cX12_presses 72 = .ok (.aload_n 0, 1) := by decide +kernel
theorem dX12_presses_73 : decode cX12_presses 73 = .ok (.aload_n 1, 1) := by decide +kernel
theorem dX12_presses_74 : decode cX12_presses 74 = .ok (.bipush 7, 2) := by decide +kernel
theorem dX12_presses_76 : decode cX12_presses 76 = .ok (.iload_n 3, 1) := by decide +kernel
theorem dX12_presses_77 : decode cX12_presses 77 = .ok (.iadd, 1) := by decide +kernel
theorem dX12_presses_78 : decode cX12_presses 78 = .ok (.iaload, 1) := by decide +kernel
theorem dX12_presses_79 : decode cX12_presses 79 = .ok (.iconst 1, 1) := by decide +kernel
theorem dX12_presses_80 : decode cX12_presses 80 = .ok (.invokevirtual 98, 3) := by decide +kernel
theorem dX12_presses_83 : decode cX12_presses 83 = .ok (.imul, 1) := by decide +kernel
theorem dX12_presses_84 : decode cX12_presses 84 = .ok (.iload_n 2, 1) := by decide +kernel
theorem dX12_presses_85 : decode cX12_presses 85 = .ok (.ifCond .le 7, 3) := by decide +kernel
theorem dX12_presses_88 : decode cX12_presses 88 = .ok (.iconst 1, 1) := by decide +kernel
theorem dX12_presses_89 : decode cX12_presses 89 = .ok (.goto 4, 3) := by decide +kernel
theorem dX12_presses_92 : decode cX12_presses 92 = .ok (.iconst (-1), 1) := by decide +kernel
theorem dX12_presses_93 : decode cX12_presses 93 = .ok (.imul, 1) := by decide +kernel
theorem dX12_presses_94 : decode cX12_presses 94 = .ok (.iadd, 1) := by decide +kernel
theorem dX12_presses_95 : decode cX12_presses 95 = .ok (.iastore, 1) := by decide +kernel
theorem dX12_presses_96 : decode cX12_presses 96 = .ok (.iinc 3 1, 3) := by decide +kernel
theorem dX12_presses_99 : decode cX12_presses 99 = .ok (.goto (-89), 3) := by decide +kernel
theorem dX12_presses_102 : decode cX12_presses 102 = .ok (.return_, 1) := by decide +kernel
