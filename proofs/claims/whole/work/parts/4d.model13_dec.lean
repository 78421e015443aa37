theorem dX12_restore_0 : decode cX12_restore 0 = .ok (.aload_n 0, 1) := by decide +kernel
theorem dX12_restore_1 : decode cX12_restore 1 = .ok (.getfield 294, 3) := by decide +kernel
theorem dX12_restore_4 : decode cX12_restore 4 = .ok (.ifCond .ne 6, 3) := by decide +kernel
theorem dX12_restore_7 : decode cX12_restore 7 = .ok (.bipush (-3), 2) := by decide +kernel
theorem dX12_restore_9 : decode cX12_restore 9 = .ok (.ireturn, 1) := by decide +kernel
theorem dX12_restore_10 : decode cX12_restore 10 = .ok (.iconst 0, 1) := by decide +kernel
theorem dX12_restore_11 : decode cX12_restore 11 = .ok (.istore_n 1, 1) := by decide +kernel
theorem dX12_restore_12 : decode cX12_restore 12 = .ok (.iload_n 1, 1) := by decide +kernel
theorem dX12_restore_13 : decode cX12_restore 13 = .ok (.bipush 109, 2) := by decide +kernel
theorem dX12_restore_15 : decode cX12_restore 15 = .ok (.if_icmp .ge 21, 3) := by decide +kernel
theorem dX12_restore_18 : decode cX12_restore 18 = .ok (.aload_n 0, 1) := by decide +kernel
theorem dX12_restore_19 : decode cX12_restore 19 = .ok (.getfield 9, 3) := by decide +kernel
theorem dX12_restore_22 : decode cX12_restore 22 = .ok (.iload_n 1, 1) := by decide +kernel
theorem dX12_restore_23 : decode cX12_restore 23 = .ok (.aload_n 0, 1) := by decide +kernel
theorem dX12_restore_24 : decode cX12_restore 24 = .ok (.getfield 13, 3) := by decide +kernel
theorem dX12_restore_27 : decode cX12_restore 27 = .ok (.iload_n 1, 1) := by decide +kernel
theorem dX12_restore_28 : decode cX12_restore 28 = .ok (.iaload, 1) := by decide +kernel
theorem dX12_restore_29 : decode cX12_restore 29 = .ok (.iastore, 1) := by decide +kernel
theorem dX12_restore_30 : decode cX12_restore 30 = .ok (.iinc 1 1, 3) := by decide +kernel
theorem dX12_restore_33 : decode cX12_restore 33 = .ok (.goto (-21), 3) := by decide +kernel
theorem dX12_restore_36 : decode cX12_restore 36 = .ok (.iconst 0, 1) := by decide +kernel
theorem dX12_restore_37 : decode cX12_restore 37 = .ok (.istore_n 1, 1) := by decide +kernel
theorem dX12_restore_38 : decode cX12_restore 38 = .ok (.iload_n 1, 1) := by decide +kernel
theorem dX12_restore_39 : decode cX12_restore 39 = .ok (.bipush 67, 2) := by decide +kernel
theorem dX12_restore_41 : decode cX12_restore 41 = .ok (.if_icmp .ge 21, 3) := by decide +kernel
theorem dX12_restore_44 : decode cX12_restore 44 = .ok (.aload_n 0, 1) := by decide +kernel
theorem dX12_restore_45 : decode cX12_restore 45 = .ok (.getfield 22, 3) := by decide +kernel
theorem dX12_restore_48 : decode cX12_restore 48 = .ok (.iload_n 1, 1) := by decide +kernel
theorem dX12_restore_49 : decode cX12_restore 49 = .ok (.aload_n 0, 1) := by decide +kernel
theorem dX12_restore_50 : decode cX12_restore 50 = .ok (.getfield 28, 3) := by decide +kernel
theorem dX12_restore_53 : decode cX12_restore 53 = .ok (.iload_n 1, 1) := by decide +kernel
theorem dX12_restore_54 : decode cX12_restore 54 = .ok (.iaload, 1) := by decide +kernel
theorem dX12_restore_55 : decode cX12_restore 55 = .ok (.iastore, 1) := by decide +kernel
theorem dX12_restore_56 : decode cX12_restore 56 = .ok (.iinc 1 1, 3) := by decide +kernel
theorem dX12_restore_59 : decode cX12_restore 59 = .ok (.goto (-21), 3) := by decide +kernel
theorem dX12_restore_62 : decode cX12_restore 62 = .ok (.iconst 0, 1) := by decide +kernel
theorem dX12_restore_63 : decode cX12_restore 63 = .ok (.istore_n 1, 1) := by decide +kernel
theorem dX12_restore_64 : decode cX12_restore 64 = .ok (.iload_n 1, 1) := by decide +kernel
theorem dX12_restore_65 : decode cX12_restore 65 = .ok (.sipush 600, 3) := by decide +kernel
theorem dX12_restore_68 : decode cX12_restore 68 = .ok (.if_icmp .ge 21, 3) := by decide +kernel
theorem dX12_restore_71 : decode cX12_restore 71 = .ok (.aload_n 0, 1) := by decide +kernel
theorem dX12_restore_72 : decode cX12_restore 72 = .ok (.getfield 16, 3) := by decide +kernel
theorem dX12_restore_75 : decode cX12_restore 75 = .ok (.iload_n 1, 1) := by decide +kernel
theorem dX12_restore_76 : decode cX12_restore 76 = .ok (.aload_n 0, 1) := by decide +kernel
theorem dX12_restore_77 : decode cX12_restore 77 = .ok (.getfield 19, 3) := by decide +kernel
theorem dX12_restore_80 : decode cX12_restore 80 = .ok (.iload_n 1, 1) := by decide +kernel
theorem dX12_restore_81 : decode cX12_restore 81 = .ok (.iaload, 1) := by decide +kernel
theorem dX12_restore_82 : decode cX12_restore 82 = .ok (.iastore, 1) := by decide +kernel
theorem dX12_restore_83 : decode cX12_restore 83 = .ok (.iinc 1 1, 3) := by decide +kernel
theorem dX12_restore_86 : decode cX12_restore 86 = .ok (.goto (-22), 3) := by decide +kernel
theorem dX12_restore_89 : decode cX12_restore 89 = .ok (.aload_n 0, 1) := by decide +kernel
theorem dX12_restore_90 : decode cX12_restore 90 = .ok (.getfield 9, 3) := by decide +kernel
theorem dX12_restore_93 : decode cX12_restore 93 = .ok (.iconst 1, 1) := by decide +kernel
theorem dX12_restore_94 : decode cX12_restore 94 = .ok (.iaload, 1) := by decide +kernel
theorem dX12_restore_95 : decode cX12_restore 95 = .ok (.ireturn, 1) := by decide +kernel
theorem dX12_count_0 : decode cX12_count 0 = .ok (.iload_n 1, 1) := by decide +kernel
theorem dX12_count_1 : decode cX12_count 1 = .ok (.tableswitch 98 0 4 #[35, 35, 35, 42, 57], 35) := by decide +kernel
theorem dX12_count_36 : decode cX12_count 36 = .ok (.aload_n 0, 1) := by decide +kernel
theorem dX12_count_37 : decode cX12_count 37 = .ok (.getfield 9, 3) := by decide +kernel
theorem dX12_count_40 : decode cX12_count 40 = .ok (.iload_n 1, 1) := by decide +kernel
theorem dX12_count_41 : decode cX12_count 41 = .ok (.iaload, 1) := by decide +kernel
theorem dX12_count_42 : decode cX12_count 42 = .ok (.ireturn, 1) := by decide +kernel
theorem dX12_count_43 : decode cX12_count 43 = .ok (.aload_n 0, 1) := by decide +kernel
theorem dX12_count_44 : decode cX12_count 44 = .ok (.iconst 1, 1) := by decide +kernel
theorem dX12_count_45 : decode cX12_count 45 = .ok (.aload_n 0, 1) := by decide +kernel
theorem dX12_count_46 : decode cX12_count 46 = .ok (.getfield 9, 3) := by decide +kernel
theorem dX12_count_49 : decode cX12_count 49 = .ok (.iconst 0, 1) := by decide +kernel
theorem dX12_count_50 : decode cX12_count 50 = .ok (.iaload, 1) := by decide +kernel
theorem dX12_count_51 : decode cX12_count 51 = .ok (.ishl, 1) := by decide +kernel
theorem dX12_count_52 : decode cX12_count 52 = .ok (.iconst 1, 1) := by decide +kernel
theorem dX12_count_53 : decode cX12_count 53 = .ok (.isub, 1) := by decide +kernel
theorem dX12_count_54 : decode cX12_count 54 = .ok (.invokevirtual 176, 3) := by decide +kernel
theorem dX12_count_57 : decode cX12_count 57 = .ok (.ireturn, 1) := by decide +kernel
theorem dX12_count_58 : decode cX12_count 58 = .ok (.iconst 1, 1) := by decide +kernel
theorem dX12_count_59 : decode cX12_count 59 = .ok (.aload_n 0, 1) := by decide +kernel
theorem dX12_count_60 : decode cX12_count 60 = .ok (.getfield 9, 3) := by decide +kernel
theorem dX12_count_63 : decode cX12_count 63 = .ok (.iconst 0, 1) := by decide +kernel
theorem dX12_count_64 : decode cX12_count 64 = .ok (.iaload, 1) := by decide +kernel
theorem dX12_count_65 : decode cX12_count 65 = .ok (.ishl, 1) := by decide +kernel
theorem dX12_count_66 : decode cX12_count 66 = .ok (.iconst 1, 1) := by decide +kernel
theorem dX12_count_67 : decode cX12_count 67 = .ok (.isub, 1) := by decide +kernel
theorem dX12_count_68 : decode cX12_count 68 = .ok (.istore_n 2, 1) := by decide +kernel
theorem dX12_count_69 : decode cX12_count 69 = .ok (.iconst 0, 1) := by decide +kernel
theorem dX12_count_70 : decode cX12_count 70 = .ok (.istore_n 3, 1) := by decide +kernel
theorem dX12_count_71 : decode cX12_count 71 = .ok (.iload_n 3, 1) := by decide +kernel
theorem dX12_count_72 : decode cX12_count 72 = .ok (.aload_n 0, 1) := by decide +kernel
theorem dX12_count_73 : decode cX12_count 73 = .ok (.getfield 9, 3) := by decide +kernel
theorem dX12_count_76 : decode cX12_count 76 = .ok (.iconst 1, 1) := by decide +kernel
theorem dX12_count_77 : decode cX12_count 77 = .ok (.iaload, 1) := by decide +kernel
theorem dX12_count_78 : decode cX12_count 78 = .ok (.if_icmp .ge 19, 3) := by decide +kernel
theorem dX12_count_81 : decode cX12_count 81 = .ok (.iload_n 2, 1) := by decide +kernel
theorem dX12_count_82 : decode cX12_count 82 = .ok (.aload_n 0, 1) := by decide +kernel
theorem dX12_count_83 : decode cX12_count 83 = .ok (.iload_n 3, 1) := by decide +kernel
theorem dX12_count_84 : decode cX12_count 84 = .ok (.bipush 6, 2) := by decide +kernel
theorem dX12_count_86 : decode cX12_count 86 = .ok (.invokevirtual 98, 3) := by decide +kernel
theorem dX12_count_89 : decode cX12_count 89 = .ok (.iand, 1) := by decide +kernel
theorem dX12_count_90 : decode cX12_count 90 = .ok (.istore_n 2, 1) := by decide +kernel
theorem dX12_count_91 : decode cX12_count 91 = .ok (.iinc 3 1, 3) := by decide +kernel
theorem dX12_count_94 : decode cX12_count 94 = .ok (.goto (-23), 3) := by decide +kernel
theorem dX12_count_97 : decode cX12_count 97 = .ok (.iload_n 2, 1) := by decide +kernel
theorem dX12_count_98 : decode cX12_count 98 = .ok (.ireturn, 1) := by decide +kernel
theorem dX12_count_99 : decode cX12_count 99 = .ok (.ldc 97, 2) := by decide +kernel
theorem dX12_count_101 : decode cX12_count 101 = .ok (.ireturn, 1) := by decide +kernel
theorem dX12_voiceOf_0 : decode cX12_voiceOf 0 = .ok (.aload_n 0, 1) := by decide +kernel
theorem dX12_voiceOf_1 : decode cX12_voiceOf 1 = .ok (.iload_n 1, 1) := by decide +kernel
theorem dX12_voiceOf_2 : decode cX12_voiceOf 2 = .ok (.iconst 2, 1) := by decide +kernel
theorem dX12_voiceOf_3 : decode cX12_voiceOf 3 = .ok (.invokevirtual 98, 3) := by decide +kernel
theorem dX12_voiceOf_6 : decode cX12_voiceOf 6 = .ok (.istore_n 2, 1) := by decide +kernel
theorem dX12_voiceOf_7 : decode cX12_voiceOf 7 = .ok (.aload_n 0, 1) := by decide +kernel
theorem dX12_voiceOf_8 : decode cX12_voiceOf 8 = .ok (.iload_n 1, 1) := by decide +kernel
theorem dX12_voiceOf_9 : decode cX12_voiceOf 9 = .ok (.bipush 6, 2) := by decide +kernel
theorem dX12_voiceOf_11 : decode cX12_voiceOf 11 = .ok (.invokevirtual 98, 3) := by decide +kernel
theorem dX12_voiceOf_14 : decode cX12_voiceOf 14 = .ok (.invokestatic 283, 3) := by decide +kernel
theorem dX12_voiceOf_17 : decode cX12_voiceOf 17 = .ok (.istore_n 3, 1) := by decide +kernel
theorem dX12_voiceOf_18 : decode cX12_voiceOf 18 = .ok (.aload_n 0, 1) := by decide +kernel
theorem dX12_voiceOf_19 : decode cX12_voiceOf 19 = .ok (.iload_n 1, 1) := by decide +kernel
theorem dX12_voiceOf_20 : decode cX12_voiceOf 20 = .ok (.iconst 1, 1) := by decide +kernel
theorem dX12_voiceOf_21 : decode cX12_voiceOf 21 = .ok (.invokevirtual 98, 3) := by decide +kernel
theorem dX12_voiceOf_24 : decode cX12_voiceOf 24 = .ok (.istore 4, 2) := by decide +kernel
theorem dX12_voiceOf_26 : decode cX12_voiceOf 26 = .ok (.aload_n 0, 1) := by decide +kernel
theorem dX12_voiceOf_27 : decode cX12_voiceOf 27 = .ok (.iload_n 1, 1) := by decide +kernel
theorem dX12_voiceOf_28 : decode cX12_voiceOf 28 = .ok (.iconst 0, 1) := by decide +kernel
theorem dX12_voiceOf_29 : decode cX12_voiceOf 29 = .ok (.invokevirtual 98, 3) := by decide +kernel
theorem dX12_voiceOf_32 : decode cX12_voiceOf 32 = .ok (.tableswitch 86 1 7 #[44, 48, 53, 60, 66, 71, 75], 44) := by decide +kernel
theorem dX12_voiceOf_76 : decode cX12_voiceOf 76 = .ok (.iload_n 2, 1) := by decide +kernel
theorem dX12_voiceOf_77 : decode cX12_voiceOf 77 = .ok (.iload_n 3, 1) := by decide +kernel
theorem dX12_voiceOf_78 : decode cX12_voiceOf 78 = .ok (.iadd, 1) := by decide +kernel
theorem dX12_voiceOf_79 : decode cX12_voiceOf 79 = .ok (.ireturn, 1) := by decide +kernel
theorem dX12_voiceOf_80 : decode cX12_voiceOf 80 = .ok (.iload_n 2, 1) := by decide +kernel
theorem dX12_voiceOf_81 : decode cX12_voiceOf 81 = .ok (.iload 4, 2) := by decide +kernel
theorem dX12_voiceOf_83 : decode cX12_voiceOf 83 = .ok (.iadd, 1) := by decide +kernel
theorem dX12_voiceOf_84 : decode cX12_voiceOf 84 = .ok (.ireturn, 1) := by decide +kernel
theorem dX12_voiceOf_85 : decode cX12_voiceOf 85 = .ok (.iconst 2, 1) := by decide +kernel
theorem dX12_voiceOf_86 : decode cX12_voiceOf 86 = .ok (.iload_n 2, 1) := by decide +kernel
theorem dX12_voiceOf_87 : decode cX12_voiceOf 87 = .ok (.iload 4, 2) := by decide +kernel
theorem dX12_voiceOf_89 : decode cX12_voiceOf 89 = .ok (.iadd, 1) := by decide +kernel
theorem dX12_voiceOf_90 : decode cX12_voiceOf 90 = .ok (.imul, 1) := by decide +kernel
theorem dX12_voiceOf_91 : decode cX12_voiceOf 91 = .ok (.ireturn, 1) := by decide +kernel
theorem dX12_voiceOf_92 : decode cX12_voiceOf 92 = .ok (.iload_n 2, 1) := by decide +kernel
theorem dX12_voiceOf_93 : decode cX12_voiceOf 93 = .ok (.iload_n 3, 1) := by decide +kernel
theorem dX12_voiceOf_94 : decode cX12_voiceOf 94 = .ok (.iadd, 1) := by decide +kernel
theorem dX12_voiceOf_95 : decode cX12_voiceOf 95 = .ok (.iconst 5, 1) := by decide +kernel
theorem dX12_voiceOf_96 : decode cX12_voiceOf 96 = .ok (.iadd, 1) := by decide +kernel
theorem dX12_voiceOf_97 : decode cX12_voiceOf 97 = .ok (.ireturn, 1) := by decide +kernel
theorem dX12_voiceOf_98 : decode cX12_voiceOf 98 = .ok (.iload_n 2, 1) := by decide +kernel
theorem dX12_voiceOf_99 : decode cX12_voiceOf 99 = .ok (.bipush 10, 2) := by decide +kernel
theorem dX12_voiceOf_101 : decode cX12_voiceOf 101 = .ok (.iadd, 1) := by decide +kernel
theorem dX12_voiceOf_102 : decode cX12_voiceOf 102 = .ok (.ireturn, 1) := by decide +kernel
theorem dX12_voiceOf_103 : decode cX12_voiceOf 103 = .ok (.iload_n 2, 1) := by decide +kernel
theorem dX12_voiceOf_104 : decode cX12_voiceOf 104 = .ok (.iconst 1, 1) := by decide +kernel
theorem dX12_voiceOf_105 : decode cX12_voiceOf 105 = .ok (.isub, 1) := by decide +kernel
theorem dX12_voiceOf_106 : decode cX12_voiceOf 106 = .ok (.ireturn, 1) := by decide +kernel
theorem dX12_voiceOf_107 : decode cX12_voiceOf 107 = .ok (.iload_n 2, 1) := by decide +kernel
theorem dX12_voiceOf_108 : decode cX12_voiceOf 108 = .ok (.iconst 1, 1) := by decide +kernel
theorem dX12_voiceOf_109 : decode cX12_voiceOf 109 = .ok (.isub, 1) := by decide +kernel
theorem dX12_voiceOf_110 : decode cX12_voiceOf 110 = .ok (.aload_n 0, 1) := by decide +kernel
theorem dX12_voiceOf_111 : decode cX12_voiceOf 111 = .ok (.iload_n 1, 1) := by decide +kernel
theorem dX12_voiceOf_112 : decode cX12_voiceOf 112 = .ok (.iconst 4, 1) := by decide +kernel
theorem dX12_voiceOf_113 : decode cX12_voiceOf 113 = .ok (.invokevirtual 98, 3) := by decide +kernel
theorem dX12_voiceOf_116 : decode cX12_voiceOf 116 = .ok (.iadd, 1) := by decide +kernel
theorem dX12_voiceOf_117 : decode cX12_voiceOf 117 = .ok (.ireturn, 1) := by decide +kernel
theorem dX12_voiceOf_118 : decode cX12_voiceOf 118 = .ok (.iload_n 2, 1) := by decide +kernel
theorem dX12_voiceOf_119 : decode cX12_voiceOf 119 = .ok (.ireturn, 1) := by decide +kernel
theorem dX12_keep_0 : decode cX12_keep 0 = .ok (.iload_n 1, 1) := by decide +kernel
theorem dX12_keep_1 : decode cX12_keep 1 = .ok (.invokestatic 146, 3) := by decide +kernel
theorem dX12_keep_4 : decode cX12_keep 4 = .ok (.ifCond .eq 26, 3) := by decide +kernel
theorem dX12_keep_7 : decode cX12_keep 7 = .ok (.iload_n 2, 1) := by decide +kernel
theorem dX12_keep_8 : decode cX12_keep 8 = .ok (.i2l, 1) := by decide +kernel
theorem dX12_keep_9 : decode cX12_keep 9 = .ok (.lconst 0, 1) := by decide +kernel
theorem dX12_keep_10 : decode cX12_keep 10 = .ok (.lconst 1, 1) := by decide +kernel
theorem dX12_keep_11 : decode cX12_keep 11 = .ok (.invokestatic 62, 3) := by decide +kernel
theorem dX12_keep_14 : decode cX12_keep 14 = .ok (.ifCond .eq 16, 3) := by decide +kernel
theorem dX12_keep_17 : decode cX12_keep 17 = .ok (.iload_n 2, 1) := by decide +kernel
theorem dX12_keep_18 : decode cX12_keep 18 = .ok (.iconst 1, 1) := by decide +kernel
theorem dX12_keep_19 : decode cX12_keep 19 = .ok (.if_icmp .ne 13, 3) := by decide +kernel
theorem dX12_keep_22 : decode cX12_keep 22 = .ok (.aload_n 0, 1) := by decide +kernel
theorem dX12_keep_23 : decode cX12_keep 23 = .ok (.iload_n 3, 1) := by decide +kernel
theorem dX12_keep_24 : decode cX12_keep 24 = .ok (.invokevirtual 84, 3) := by decide +kernel
theorem dX12_keep_27 : decode cX12_keep 27 = .ok (.ifCond .ne 5, 3) := by decide +kernel
theorem dX12_keep_30 : decode cX12_keep 30 = .ok (.iconst (-1), 1) := by decide +kernel
theorem dX12_keep_31 : decode cX12_keep 31 = .ok (.ireturn, 1) := by decide +kernel
theorem dX12_keep_32 : decode cX12_keep 32 = .ok (.aload_n 0, 1) := by decide +kernel
theorem dX12_keep_33 : decode cX12_keep 33 = .ok (.getfield 31, 3) := by decide +kernel
theorem dX12_keep_36 : decode cX12_keep 36 = .ok (.iload_n 1, 1) := by decide +kernel
theorem dX12_keep_37 : decode cX12_keep 37 = .ok (.iload_n 2, 1) := by decide +kernel
theorem dX12_keep_38 : decode cX12_keep 38 = .ok (.iastore, 1) := by decide +kernel
theorem dX12_keep_39 : decode cX12_keep 39 = .ok (.iload_n 2, 1) := by decide +kernel
theorem dX12_keep_40 : decode cX12_keep 40 = .ok (.ifCond .ne 5, 3) := by decide +kernel
theorem dX12_keep_43 : decode cX12_keep 43 = .ok (.iconst 0, 1) := by decide +kernel
theorem dX12_keep_44 : decode cX12_keep 44 = .ok (.ireturn, 1) := by decide +kernel
theorem dX12_keep_45 : decode cX12_keep 45 = .ok (.aload_n 0, 1) := by decide +kernel
theorem dX12_keep_46 : decode cX12_keep 46 = .ok (.iload_n 3, 1) := by decide +kernel
theorem dX12_keep_47 : decode cX12_keep 47 = .ok (.iconst 0, 1) := by decide +kernel
theorem dX12_keep_48 : decode cX12_keep 48 = .ok (.invokevirtual 98, 3) := by decide +kernel
theorem dX12_keep_51 : decode cX12_keep 51 = .ok (.istore 4, 2) := by decide +kernel
theorem dX12_keep_53 : decode cX12_keep 53 = .ok (.aload_n 0, 1) := by decide +kernel
theorem dX12_keep_54 : decode cX12_keep 54 = .ok (.getfield 43, 3) := by decide +kernel
theorem dX12_keep_57 : decode cX12_keep 57 = .ok (.iload_n 1, 1) := by decide +kernel
theorem dX12_keep_58 : decode cX12_keep 58 = .ok (.aload_n 0, 1) := by decide +kernel
theorem dX12_keep_59 : decode cX12_keep 59 = .ok (.iload_n 3, 1) := by decide +kernel
theorem dX12_keep_60 : decode cX12_keep 60 = .ok (.invokevirtual 298, 3) := by decide +kernel
theorem dX12_keep_63 : decode cX12_keep 63 = .ok (.iastore, 1) := by decide +kernel
theorem dX12_keep_64 : decode cX12_keep 64 = .ok (.aload_n 0, 1) := by decide +kernel
theorem dX12_keep_65 : decode cX12_keep 65 = .ok (.getfield 46, 3) := by decide +kernel
theorem dX12_keep_68 : decode cX12_keep 68 = .ok (.iload_n 1, 1) := by decide +kernel
theorem dX12_keep_69 : decode cX12_keep 69 = .ok (.iload 4, 2) := by decide +kernel
theorem dX12_keep_71 : decode cX12_keep 71 = .ok (.bipush 6, 2) := by decide +kernel
theorem dX12_keep_73 : decode cX12_keep 73 = .ok (.if_icmp .eq 19, 3) := by decide +kernel
theorem dX12_keep_76 : decode cX12_keep 76 = .ok (.iload 4, 2) := by decide +kernel
theorem dX12_keep_78 : decode cX12_keep 78 = .ok (.bipush 7, 2) := by decide +kernel
theorem dX12_keep_80 : decode cX12_keep 80 = .ok (.if_icmp .eq 12, 3) := by decide +kernel
theorem dX12_keep_83 : decode cX12_keep 83 = .ok (.aload_n 0, 1) := by decide +kernel
theorem dX12_keep_84 : decode cX12_keep 84 = .ok (.iload_n 3, 1) := by decide +kernel
theorem dX12_keep_85 : decode cX12_keep 85 = .ok (.iconst 1, 1) := by decide +kernel
theorem dX12_keep_86 : decode cX12_keep 86 = .ok (.invokevirtual 98, 3) := by decide +kernel
theorem dX12_keep_89 : decode cX12_keep 89 = .ok (.ifCond .ne 8, 3) := by decide +kernel
theorem dX12_keep_92 : decode cX12_keep 92 = .ok (.bipush (-15), 2) := by decide +kernel
theorem dX12_keep_94 : decode cX12_keep 94 = .ok (.goto 36, 3) := by decide +kernel
theorem dX12_keep_97 : decode cX12_keep 97 = .ok (.iload 4, 2) := by decide +kernel
theorem dX12_keep_99 : decode cX12_keep 99 = .ok (.iconst 3, 1) := by decide +kernel
theorem dX12_keep_100 : decode cX12_keep 100 = .ok (.if_icmp .ne 10, 3) := by decide +kernel
theorem dX12_keep_103 : decode cX12_keep 103 = .ok (.bipush 100, 2) := by decide +kernel
theorem dX12_keep_105 : decode cX12_keep 105 = .ok (.iload_n 3, 1) := by decide +kernel
theorem dX12_keep_106 : decode cX12_keep 106 = .ok (.iadd, 1) := by decide +kernel
theorem dX12_keep_107 : decode cX12_keep 107 = .ok (.goto 23, 3) := by decide +kernel
theorem dX12_keep_110 : decode cX12_keep 110 = .ok (.iload 4, 2) := by decide +kernel
theorem dX12_keep_112 : decode cX12_keep 112 = .ok (.iconst 4, 1) := by decide +kernel
theorem dX12_keep_113 : decode cX12_keep 113 = .ok (.if_icmp .ne 16, 3) := by decide +kernel
theorem dX12_keep_116 : decode cX12_keep 116 = .ok (.sipush 200, 3) := by decide +kernel
theorem dX12_keep_119 : decode cX12_keep 119 = .ok (.aload_n 0, 1) := by decide +kernel
theorem dX12_keep_120 : decode cX12_keep 120 = .ok (.iload_n 3, 1) := by decide +kernel
theorem dX12_keep_121 : decode cX12_keep 121 = .ok (.iconst 1, 1) := by decide +kernel
theorem dX12_keep_122 : decode cX12_keep 122 = .ok (.invokevirtual 98, 3) := by decide +kernel
theorem dX12_keep_125 : decode cX12_keep 125 = .ok (.iadd, 1) := by decide +kernel
theorem dX12_keep_126 : decode cX12_keep 126 = .ok (.goto 4, 3) := by decide +kernel
theorem dX12_keep_129 : decode cX12_keep 129 = .ok (.iload_n 3, 1) := by decide +kernel
theorem dX12_keep_130 : decode cX12_keep 130 = .ok (.iastore, 1) := by decide +kernel
theorem dX12_keep_131 : decode cX12_keep 131 = .ok (.iconst 0, 1) := by decide +kernel
theorem dX12_keep_132 : decode cX12_keep 132 = .ok (.ireturn, 1) := by decide +kernel
