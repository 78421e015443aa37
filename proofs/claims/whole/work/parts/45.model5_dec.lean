theorem dX12_voiceOf_0 : decode cX12_voiceOf 0 = .ok (.aload_n 0, 1) := by decide +kernel
theorem dX12_voiceOf_1 : decode cX12_voiceOf 1 = .ok (.iload_n 1, 1) := by decide +kernel
theorem dX12_voiceOf_2 : decode cX12_voiceOf 2 = .ok (.iconst 2, 1) := by decide +kernel
theorem dX12_voiceOf_3 : decode cX12_voiceOf 3 = .ok (.invokevirtual 98, 3) := by decide +kernel
theorem dX12_voiceOf_6 : decode cX12_voiceOf 6 = .ok (.istore_n 2, 1) := by decide +kernel
theorem dX12_voiceOf_7 : decode cX12_voiceOf 7 = .ok (.aload_n 0, 1) := by decide +kernel
theorem dX12_voiceOf_8 : decode cX12_voiceOf 8 = .ok (.iload_n 1, 1) := by decide +kernel
theorem dX12_voiceOf_9 : decode cX12_voiceOf 9 = .ok (.bipush 6, 2) := by decide +kernel
theorem dX12_voiceOf_11 : decode cX12_voiceOf 11 = .ok (.invokevirtual 98, 3) := by decide +kernel
theorem dX12_voiceOf_14 : decode cX12_voiceOf 14 = .ok (.invokestatic 283, 3) := by decide +kernel
theorem dX12_voiceOf_17 : decode cX12_voiceOf 17 = .ok (.istore_n 3, 1) := by decide +kernel
theorem dX12_voiceOf_18 : decode cX12_voiceOf 18 = .ok (.aload_n 0, 1) := by decide +kernel
theorem dX12_voiceOf_19 : decode cX12_voiceOf 19 = .ok (.iload_n 1, 1) := by decide +kernel
theorem dX12_voiceOf_20 : decode cX12_voiceOf 20 = .ok (.iconst 1, 1) := by decide +kernel
theorem dX12_voiceOf_21 : decode cX12_voiceOf 21 = .ok (.invokevirtual 98, 3) := by decide +kernel
theorem dX12_voiceOf_24 : decode cX12_voiceOf 24 = .ok (.istore 4, 2) := by decide +kernel
theorem dX12_voiceOf_26 : decode cX12_voiceOf 26 = .ok (.aload_n 0, 1) := by decide +kernel
theorem dX12_voiceOf_27 : decode cX12_voiceOf 27 = .ok (.iload_n 1, 1) := by decide +kernel
theorem dX12_voiceOf_28 : decode cX12_voiceOf 28 = .ok (.iconst 0, 1) := by decide +kernel
theorem dX12_voiceOf_29 : decode cX12_voiceOf 29 = .ok (.invokevirtual 98, 3) := by decide +kernel
theorem dX12_voiceOf_32 : decode cX12_voiceOf 32 = .ok (.tableswitch 86 1 7 #[44, 48, 53, 60, 66, 71, 75], 44) := by decide +kernel
theorem dX12_voiceOf_76 : decode cX12_voiceOf 76 = .ok (.iload_n 2, 1) := by decide +kernel
theorem dX12_voiceOf_77 : decode cX12_voiceOf 77 = .ok (.iload_n 3, 1) := by decide +kernel
theorem dX12_voiceOf_78 : decode cX12_voiceOf 78 = .ok (.iadd, 1) := by decide +kernel
theorem dX12_voiceOf_79 : decode cX12_voiceOf 79 = .ok (.ireturn, 1) := by decide +kernel
theorem dX12_voiceOf_80 : decode cX12_voiceOf 80 = .ok (.iload_n 2, 1) := by decide +kernel
theorem dX12_voiceOf_81 : decode cX12_voiceOf 81 = .ok (.iload 4, 2) := by decide +kernel
theorem dX12_voiceOf_83 : decode cX12_voiceOf 83 = .ok (.iadd, 1) := by decide +kernel
theorem dX12_voiceOf_84 : decode cX12_voiceOf 84 = .ok (.ireturn, 1) := by decide +kernel
theorem dX12_voiceOf_85 : decode cX12_voiceOf 85 = .ok (.iconst 2, 1) := by decide +kernel
theorem dX12_voiceOf_86 : decode cX12_voiceOf 86 = .ok (.iload_n 2, 1) := by decide +kernel
theorem dX12_voiceOf_87 : decode cX12_voiceOf 87 = .ok (.iload 4, 2) := by decide +kernel
theorem dX12_voiceOf_89 : decode cX12_voiceOf 89 = .ok (.iadd, 1) := by decide +kernel
theorem dX12_voiceOf_90 : decode cX12_voiceOf 90 = .ok (.imul, 1) := by decide +kernel
theorem dX12_voiceOf_91 : decode cX12_voiceOf 91 = .ok (.ireturn, 1) := by decide +kernel
theorem dX12_voiceOf_92 : decode cX12_voiceOf 92 = .ok (.iload_n 2, 1) := by decide +kernel
theorem dX12_voiceOf_93 : decode cX12_voiceOf 93 = .ok (.iload_n 3, 1) := by decide +kernel
theorem dX12_voiceOf_94 : decode cX12_voiceOf 94 = .ok (.iadd, 1) := by decide +kernel
theorem dX12_voiceOf_95 : decode cX12_voiceOf 95 = .ok (.iconst 5, 1) := by decide +kernel
theorem dX12_voiceOf_96 : decode cX12_voiceOf 96 = .ok (.iadd, 1) := by decide +kernel
theorem dX12_voiceOf_97 : decode cX12_voiceOf 97 = .ok (.ireturn, 1) := by decide +kernel
theorem dX12_voiceOf_98 : decode cX12_voiceOf 98 = .ok (.iload_n 2, 1) := by decide +kernel
theorem dX12_voiceOf_99 : decode cX12_voiceOf 99 = .ok (.bipush 10, 2) := by decide +kernel
theorem dX12_voiceOf_101 : decode cX12_voiceOf 101 = .ok (.iadd, 1) := by decide +kernel
theorem dX12_voiceOf_102 : decode cX12_voiceOf 102 = .ok (.ireturn, 1) := by decide +kernel
theorem dX12_voiceOf_103 : decode cX12_voiceOf 103 = .ok (.iload_n 2, 1) := by decide +kernel
theorem dX12_voiceOf_104 : decode cX12_voiceOf 104 = .ok (.iconst 1, 1) := by decide +kernel
theorem dX12_voiceOf_105 : decode cX12_voiceOf 105 = .ok (.isub, 1) := by decide +kernel
theorem dX12_voiceOf_106 : decode cX12_voiceOf 106 = .ok (.ireturn, 1) := by decide +kernel
theorem dX12_voiceOf_107 : decode cX12_voiceOf 107 = .ok (.iload_n 2, 1) := by decide +kernel
theorem dX12_voiceOf_108 : decode cX12_voiceOf 108 = .ok (.iconst 1, 1) := by decide +kernel
theorem dX12_voiceOf_109 : decode cX12_voiceOf 109 = .ok (.isub, 1) := by decide +kernel
theorem dX12_voiceOf_110 : decode cX12_voiceOf 110 = .ok (.aload_n 0, 1) := by decide +kernel
theorem dX12_voiceOf_111 : decode cX12_voiceOf 111 = .ok (.iload_n 1, 1) := by decide +kernel
theorem dX12_voiceOf_112 : decode cX12_voiceOf 112 = .ok (.iconst 4, 1) := by decide +kernel
theorem dX12_voiceOf_113 : decode cX12_voiceOf 113 = .ok (.invokevirtual 98, 3) := by decide +kernel
theorem dX12_voiceOf_116 : decode cX12_voiceOf 116 = .ok (.iadd, 1) := by decide +kernel
theorem dX12_voiceOf_117 : decode cX12_voiceOf 117 = .ok (.ireturn, 1) := by decide +kernel
theorem dX12_voiceOf_118 : decode cX12_voiceOf 118 = .ok (.iload_n 2, 1) := by decide +kernel
theorem dX12_voiceOf_119 : decode cX12_voiceOf 119 = .ok (.ireturn, 1) := by decide +kernel
theorem dX12_keep_0 : decode cX12_keep 0 = .ok (.iload_n 1, 1) := by decide +kernel
theorem dX12_keep_1 : decode cX12_keep 1 = .ok (.invokestatic 146, 3) := by decide +kernel
theorem dX12_keep_4 : decode cX12_keep 4 = .ok (.ifCond .eq 26, 3) := by decide +kernel
theorem dX12_keep_7 : decode cX12_keep 7 = .ok (.iload_n 2, 1) := by decide +kernel
theorem dX12_keep_8 : decode cX12_keep 8 = .ok (.i2l, 1) := by decide +kernel
theorem dX12_keep_9 : decode cX12_keep 9 = .ok (.lconst 0, 1) := by decide +kernel
theorem dX12_keep_10 : decode cX12_keep 10 = .ok (.lconst 1, 1) := by decide +kernel
theorem dX12_keep_11 : decode cX12_keep 11 = .ok (.invokestatic 62, 3) := by decide +kernel
theorem dX12_keep_14 : decode cX12_keep 14 = .ok (.ifCond .eq 16, 3) := by decide +kernel
theorem dX12_keep_17 : decode cX12_keep 17 = .ok (.iload_n 2, 1) := by decide +kernel
theorem dX12_keep_18 : decode cX12_keep 18 = .ok (.iconst 1, 1) := by decide +kernel
theorem dX12_keep_19 : decode cX12_keep 19 = .ok (.if_icmp .ne 13, 3) := by decide +kernel
theorem dX12_keep_22 : decode cX12_keep 22 = .ok (.aload_n 0, 1) := by decide +kernel
theorem dX12_keep_23 : decode cX12_keep 23 = .ok (.iload_n 3, 1) := by decide +kernel
theorem dX12_keep_24 : decode cX12_keep 24 = .ok (.invokevirtual 84, 3) := by decide +kernel
theorem dX12_keep_27 : decode cX12_keep 27 = .ok (.ifCond .ne 5, 3) := by decide +kernel
theorem dX12_keep_30 : decode cX12_keep 30 = .ok (.iconst (-1), 1) := by decide +kernel
theorem dX12_keep_31 : decode cX12_keep 31 = .ok (.ireturn, 1) := by decide +kernel
theorem dX12_keep_32 : decode cX12_keep 32 = .ok (.aload_n 0, 1) := by decide +kernel
theorem dX12_keep_33 : decode cX12_keep 33 = .ok (.getfield 31, 3) := by decide +kernel
theorem dX12_keep_36 : decode cX12_keep 36 = .ok (.iload_n 1, 1) := by decide +kernel
theorem dX12_keep_37 : decode cX12_keep 37 = .ok (.iload_n 2, 1) := by decide +kernel
theorem dX12_keep_38 : decode cX12_keep 38 = .ok (.iastore, 1) := by decide +kernel
theorem dX12_keep_39 : decode cX12_keep 39 = .ok (.iload_n 2, 1) := by decide +kernel
theorem dX12_keep_40 : decode cX12_keep 40 = .ok (.ifCond .ne 5, 3) := by decide +kernel
theorem dX12_keep_43 : decode cX12_keep 43 = .ok (.iconst 0, 1) := by decide +kernel
theorem dX12_keep_44 : decode cX12_keep 44 = .ok (.ireturn, 1) := by decide +kernel
theorem dX12_keep_45 : decode cX12_keep 45 = .ok (.aload_n 0, 1) := by decide +kernel
theorem dX12_keep_46 : decode cX12_keep 46 = .ok (.iload_n 3, 1) := by decide +kernel
theorem dX12_keep_47 : decode cX12_keep 47 = .ok (.iconst 0, 1) := by decide +kernel
theorem dX12_keep_48 : decode cX12_keep 48 = .ok (.invokevirtual 98, 3) := by decide +kernel
theorem dX12_keep_51 : decode cX12_keep 51 = .ok (.istore 4, 2) := by decide +kernel
theorem dX12_keep_53 : decode cX12_keep 53 = .ok (.aload_n 0, 1) := by decide +kernel
theorem dX12_keep_54 : decode cX12_keep 54 = .ok (.getfield 43, 3) := by decide +kernel
theorem dX12_keep_57 : decode cX12_keep 57 = .ok (.iload_n 1, 1) := by decide +kernel
theorem dX12_keep_58 : decode cX12_keep 58 = .ok (.aload_n 0, 1) := by decide +kernel
theorem dX12_keep_59 : decode cX12_keep 59 = .ok (.iload_n 3, 1) := by decide +kernel
theorem dX12_keep_60 : decode cX12_keep 60 = .ok (.invokevirtual 298, 3) := by decide +kernel
theorem dX12_keep_63 : decode cX12_keep 63 = .ok (.iastore, 1) := by decide +kernel
theorem dX12_keep_64 : decode cX12_keep 64 = .ok (.aload_n 0, 1) := by decide +kernel
theorem dX12_keep_65 : decode cX12_keep 65 = .ok (.getfield 46, 3) := by decide +kernel
theorem dX12_keep_68 : decode cX12_keep 68 = .ok (.iload_n 1, 1) := by decide +kernel
theorem dX12_keep_69 : decode cX12_keep 69 = .ok (.iload 4, 2) := by decide +kernel
theorem dX12_keep_71 : decode cX12_keep 71 = .ok (.bipush 6, 2) := by decide +kernel
theorem dX12_keep_73 : decode cX12_keep 73 = .ok (.if_icmp .eq 19, 3) := by decide +kernel
theorem dX12_keep_76 : decode cX12_keep 76 = .ok (.iload 4, 2) := by decide +kernel
theorem dX12_keep_78 : decode cX12_keep 78 = .ok (.bipush 7, 2) := by decide +kernel
theorem dX12_keep_80 : decode cX12_keep 80 = .ok (.if_icmp .eq 12, 3) := by decide +kernel
theorem dX12_keep_83 : decode cX12_keep 83 = .ok (.aload_n 0, 1) := by decide +kernel
theorem dX12_keep_84 : decode cX12_keep 84 = .ok (.iload_n 3, 1) := by decide +kernel
theorem dX12_keep_85 : decode cX12_keep 85 = .ok (.iconst 1, 1) := by decide +kernel
theorem dX12_keep_86 : decode cX12_keep 86 = .ok (.invokevirtual 98, 3) := by decide +kernel
theorem dX12_keep_89 : decode cX12_keep 89 = .ok (.ifCond .ne 8, 3) := by decide +kernel
theorem dX12_keep_92 : decode cX12_keep 92 = .ok (.bipush (-15), 2) := by decide +kernel
theorem dX12_keep_94 : decode cX12_keep 94 = .ok (.goto 36, 3) := by decide +kernel
theorem dX12_keep_97 : decode cX12_keep 97 = .ok (.iload 4, 2) := by decide +kernel
theorem dX12_keep_99 : decode cX12_keep 99 = .ok (.iconst 3, 1) := by decide +kernel
theorem dX12_keep_100 : decode cX12_keep 100 = .ok (.if_icmp .ne 10, 3) := by decide +kernel
theorem dX12_keep_103 : decode cX12_keep 103 = .ok (.bipush 100, 2) := by decide +kernel
theorem dX12_keep_105 : decode cX12_keep 105 = .ok (.iload_n 3, 1) := by decide +kernel
theorem dX12_keep_106 : decode cX12_keep 106 = .ok (.iadd, 1) := by decide +kernel
theorem dX12_keep_107 : decode cX12_keep 107 = .ok (.goto 23, 3) := by decide +kernel
theorem dX12_keep_110 : decode cX12_keep 110 = .ok (.iload 4, 2) := by decide +kernel
theorem dX12_keep_112 : decode cX12_keep 112 = .ok (.iconst 4, 1) := by decide +kernel
theorem dX12_keep_113 : decode cX12_keep 113 = .ok (.if_icmp .ne 16, 3) := by decide +kernel
theorem dX12_keep_116 : decode cX12_keep 116 = .ok (.sipush 200, 3) := by decide +kernel
theorem dX12_keep_119 : decode cX12_keep 119 = .ok (.aload_n 0, 1) := by decide +kernel
theorem dX12_keep_120 : decode cX12_keep 120 = .ok (.iload_n 3, 1) := by decide +kernel
theorem dX12_keep_121 : decode cX12_keep 121 = .ok (.iconst 1, 1) := by decide +kernel
theorem dX12_keep_122 : decode cX12_keep 122 = .ok (.invokevirtual 98, 3) := by decide +kernel
theorem dX12_keep_125 : decode cX12_keep 125 = .ok (.iadd, 1) := by decide +kernel
theorem dX12_keep_126 : decode cX12_keep 126 = .ok (.goto 4, 3) := by decide +kernel
theorem dX12_keep_129 : decode cX12_keep 129 = .ok (.iload_n 3, 1) := by decide +kernel
theorem dX12_keep_130 : decode cX12_keep 130 = .ok (.iastore, 1) := by decide +kernel
theorem dX12_keep_131 : decode cX12_keep 131 = .ok (.iconst 0, 1) := by decide +kernel
theorem dX12_keep_132 : decode cX12_keep 132 = .ok (.ireturn, 1) := by decide +kernel
theorem dX12_row_0 : decode cX12_row 0 = .ok (.iload_n 1, 1) := by decide +kernel
theorem dX12_row_1 : decode cX12_row 1 = .ok (.invokestatic 146, 3) := by decide +kernel
theorem dX12_row_4 : decode cX12_row 4 = .ok (.ifCond .eq 21, 3) := by decide +kernel
theorem dX12_row_7 : decode cX12_row 7 = .ok (.iload_n 2, 1) := by decide +kernel
theorem dX12_row_8 : decode cX12_row 8 = .ok (.i2l, 1) := by decide +kernel
theorem dX12_row_9 : decode cX12_row 9 = .ok (.lconst 0, 1) := by decide +kernel
theorem dX12_row_10 : decode cX12_row 10 = .ok (.ldc2_w 281, 3) := by decide +kernel
theorem dX12_row_13 : decode cX12_row 13 = .ok (.invokestatic 62, 3) := by decide +kernel
theorem dX12_row_16 : decode cX12_row 16 = .ok (.ifCond .eq 9, 3) := by decide +kernel
theorem dX12_row_19 : decode cX12_row 19 = .ok (.iload_n 3, 1) := by decide +kernel
theorem dX12_row_20 : decode cX12_row 20 = .ok (.bipush 100, 2) := by decide +kernel
theorem dX12_row_22 : decode cX12_row 22 = .ok (.if_icmp .le 5, 3) := by decide +kernel
theorem dX12_row_25 : decode cX12_row 25 = .ok (.iconst (-1), 1) := by decide +kernel
theorem dX12_row_26 : decode cX12_row 26 = .ok (.ireturn, 1) := by decide +kernel
theorem dX12_row_27 : decode cX12_row 27 = .ok (.iload_n 3, 1) := by decide +kernel
theorem dX12_row_28 : decode cX12_row 28 = .ok (.ifCond .ge 6, 3) := by decide +kernel
theorem dX12_row_31 : decode cX12_row 31 = .ok (.bipush (-14), 2) := by decide +kernel
theorem dX12_row_33 : decode cX12_row 33 = .ok (.ireturn, 1) := by decide +kernel
theorem dX12_row_34 : decode cX12_row 34 = .ok (.aload_n 0, 1) := by decide +kernel
theorem dX12_row_35 : decode cX12_row 35 = .ok (.getfield 31, 3) := by decide +kernel
theorem dX12_row_38 : decode cX12_row 38 = .ok (.iload_n 1, 1) := by decide +kernel
theorem dX12_row_39 : decode cX12_row 39 = .ok (.iconst 2, 1) := by decide +kernel
theorem dX12_row_40 : decode cX12_row 40 = .ok (.iastore, 1) := by decide +kernel
theorem dX12_row_41 : decode cX12_row 41 = .ok (.aload_n 0, 1) := by decide +kernel
theorem dX12_row_42 : decode cX12_row 42 = .ok (.getfield 34, 3) := by decide +kernel
theorem dX12_row_45 : decode cX12_row 45 = .ok (.iload_n 1, 1) := by decide +kernel
theorem dX12_row_46 : decode cX12_row 46 = .ok (.iload_n 2, 1) := by decide +kernel
theorem dX12_row_47 : decode cX12_row 47 = .ok (.iastore, 1) := by decide +kernel
theorem dX12_row_48 : decode cX12_row 48 = .ok (.aload_n 0, 1) := by decide +kernel
theorem dX12_row_49 : decode cX12_row 49 = .ok (.getfield 37, 3) := by decide +kernel
theorem dX12_row_52 : decode cX12_row 52 = .ok (.iload_n 1, 1) := by decide +kernel
theorem dX12_row_53 : decode cX12_row 53 = .ok (.iload_n 3, 1) := by decide +kernel
theorem dX12_row_54 : decode cX12_row 54 = .ok (.iastore, 1) := by decide +kernel
theorem dX12_row_55 : decode cX12_row 55 = .ok (.iconst 0, 1) := by decide +kernel
theorem dX12_row_56 : decode cX12_row 56 = .ok (.istore 4, 2) := by decide +kernel
theorem dX12_row_58 : decode cX12_row 58 = .ok (.iload 4, 2) := by decide +kernel
theorem dX12_row_60 : decode cX12_row 60 = .ok (.bipush 100, 2) := by decide +kernel
theorem dX12_row_62 : decode cX12_row 62 = .ok (.if_icmp .ge 22, 3) := by decide +kernel
theorem dX12_row_65 : decode cX12_row 65 = .ok (.aload_n 0, 1) := by decide +kernel
theorem dX12_row_66 : decode cX12_row 66 = .ok (.getfield 40, 3) := by decide +kernel
theorem dX12_row_69 : decode cX12_row 69 = .ok (.bipush 100, 2) := by decide +kernel
theorem dX12_row_71 : decode cX12_row 71 = .ok (.iload_n 1, 1) := by decide +kernel
theorem dX12_row_72 : decode cX12_row 72 = .ok (.imul, 1) := by decide +kernel
theorem dX12_row_73 : decode cX12_row 73 = .ok (.iload 4, 2) := by decide +kernel
theorem dX12_row_75 : decode cX12_row 75 = .ok (.iadd, 1) := by decide +kernel
theorem dX12_row_76 : decode cX12_row 76 = .ok (.iconst 0, 1) := by decide +kernel
theorem dX12_row_77 : decode cX12_row 77 = .ok (.iastore, 1) := by decide +kernel
theorem dX12_row_78 : decode cX12_row 78 = .ok (.iinc 4 1, 3) := by decide +kernel
theorem dX12_row_81 : decode cX12_row 81 = .ok (.goto (-23), 3) := by decide +kernel
theorem dX12_row_84 : decode cX12_row 84 = .ok (.iconst 0, 1) := by decide +kernel
theorem dX12_row_85 : decode cX12_row 85 = .ok (.ireturn, 1) := by decide +kernel
theorem dX12_put_0 : decode cX12_put 0 = .ok (.aload_n 0, 1) := by decide +kernel
theorem dX12_put_1 : decode cX12_put 1 = .ok (.iload_n 1, 1) := by decide +kernel
theorem dX12_put_2 : decode cX12_put 2 = .ok (.iconst (-1), 1) := by decide +kernel
theorem dX12_put_3 : decode cX12_put 3 = .ok (.invokevirtual 149, 3) := by decide +kernel
theorem dX12_put_6 : decode cX12_put 6 = .ok (.istore 4, 2) := by decide +kernel
theorem dX12_put_8 : decode cX12_put 8 = .ok (.iload 4, 2) := by decide +kernel
theorem dX12_put_10 : decode cX12_put 10 = .ok (.ifCond .eq 6, 3) := by decide +kernel
theorem dX12_put_13 : decode cX12_put 13 = .ok (.iload 4, 2) := by decide +kernel
theorem dX12_put_15 : decode cX12_put 15 = .ok (.ireturn, 1) := by decide +kernel
theorem dX12_put_16 : decode cX12_put 16 = .ok (.iload_n 2, 1) := by decide +kernel
theorem dX12_put_17 : decode cX12_put 17 = .ok (.i2l, 1) := by decide +kernel
theorem dX12_put_18 : decode cX12_put 18 = .ok (.lconst 0, 1) := by decide +kernel
theorem dX12_put_19 : decode cX12_put 19 = .ok (.aload_n 0, 1) := by decide +kernel
theorem dX12_put_20 : decode cX12_put 20 = .ok (.getfield 37, 3) := by decide +kernel
theorem dX12_put_23 : decode cX12_put 23 = .ok (.iload_n 1, 1) := by decide +kernel
theorem dX12_put_24 : decode cX12_put 24 = .ok (.iaload, 1) := by decide +kernel
theorem dX12_put_25 : decode cX12_put 25 = .ok (.iconst 1, 1) := by decide +kernel
theorem dX12_put_26 : decode cX12_put 26 = .ok (.isub, 1) := by decide +kernel
theorem dX12_put_27 : decode cX12_put 27 = .ok (.i2l, 1) := by decide +kernel
theorem dX12_put_28 : decode cX12_put 28 = .ok (.invokestatic 62, 3) := by decide +kernel
theorem dX12_put_31 : decode cX12_put 31 = .ok (.ifCond .ne 6, 3) := by decide +kernel
theorem dX12_put_34 : decode cX12_put 34 = .ok (.bipush (-13), 2) := by decide +kernel
theorem dX12_put_36 : decode cX12_put 36 = .ok (.ireturn, 1) := by decide +kernel
theorem dX12_put_37 : decode cX12_put 37 = .ok (.aload_n 0, 1) := by decide +kernel
theorem dX12_put_38 : decode cX12_put 38 = .ok (.getfield 40, 3) := by decide +kernel
theorem dX12_put_41 : decode cX12_put 41 = .ok (.bipush 100, 2) := by decide +kernel
theorem dX12_put_43 : decode cX12_put 43 = .ok (.iload_n 1, 1) := by decide +kernel
theorem dX12_put_44 : decode cX12_put 44 = .ok (.imul, 1) := by decide +kernel
theorem dX12_put_45 : decode cX12_put 45 = .ok (.iload_n 2, 1) := by decide +kernel
theorem dX12_put_46 : decode cX12_put 46 = .ok (.iadd, 1) := by decide +kernel
theorem dX12_put_47 : decode cX12_put 47 = .ok (.aload_n 0, 1) := by decide +kernel
theorem dX12_put_48 : decode cX12_put 48 = .ok (.getfield 34, 3) := by decide +kernel
theorem dX12_put_51 : decode cX12_put 51 = .ok (.iload_n 1, 1) := by decide +kernel
theorem dX12_put_52 : decode cX12_put 52 = .ok (.iaload, 1) := by decide +kernel
theorem dX12_put_53 : decode cX12_put 53 = .ok (.ifCond .ne 8, 3) := by decide +kernel
theorem dX12_put_56 : decode cX12_put 56 = .ok (.iload_n 3, 1) := by decide +kernel
theorem dX12_put_57 : decode cX12_put 57 = .ok (.i2b, 1) := by decide +kernel
theorem dX12_put_58 : decode cX12_put 58 = .ok (.goto 19, 3) := by decide +kernel
theorem dX12_put_61 : decode cX12_put 61 = .ok (.aload_n 0, 1) := by decide +kernel
theorem dX12_put_62 : decode cX12_put 62 = .ok (.getfield 34, 3) := by decide +kernel
theorem dX12_put_65 : decode cX12_put 65 = .ok (.iload_n 1, 1) := by decide +kernel
theorem dX12_put_66 : decode cX12_put 66 = .ok (.iaload, 1) := by decide +kernel
theorem dX12_put_67 : decode cX12_put 67 = .ok (.iconst 1, 1) := by decide +kernel
theorem dX12_put_68 : decode cX12_put 68 = .ok (.if_icmp .ne 8, 3) := by decide +kernel
theorem dX12_put_71 : decode cX12_put 71 = .ok (.iload_n 3, 1) := by decide +kernel
theorem dX12_put_72 : decode cX12_put 72 = .ok (.i2s, 1) := by decide +kernel
theorem dX12_put_73 : decode cX12_put 73 = .ok (.goto 4, 3) := by decide +kernel
theorem dX12_put_76 : decode cX12_put 76 = .ok (.iload_n 3, 1) := by decide +kernel
theorem dX12_put_77 : decode cX12_put 77 = .ok (.iastore, 1) := by decide +kernel
theorem dX12_put_78 : decode cX12_put 78 = .ok (.iconst 0, 1) := by decide +kernel
theorem dX12_put_79 : decode cX12_put 79 = .ok (.ireturn, 1) := by decide +kernel
