theorem dX12_runWithout_0 : decode cX12_runWithout 0 = .ok (.iconst 0, 1) := by decide +kernel
theorem dX12_runWithout_1 : decode cX12_runWithout 1 = .ok (.istore_n 2, 1) := by decide +kernel
theorem dX12_runWithout_2 : decode cX12_runWithout 2 = .ok (.iconst 0, 1) := by decide +kernel
theorem dX12_runWithout_3 : decode cX12_runWithout 3 = .ok (.istore_n 3, 1) := by decide +kernel
theorem dX12_runWithout_4 : decode cX12_runWithout 4 = .ok (.iconst 0, 1) := by decide +kernel
theorem dX12_runWithout_5 : decode cX12_runWithout 5 = .ok (.istore 4, 2) := by decide +kernel
theorem dX12_runWithout_7 : decode cX12_runWithout 7 = .ok (.iload 4, 2) := by decide +kernel
theorem dX12_runWithout_9 : decode cX12_runWithout 9 = .ok (.aload_n 0, 1) := by decide +kernel
theorem dX12_runWithout_10 : decode cX12_runWithout 10 = .ok (.getfield 9, 3) := by decide +kernel
theorem dX12_runWithout_13 : decode cX12_runWithout 13 = .ok (.iconst 1, 1) := by decide +kernel
theorem dX12_runWithout_14 : decode cX12_runWithout 14 = .ok (.iaload, 1) := by decide +kernel
theorem dX12_runWithout_15 : decode cX12_runWithout 15 = .ok (.if_icmp .ge 70, 3) := by decide +kernel
theorem dX12_runWithout_18 : decode cX12_runWithout 18 = .ok (.iload_n 1, 1) := by decide +kernel
theorem dX12_runWithout_19 : decode cX12_runWithout 19 = .ok (.iload 4, 2) := by decide +kernel
theorem dX12_runWithout_21 : decode cX12_runWithout 21 = .ok (.ishr, 1) := by decide +kernel
theorem dX12_runWithout_22 : decode cX12_runWithout 22 = .ok (.iconst 1, 1) := by decide +kernel
theorem dX12_runWithout_23 : decode cX12_runWithout 23 = .ok (.iand, 1) := by decide +kernel
theorem dX12_runWithout_24 : decode cX12_runWithout 24 = .ok (.iconst 1, 1) := by decide +kernel
theorem dX12_runWithout_25 : decode cX12_runWithout 25 = .ok (.if_icmp .ne 6, 3) := by decide +kernel
theorem dX12_runWithout_28 : decode cX12_runWithout 28 = .ok (.goto 51, 3) := by decide +kernel
theorem dX12_runWithout_31 : decode cX12_runWithout 31 = .ok (.iload 4, 2) := by decide +kernel
theorem dX12_runWithout_33 : decode cX12_runWithout 33 = .ok (.aload_n 0, 1) := by decide +kernel
theorem dX12_runWithout_34 : decode cX12_runWithout 34 = .ok (.aload_n 0, 1) := by decide +kernel
theorem dX12_runWithout_35 : decode cX12_runWithout 35 = .ok (.getfield 9, 3) := by decide +kernel
theorem dX12_runWithout_38 : decode cX12_runWithout 38 = .ok (.iconst 1, 1) := by decide +kernel
theorem dX12_runWithout_39 : decode cX12_runWithout 39 = .ok (.iaload, 1) := by decide +kernel
theorem dX12_runWithout_40 : decode cX12_runWithout 40 = .ok (.invokevirtual 238, 3) := by decide +kernel
theorem dX12_runWithout_43 : decode cX12_runWithout 43 = .ok (.if_icmp .ne 5, 3) := by decide +kernel
theorem dX12_runWithout_46 : decode cX12_runWithout 46 = .ok (.iload_n 2, 1) := by decide +kernel
theorem dX12_runWithout_47 : decode cX12_runWithout 47 = .ok (.istore_n 3, 1) := by decide +kernel
theorem dX12_runWithout_48 : decode cX12_runWithout 48 = .ok (.aload_n 0, 1) := by decide +kernel
theorem dX12_runWithout_49 : decode cX12_runWithout 49 = .ok (.getfield 25, 3) := by decide +kernel
theorem dX12_runWithout_52 : decode cX12_runWithout 52 = .ok (.bipush 7, 2) := by decide +kernel
theorem dX12_runWithout_54 : decode cX12_runWithout 54 = .ok (.iload_n 2, 1) := by decide +kernel
theorem dX12_runWithout_55 : decode cX12_runWithout 55 = .ok (.iadd, 1) := by decide +kernel
theorem dX12_runWithout_56 : decode cX12_runWithout 56 = .ok (.iload 4, 2) := by decide +kernel
theorem dX12_runWithout_58 : decode cX12_runWithout 58 = .ok (.iastore, 1) := by decide +kernel
theorem dX12_runWithout_59 : decode cX12_runWithout 59 = .ok (.aload_n 0, 1) := by decide +kernel
theorem dX12_runWithout_60 : decode cX12_runWithout 60 = .ok (.getfield 25, 3) := by decide +kernel
theorem dX12_runWithout_63 : decode cX12_runWithout 63 = .ok (.bipush 19, 2) := by decide +kernel
theorem dX12_runWithout_65 : decode cX12_runWithout 65 = .ok (.iload_n 2, 1) := by decide +kernel
theorem dX12_runWithout_66 : decode cX12_runWithout 66 = .ok (.iadd, 1) := by decide +kernel
theorem dX12_runWithout_67 : decode cX12_runWithout 67 = .ok (.aload_n 0, 1) := by decide +kernel
theorem dX12_runWithout_68 : decode cX12_runWithout 68 = .ok (.iload 4, 2) := by decide +kernel
theorem dX12_runWithout_70 : decode cX12_runWithout 70 = .ok (.bipush 6, 2) := by decide +kernel
theorem dX12_runWithout_72 : decode cX12_runWithout 72 = .ok (.invokevirtual 98, 3) := by decide +kernel
theorem dX12_runWithout_75 : decode cX12_runWithout 75 = .ok (.iastore, 1) := by decide +kernel
theorem dX12_runWithout_76 : decode cX12_runWithout 76 = .ok (.iinc 2 1, 3) := by decide +kernel
theorem dX12_runWithout_79 : decode cX12_runWithout 79 = .ok (.iinc 4 1, 3) := by decide +kernel
theorem dX12_runWithout_82 : decode cX12_runWithout 82 = .ok (.goto (-75), 3) := by decide +kernel
theorem dX12_runWithout_85 : decode cX12_runWithout 85 = .ok (.aload_n 0, 1) := by decide +kernel
theorem dX12_runWithout_86 : decode cX12_runWithout 86 = .ok (.getfield 25, 3) := by decide +kernel
theorem dX12_runWithout_89 : decode cX12_runWithout 89 = .ok (.iconst 5, 1) := by decide +kernel
theorem dX12_runWithout_90 : decode cX12_runWithout 90 = .ok (.iload_n 2, 1) := by decide +kernel
theorem dX12_runWithout_91 : decode cX12_runWithout 91 = .ok (.iastore, 1) := by decide +kernel
theorem dX12_runWithout_92 : decode cX12_runWithout 92 = .ok (.aload_n 0, 1) := by decide +kernel
theorem dX12_runWithout_93 : decode cX12_runWithout 93 = .ok (.invokevirtual 247, 3) := by decide +kernel
theorem dX12_runWithout_96 : decode cX12_runWithout 96 = .ok (.iload_n 1, 1) := by decide +kernel
theorem dX12_runWithout_97 : decode cX12_runWithout 97 = .ok (.invokestatic 283, 3) := by decide +kernel
theorem dX12_runWithout_100 : decode cX12_runWithout 100 = .ok (.isub, 1) := by decide +kernel
theorem dX12_runWithout_101 : decode cX12_runWithout 101 = .ok (.istore 4, 2) := by decide +kernel
theorem dX12_runWithout_103 : decode cX12_runWithout 103 = .ok (.aload_n 0, 1) := by decide +kernel
theorem dX12_runWithout_104 : decode cX12_runWithout 104 = .ok (.iload_n 3, 1) := by decide +kernel
theorem dX12_runWithout_105 : decode cX12_runWithout 105 = .ok (.iload 4, 2) := by decide +kernel
theorem dX12_runWithout_107 : decode cX12_runWithout 107 = .ok (.iconst 1, 1) := by decide +kernel
theorem dX12_runWithout_108 : decode cX12_runWithout 108 = .ok (.if_icmp .ge 7, 3) := by decide +kernel
theorem dX12_runWithout_111 : decode cX12_runWithout 111 = .ok (.iconst 1, 1) := by decide +kernel
theorem dX12_runWithout_112 : decode cX12_runWithout 112 = .ok (.goto 5, 3) := by decide +kernel
theorem dX12_runWithout_115 : decode cX12_runWithout 115 = .ok (.iload 4, 2) := by decide +kernel
theorem dX12_runWithout_117 : decode cX12_runWithout 117 = .ok (.aload_n 0, 1) := by decide +kernel
theorem dX12_runWithout_118 : decode cX12_runWithout 118 = .ok (.getfield 9, 3) := by decide +kernel
theorem dX12_runWithout_121 : decode cX12_runWithout 121 = .ok (.iconst 5, 1) := by decide +kernel
theorem dX12_runWithout_122 : decode cX12_runWithout 122 = .ok (.iaload, 1) := by decide +kernel
theorem dX12_runWithout_123 : decode cX12_runWithout 123 = .ok (.iconst 1, 1) := by decide +kernel
theorem dX12_runWithout_124 : decode cX12_runWithout 124 = .ok (.if_icmp .ne 7, 3) := by decide +kernel
theorem dX12_runWithout_127 : decode cX12_runWithout 127 = .ok (.iconst 1, 1) := by decide +kernel
theorem dX12_runWithout_128 : decode cX12_runWithout 128 = .ok (.goto 4, 3) := by decide +kernel
theorem dX12_runWithout_131 : decode cX12_runWithout 131 = .ok (.iconst 0, 1) := by decide +kernel
theorem dX12_runWithout_132 : decode cX12_runWithout 132 = .ok (.invokevirtual 269, 3) := by decide +kernel
theorem dX12_runWithout_135 : decode cX12_runWithout 135 = .ok (.ireturn, 1) := by decide +kernel
theorem dX12_leftOut_0 : decode cX12_leftOut 0 = .ok (.iload_n 1, 1) := by decide +kernel
theorem dX12_leftOut_1 : decode cX12_leftOut 1 = .ok (.i2l, 1) := by decide +kernel
theorem dX12_leftOut_2 : decode cX12_leftOut 2 = .ok (.lconst 0, 1) := by decide +kernel
theorem dX12_leftOut_3 : decode cX12_leftOut 3 = .ok (.ldc2_w 281, 3) := by decide +kernel
theorem dX12_leftOut_6 : decode cX12_leftOut 6 = .ok (.invokestatic 62, 3) := by decide +kernel
theorem dX12_leftOut_9 : decode cX12_leftOut 9 = .ok (.ifCond .ne 5, 3) := by decide +kernel
theorem dX12_leftOut_12 : decode cX12_leftOut 12 = .ok (.iconst (-1), 1) := by decide +kernel
theorem dX12_leftOut_13 : decode cX12_leftOut 13 = .ok (.ireturn, 1) := by decide +kernel
theorem dX12_leftOut_14 : decode cX12_leftOut 14 = .ok (.aload_n 0, 1) := by decide +kernel
theorem dX12_leftOut_15 : decode cX12_leftOut 15 = .ok (.getfield 9, 3) := by decide +kernel
theorem dX12_leftOut_18 : decode cX12_leftOut 18 = .ok (.iconst 1, 1) := by decide +kernel
theorem dX12_leftOut_19 : decode cX12_leftOut 19 = .ok (.iaload, 1) := by decide +kernel
theorem dX12_leftOut_20 : decode cX12_leftOut 20 = .ok (.ifCond .ne 6, 3) := by decide +kernel
theorem dX12_leftOut_23 : decode cX12_leftOut 23 = .ok (.bipush (-3), 2) := by decide +kernel
theorem dX12_leftOut_25 : decode cX12_leftOut 25 = .ok (.ireturn, 1) := by decide +kernel
theorem dX12_leftOut_26 : decode cX12_leftOut 26 = .ok (.iconst 0, 1) := by decide +kernel
theorem dX12_leftOut_27 : decode cX12_leftOut 27 = .ok (.istore_n 2, 1) := by decide +kernel
theorem dX12_leftOut_28 : decode cX12_leftOut 28 = .ok (.iload_n 2, 1) := by decide +kernel
theorem dX12_leftOut_29 : decode cX12_leftOut 29 = .ok (.iconst 4, 1) := by decide +kernel
theorem dX12_leftOut_30 : decode cX12_leftOut 30 = .ok (.if_icmp .ge 58, 3) := by decide +kernel
theorem dX12_leftOut_33 : decode cX12_leftOut 33 = .ok (.iload_n 2, 1) := by decide +kernel
theorem dX12_leftOut_34 : decode cX12_leftOut 34 = .ok (.aload_n 0, 1) := by decide +kernel
theorem dX12_leftOut_35 : decode cX12_leftOut 35 = .ok (.getfield 9, 3) := by decide +kernel
theorem dX12_leftOut_38 : decode cX12_leftOut 38 = .ok (.iconst 1, 1) := by decide +kernel
theorem dX12_leftOut_39 : decode cX12_leftOut 39 = .ok (.iaload, 1) := by decide +kernel
theorem dX12_leftOut_40 : decode cX12_leftOut 40 = .ok (.if_icmp .ge 48, 3) := by decide +kernel
theorem dX12_leftOut_43 : decode cX12_leftOut 43 = .ok (.iconst 0, 1) := by decide +kernel
theorem dX12_leftOut_44 : decode cX12_leftOut 44 = .ok (.istore_n 3, 1) := by decide +kernel
theorem dX12_leftOut_45 : decode cX12_leftOut 45 = .ok (.iload_n 3, 1) := by decide +kernel
theorem dX12_leftOut_46 : decode cX12_leftOut 46 = .ok (.iconst 1, 1) := by decide +kernel
theorem dX12_leftOut_47 : decode cX12_leftOut 47 = .ok (.aload_n 0, 1) := by decide +kernel
theorem dX12_leftOut_48 : decode cX12_leftOut 48 = .ok (.getfield 9, 3) := by decide +kernel
theorem dX12_leftOut_51 : decode cX12_leftOut 51 = .ok (.iconst 1, 1) := by decide +kernel
theorem dX12_leftOut_52 : decode cX12_leftOut 52 = .ok (.iaload, 1) := by decide +kernel
theorem dX12_leftOut_53 : decode cX12_leftOut 53 = .ok (.ishl, 1) := by decide +kernel
theorem dX12_leftOut_54 : decode cX12_leftOut 54 = .ok (.if_icmp .ge 28, 3) := by decide +kernel
theorem dX12_leftOut_57 : decode cX12_leftOut 57 = .ok (.iload_n 3, 1) := by decide +kernel
theorem dX12_leftOut_58 : decode cX12_leftOut 58 = .ok (.invokestatic 283, 3) := by decide +kernel
theorem dX12_leftOut_61 : decode cX12_leftOut 61 = .ok (.iload_n 2, 1) := by decide +kernel
theorem dX12_leftOut_62 : decode cX12_leftOut 62 = .ok (.if_icmp .ne 14, 3) := by decide +kernel
theorem dX12_leftOut_65 : decode cX12_leftOut 65 = .ok (.aload_n 0, 1) := by decide +kernel
theorem dX12_leftOut_66 : decode cX12_leftOut 66 = .ok (.iload_n 3, 1) := by decide +kernel
theorem dX12_leftOut_67 : decode cX12_leftOut 67 = .ok (.invokevirtual 286, 3) := by decide +kernel
theorem dX12_leftOut_70 : decode cX12_leftOut 70 = .ok (.iload_n 1, 1) := by decide +kernel
theorem dX12_leftOut_71 : decode cX12_leftOut 71 = .ok (.if_icmp .ne 5, 3) := by decide +kernel
theorem dX12_leftOut_74 : decode cX12_leftOut 74 = .ok (.iload_n 3, 1) := by decide +kernel
theorem dX12_leftOut_75 : decode cX12_leftOut 75 = .ok (.ireturn, 1) := by decide +kernel
theorem dX12_leftOut_76 : decode cX12_leftOut 76 = .ok (.iinc 3 1, 3) := by decide +kernel
theorem dX12_leftOut_79 : decode cX12_leftOut 79 = .ok (.goto (-34), 3) := by decide +kernel
theorem dX12_leftOut_82 : decode cX12_leftOut 82 = .ok (.iinc 2 1, 3) := by decide +kernel
theorem dX12_leftOut_85 : decode cX12_leftOut 85 = .ok (.goto (-57), 3) := by decide +kernel
theorem dX12_leftOut_88 : decode cX12_leftOut 88 = .ok (.bipush (-4), 2) := by decide +kernel
theorem dX12_leftOut_90 : decode cX12_leftOut 90 = .ok (.ireturn, 1) := by decide +kernel
