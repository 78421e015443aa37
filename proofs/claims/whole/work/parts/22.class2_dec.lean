theorem dX11_juror_0 : decode cX11_juror 0 = .ok (.iload_n 1, 1) := by decide +kernel
theorem dX11_juror_1 : decode cX11_juror 1 = .ok (.invokestatic 41, 3) := by decide +kernel
theorem dX11_juror_4 : decode cX11_juror 4 = .ok (.ifCond .eq 26, 3) := by decide +kernel
theorem dX11_juror_7 : decode cX11_juror 7 = .ok (.iload_n 2, 1) := by decide +kernel
theorem dX11_juror_8 : decode cX11_juror 8 = .ok (.bipush (-99), 2) := by decide +kernel
theorem dX11_juror_10 : decode cX11_juror 10 = .ok (.if_icmp .lt 20, 3) := by decide +kernel
theorem dX11_juror_13 : decode cX11_juror 13 = .ok (.iload_n 2, 1) := by decide +kernel
theorem dX11_juror_14 : decode cX11_juror 14 = .ok (.bipush 99, 2) := by decide +kernel
theorem dX11_juror_16 : decode cX11_juror 16 = .ok (.if_icmp .gt 14, 3) := by decide +kernel
theorem dX11_juror_19 : decode cX11_juror 19 = .ok (.iload_n 3, 1) := by decide +kernel
theorem dX11_juror_20 : decode cX11_juror 20 = .ok (.ifCond .lt 10, 3) := by decide +kernel
theorem dX11_juror_23 : decode cX11_juror 23 = .ok (.iload_n 3, 1) := by decide +kernel
theorem dX11_juror_24 : decode cX11_juror 24 = .ok (.sipush 999, 3) := by decide +kernel
theorem dX11_juror_27 : decode cX11_juror 27 = .ok (.if_icmp .le 5, 3) := by decide +kernel
theorem dX11_juror_30 : decode cX11_juror 30 = .ok (.iconst (-1), 1) := by decide +kernel
theorem dX11_juror_31 : decode cX11_juror 31 = .ok (.ireturn, 1) := by decide +kernel
theorem dX11_juror_32 : decode cX11_juror 32 = .ok (.iload 4, 2) := by decide +kernel
theorem dX11_juror_34 : decode cX11_juror 34 = .ok (.iconst (-1), 1) := by decide +kernel
theorem dX11_juror_35 : decode cX11_juror 35 = .ok (.if_icmp .lt 15, 3) := by decide +kernel
theorem dX11_juror_38 : decode cX11_juror 38 = .ok (.iload 4, 2) := by decide +kernel
theorem dX11_juror_40 : decode cX11_juror 40 = .ok (.aload_n 0, 1) := by decide +kernel
theorem dX11_juror_41 : decode cX11_juror 41 = .ok (.getfield 10, 3) := by decide +kernel
theorem dX11_juror_44 : decode cX11_juror 44 = .ok (.getfield 45, 3) := by decide +kernel
theorem dX11_juror_47 : decode cX11_juror 47 = .ok (.if_icmp .lt 5, 3) := by decide +kernel
theorem dX11_juror_50 : decode cX11_juror 50 = .ok (.iconst (-1), 1) := by decide +kernel
theorem dX11_juror_51 : decode cX11_juror 51 = .ok (.ireturn, 1) := by decide +kernel
theorem dX11_juror_52 : decode cX11_juror 52 = .ok (.aload_n 0, 1) := by decide +kernel
theorem dX11_juror_53 : decode cX11_juror 53 = .ok (.getfield 10, 3) := by decide +kernel
theorem dX11_juror_56 : decode cX11_juror 56 = .ok (.getfield 48, 3) := by decide +kernel
theorem dX11_juror_59 : decode cX11_juror 59 = .ok (.bipush 12, 2) := by decide +kernel
theorem dX11_juror_61 : decode cX11_juror 61 = .ok (.if_icmp .lt 6, 3) := by decide +kernel
theorem dX11_juror_64 : decode cX11_juror 64 = .ok (.bipush (-2), 2) := by decide +kernel
theorem dX11_juror_66 : decode cX11_juror 66 = .ok (.ireturn, 1) := by decide +kernel
theorem dX11_juror_67 : decode cX11_juror 67 = .ok (.aload_n 0, 1) := by decide +kernel
theorem dX11_juror_68 : decode cX11_juror 68 = .ok (.getfield 10, 3) := by decide +kernel
theorem dX11_juror_71 : decode cX11_juror 71 = .ok (.aload_n 0, 1) := by decide +kernel
theorem dX11_juror_72 : decode cX11_juror 72 = .ok (.aload_n 0, 1) := by decide +kernel
theorem dX11_juror_73 : decode cX11_juror 73 = .ok (.getfield 10, 3) := by decide +kernel
theorem dX11_juror_76 : decode cX11_juror 76 = .ok (.getfield 48, 3) := by decide +kernel
theorem dX11_juror_79 : decode cX11_juror 79 = .ok (.iload_n 1, 1) := by decide +kernel
theorem dX11_juror_80 : decode cX11_juror 80 = .ok (.iload_n 2, 1) := by decide +kernel
theorem dX11_juror_81 : decode cX11_juror 81 = .ok (.iload_n 3, 1) := by decide +kernel
theorem dX11_juror_82 : decode cX11_juror 82 = .ok (.iload 4, 2) := by decide +kernel
theorem dX11_juror_84 : decode cX11_juror 84 = .ok (.invokevirtual 51, 3) := by decide +kernel
theorem dX11_juror_87 : decode cX11_juror 87 = .ok (.iconst 0, 1) := by decide +kernel
theorem dX11_juror_88 : decode cX11_juror 88 = .ok (.invokevirtual 55, 3) := by decide +kernel
theorem dX11_juror_91 : decode cX11_juror 91 = .ok (.aload_n 0, 1) := by decide +kernel
theorem dX11_juror_92 : decode cX11_juror 92 = .ok (.getfield 10, 3) := by decide +kernel
theorem dX11_juror_95 : decode cX11_juror 95 = .ok (.iconst 0, 1) := by decide +kernel
theorem dX11_juror_96 : decode cX11_juror 96 = .ok (.putfield 59, 3) := by decide +kernel
theorem dX11_juror_99 : decode cX11_juror 99 = .ok (.aload_n 0, 1) := by decide +kernel
theorem dX11_juror_100 : decode cX11_juror 100 = .ok (.getfield 10, 3) := by decide +kernel
theorem dX11_juror_103 : decode cX11_juror 103 = .ok (.invokevirtual 63, 3) := by decide +kernel
theorem dX11_juror_106 : decode cX11_juror 106 = .ok (.aload_n 0, 1) := by decide +kernel
theorem dX11_juror_107 : decode cX11_juror 107 = .ok (.getfield 10, 3) := by decide +kernel
theorem dX11_juror_110 : decode cX11_juror 110 = .ok (.getfield 48, 3) := by decide +kernel
theorem dX11_juror_113 : decode cX11_juror 113 = .ok (.iconst 1, 1) := by decide +kernel
theorem dX11_juror_114 : decode cX11_juror 114 = .ok (.isub, 1) := by decide +kernel
theorem dX11_juror_115 : decode cX11_juror 115 = .ok (.ireturn, 1) := by decide +kernel
theorem dX3_isSeat_0 : decode cX3_isSeat 0 = .ok (.iload_n 1, 1) := by decide +kernel
theorem dX3_isSeat_1 : decode cX3_isSeat 1 = .ok (.ifCond .lt 15, 3) := by decide +kernel
theorem dX3_isSeat_4 : decode cX3_isSeat 4 = .ok (.iload_n 1, 1) := by decide +kernel
theorem dX3_isSeat_5 : decode cX3_isSeat 5 = .ok (.aload_n 0, 1) := by decide +kernel
theorem dX3_isSeat_6 : decode cX3_isSeat 6 = .ok (.getfield 45, 3) := by decide +kernel
theorem dX3_isSeat_9 : decode cX3_isSeat 9 = .ok (.if_icmp .ge 7, 3) := by decide +kernel
theorem dX3_isSeat_12 : decode cX3_isSeat 12 = .ok (.iconst 1, 1) := by decide +kernel
theorem dX3_isSeat_13 : decode cX3_isSeat 13 = .ok (.goto 4, 3) := by decide +kernel
theorem dX3_isSeat_16 : decode cX3_isSeat 16 = .ok (.iconst 0, 1) := by decide +kernel
theorem dX3_isSeat_17 : decode cX3_isSeat 17 = .ok (.ireturn, 1) := by decide +kernel
theorem dX11_holds_0 : decode cX11_holds 0 = .ok (.aload_n 0, 1) := by decide +kernel
theorem dX11_holds_1 : decode cX11_holds 1 = .ok (.getfield 10, 3) := by decide +kernel
theorem dX11_holds_4 : decode cX11_holds 4 = .ok (.iload_n 1, 1) := by decide +kernel
theorem dX11_holds_5 : decode cX11_holds 5 = .ok (.invokevirtual 66, 3) := by decide +kernel
theorem dX11_holds_8 : decode cX11_holds 8 = .ok (.ifCond .eq 20, 3) := by decide +kernel
theorem dX11_holds_11 : decode cX11_holds 11 = .ok (.iload_n 2, 1) := by decide +kernel
theorem dX11_holds_12 : decode cX11_holds 12 = .ok (.ifCond .lt 16, 3) := by decide +kernel
theorem dX11_holds_15 : decode cX11_holds 15 = .ok (.iload_n 2, 1) := by decide +kernel
theorem dX11_holds_16 : decode cX11_holds 16 = .ok (.iconst 1, 1) := by decide +kernel
theorem dX11_holds_17 : decode cX11_holds 17 = .ok (.aload_n 0, 1) := by decide +kernel
theorem dX11_holds_18 : decode cX11_holds 18 = .ok (.getfield 10, 3) := by decide +kernel
theorem dX11_holds_21 : decode cX11_holds 21 = .ok (.getfield 29, 3) := by decide +kernel
theorem dX11_holds_24 : decode cX11_holds 24 = .ok (.ishl, 1) := by decide +kernel
theorem dX11_holds_25 : decode cX11_holds 25 = .ok (.if_icmp .lt 5, 3) := by decide +kernel
theorem dX11_holds_28 : decode cX11_holds 28 = .ok (.iconst (-1), 1) := by decide +kernel
theorem dX11_holds_29 : decode cX11_holds 29 = .ok (.ireturn, 1) := by decide +kernel
theorem dX11_holds_30 : decode cX11_holds 30 = .ok (.aload_n 0, 1) := by decide +kernel
theorem dX11_holds_31 : decode cX11_holds 31 = .ok (.getfield 10, 3) := by decide +kernel
theorem dX11_holds_34 : decode cX11_holds 34 = .ok (.getfield 69, 3) := by decide +kernel
theorem dX11_holds_37 : decode cX11_holds 37 = .ok (.iload_n 1, 1) := by decide +kernel
theorem dX11_holds_38 : decode cX11_holds 38 = .ok (.invokestatic 72, 3) := by decide +kernel
theorem dX11_holds_41 : decode cX11_holds 41 = .ok (.istore_n 3, 1) := by decide +kernel
theorem dX11_holds_42 : decode cX11_holds 42 = .ok (.aload_n 0, 1) := by decide +kernel
theorem dX11_holds_43 : decode cX11_holds 43 = .ok (.getfield 10, 3) := by decide +kernel
theorem dX11_holds_46 : decode cX11_holds 46 = .ok (.getfield 69, 3) := by decide +kernel
theorem dX11_holds_49 : decode cX11_holds 49 = .ok (.iload_n 1, 1) := by decide +kernel
theorem dX11_holds_50 : decode cX11_holds 50 = .ok (.iload_n 2, 1) := by decide +kernel
theorem dX11_holds_51 : decode cX11_holds 51 = .ok (.invokestatic 37, 3) := by decide +kernel
theorem dX11_holds_54 : decode cX11_holds 54 = .ok (.aload_n 0, 1) := by decide +kernel
theorem dX11_holds_55 : decode cX11_holds 55 = .ok (.getfield 10, 3) := by decide +kernel
theorem dX11_holds_58 : decode cX11_holds 58 = .ok (.getfield 59, 3) := by decide +kernel
theorem dX11_holds_61 : decode cX11_holds 61 = .ok (.ifCond .ne 10, 3) := by decide +kernel
theorem dX11_holds_64 : decode cX11_holds 64 = .ok (.aload_n 0, 1) := by decide +kernel
theorem dX11_holds_65 : decode cX11_holds 65 = .ok (.getfield 10, 3) := by decide +kernel
theorem dX11_holds_68 : decode cX11_holds 68 = .ok (.invokevirtual 63, 3) := by decide +kernel
theorem dX11_holds_71 : decode cX11_holds 71 = .ok (.iload_n 3, 1) := by decide +kernel
theorem dX11_holds_72 : decode cX11_holds 72 = .ok (.ireturn, 1) := by decide +kernel
theorem dX3_turnAt_0 : decode cX3_turnAt 0 = .ok (.aload_n 0, 1) := by decide +kernel
theorem dX3_turnAt_1 : decode cX3_turnAt 1 = .ok (.iload_n 1, 1) := by decide +kernel
theorem dX3_turnAt_2 : decode cX3_turnAt 2 = .ok (.invokevirtual 49, 3) := by decide +kernel
theorem dX3_turnAt_5 : decode cX3_turnAt 5 = .ok (.ifCond .eq 21, 3) := by decide +kernel
theorem dX3_turnAt_8 : decode cX3_turnAt 8 = .ok (.iload_n 1, 1) := by decide +kernel
theorem dX3_turnAt_9 : decode cX3_turnAt 9 = .ok (.aload_n 0, 1) := by decide +kernel
theorem dX3_turnAt_10 : decode cX3_turnAt 10 = .ok (.getfield 17, 3) := by decide +kernel
theorem dX3_turnAt_13 : decode cX3_turnAt 13 = .ok (.arraylength, 1) := by decide +kernel
theorem dX3_turnAt_14 : decode cX3_turnAt 14 = .ok (.if_icmp .ge 12, 3) := by decide +kernel
theorem dX3_turnAt_17 : decode cX3_turnAt 17 = .ok (.aload_n 0, 1) := by decide +kernel
theorem dX3_turnAt_18 : decode cX3_turnAt 18 = .ok (.getfield 17, 3) := by decide +kernel
theorem dX3_turnAt_21 : decode cX3_turnAt 21 = .ok (.iload_n 1, 1) := by decide +kernel
theorem dX3_turnAt_22 : decode cX3_turnAt 22 = .ok (.aaload, 1) := by decide +kernel
theorem dX3_turnAt_23 : decode cX3_turnAt 23 = .ok (.goto 4, 3) := by decide +kernel
theorem dX3_turnAt_26 : decode cX3_turnAt 26 = .ok (.aconst_null, 1) := by decide +kernel
theorem dX3_turnAt_27 : decode cX3_turnAt 27 = .ok (.areturn, 1) := by decide +kernel
theorem dX3_gaveIn_0 : decode cX3_gaveIn 0 = .ok (.aload_n 0, 1) := by decide +kernel
theorem dX3_gaveIn_1 : decode cX3_gaveIn 1 = .ok (.getfield 42, 3) := by decide +kernel
theorem dX3_gaveIn_4 : decode cX3_gaveIn 4 = .ok (.iload_n 1, 1) := by decide +kernel
theorem dX3_gaveIn_5 : decode cX3_gaveIn 5 = .ok (.invokestatic 60, 3) := by decide +kernel
theorem dX3_gaveIn_8 : decode cX3_gaveIn 8 = .ok (.ifCond .lt 7, 3) := by decide +kernel
theorem dX3_gaveIn_11 : decode cX3_gaveIn 11 = .ok (.iconst 1, 1) := by decide +kernel
theorem dX3_gaveIn_12 : decode cX3_gaveIn 12 = .ok (.goto 4, 3) := by decide +kernel
theorem dX3_gaveIn_15 : decode cX3_gaveIn 15 = .ok (.iconst 0, 1) := by decide +kernel
theorem dX3_gaveIn_16 : decode cX3_gaveIn 16 = .ok (.ireturn, 1) := by decide +kernel
theorem dX11_of_0 : decode cX11_of 0 = .ok (.aload_n 0, 1) := by decide +kernel
theorem dX11_of_1 : decode cX11_of 1 = .ok (.getfield 10, 3) := by decide +kernel
theorem dX11_of_4 : decode cX11_of 4 = .ok (.iload_n 1, 1) := by decide +kernel
theorem dX11_of_5 : decode cX11_of 5 = .ok (.invokevirtual 76, 3) := by decide +kernel
theorem dX11_of_8 : decode cX11_of 8 = .ok (.astore_n 3, 1) := by decide +kernel
theorem dX11_of_9 : decode cX11_of 9 = .ok (.aload_n 3, 1) := by decide +kernel
theorem dX11_of_10 : decode cX11_of 10 = .ok (.ifnonnull 6, 3) := by decide +kernel
theorem dX11_of_13 : decode cX11_of 13 = .ok (.ldc 80, 2) := by decide +kernel
theorem dX11_of_15 : decode cX11_of 15 = .ok (.ireturn, 1) := by decide +kernel
theorem dX11_of_16 : decode cX11_of 16 = .ok (.iload_n 2, 1) := by decide +kernel
theorem dX11_of_17 : decode cX11_of 17 = .ok (.tableswitch 138 0 9 #[55, 60, 65, 70, 75, 80, 85, 97, 109, 121], 55) := by decide +kernel
theorem dX11_of_72 : decode cX11_of 72 = .ok (.aload_n 3, 1) := by decide +kernel
theorem dX11_of_73 : decode cX11_of 73 = .ok (.getfield 81, 3) := by decide +kernel
theorem dX11_of_76 : decode cX11_of 76 = .ok (.ireturn, 1) := by decide +kernel
theorem dX11_of_77 : decode cX11_of 77 = .ok (.aload_n 3, 1) := by decide +kernel
theorem dX11_of_78 : decode cX11_of 78 = .ok (.getfield 86, 3) := by decide +kernel
theorem dX11_of_81 : decode cX11_of 81 = .ok (.ireturn, 1) := by decide +kernel
theorem dX11_of_82 : decode cX11_of 82 = .ok (.aload_n 3, 1) := by decide +kernel
theorem dX11_of_83 : decode cX11_of 83 = .ok (.getfield 89, 3) := by decide +kernel
theorem dX11_of_86 : decode cX11_of 86 = .ok (.ireturn, 1) := by decide +kernel
theorem dX11_of_87 : decode cX11_of 87 = .ok (.aload_n 3, 1) := by decide +kernel
theorem dX11_of_88 : decode cX11_of 88 = .ok (.getfield 92, 3) := by decide +kernel
theorem dX11_of_91 : decode cX11_of 91 = .ok (.ireturn, 1) := by decide +kernel
theorem dX11_of_92 : decode cX11_of 92 = .ok (.aload_n 3, 1) := by decide +kernel
theorem dX11_of_93 : decode cX11_of 93 = .ok (.getfield 95, 3) := by decide +kernel
theorem dX11_of_96 : decode cX11_of 96 = .ok (.ireturn, 1) := by decide +kernel
theorem dX11_of_97 : decode cX11_of 97 = .ok (.aload_n 3, 1) := by decide +kernel
theorem dX11_of_98 : decode cX11_of 98 = .ok (.getfield 98, 3) := by decide +kernel
theorem dX11_of_101 : decode cX11_of 101 = .ok (.ireturn, 1) := by decide +kernel
theorem dX11_of_102 : decode cX11_of 102 = .ok (.aload_n 0, 1) := by decide +kernel
theorem dX11_of_103 : decode cX11_of 103 = .ok (.getfield 10, 3) := by decide +kernel
theorem dX11_of_106 : decode cX11_of 106 = .ok (.getfield 101, 3) := by decide +kernel
theorem dX11_of_109 : decode cX11_of 109 = .ok (.iload_n 1, 1) := by decide +kernel
theorem dX11_of_110 : decode cX11_of 110 = .ok (.invokestatic 72, 3) := by decide +kernel
theorem dX11_of_113 : decode cX11_of 113 = .ok (.ireturn, 1) := by decide +kernel
theorem dX11_of_114 : decode cX11_of 114 = .ok (.aload_n 0, 1) := by decide +kernel
theorem dX11_of_115 : decode cX11_of 115 = .ok (.getfield 10, 3) := by decide +kernel
theorem dX11_of_118 : decode cX11_of 118 = .ok (.getfield 104, 3) := by decide +kernel
theorem dX11_of_121 : decode cX11_of 121 = .ok (.iload_n 1, 1) := by decide +kernel
theorem dX11_of_122 : decode cX11_of 122 = .ok (.invokestatic 72, 3) := by decide +kernel
theorem dX11_of_125 : decode cX11_of 125 = .ok (.ireturn, 1) := by decide +kernel
theorem dX11_of_126 : decode cX11_of 126 = .ok (.aload_n 0, 1) := by decide +kernel
theorem dX11_of_127 : decode cX11_of 127 = .ok (.getfield 10, 3) := by decide +kernel
theorem dX11_of_130 : decode cX11_of 130 = .ok (.getfield 107, 3) := by decide +kernel
theorem dX11_of_133 : decode cX11_of 133 = .ok (.iload_n 1, 1) := by decide +kernel
theorem dX11_of_134 : decode cX11_of 134 = .ok (.ishr, 1) := by decide +kernel
theorem dX11_of_135 : decode cX11_of 135 = .ok (.iconst 1, 1) := by decide +kernel
theorem dX11_of_136 : decode cX11_of 136 = .ok (.iand, 1) := by decide +kernel
theorem dX11_of_137 : decode cX11_of 137 = .ok (.ireturn, 1) := by decide +kernel
theorem dX11_of_138 : decode cX11_of 138 = .ok (.aload_n 0, 1) := by decide +kernel
theorem dX11_of_139 : decode cX11_of 139 = .ok (.getfield 10, 3) := by decide +kernel
theorem dX11_of_142 : decode cX11_of 142 = .ok (.iload_n 1, 1) := by decide +kernel
theorem dX11_of_143 : decode cX11_of 143 = .ok (.invokevirtual 110, 3) := by decide +kernel
theorem dX11_of_146 : decode cX11_of 146 = .ok (.ifCond .eq 7, 3) := by decide +kernel
theorem dX11_of_149 : decode cX11_of 149 = .ok (.iconst 1, 1) := by decide +kernel
theorem dX11_of_150 : decode cX11_of 150 = .ok (.goto 4, 3) := by decide +kernel
theorem dX11_of_153 : decode cX11_of 153 = .ok (.iconst 0, 1) := by decide +kernel
theorem dX11_of_154 : decode cX11_of 154 = .ok (.ireturn, 1) := by decide +kernel
theorem dX11_of_155 : decode cX11_of 155 = .ok (.ldc 80, 2) := by decide +kernel
theorem dX11_of_157 : decode cX11_of 157 = .ok (.ireturn, 1) := by decide +kernel
theorem dJ6_bitCount_0f7a4_0 : decode cJ6_bitCount_0f7a4 0 = .ok (.iload_n 0, 1) := by decide +kernel
theorem dJ6_bitCount_0f7a4_1 : decode cJ6_bitCount_0f7a4 1 = .ok (.iload_n 0, 1) := by decide +kernel
theorem dJ6_bitCount_0f7a4_2 : decode cJ6_bitCount_0f7a4 2 = .ok (.iconst 1, 1) := by decide +kernel
theorem dJ6_bitCount_0f7a4_3 : decode cJ6_bitCount_0f7a4 3 = .ok (.iushr, 1) := by decide +kernel
theorem dJ6_bitCount_0f7a4_4 : decode cJ6_bitCount_0f7a4 4 = .ok (.ldc_w 265, 3) := by decide +kernel
theorem dJ6_bitCount_0f7a4_7 : decode cJ6_bitCount_0f7a4 7 = .ok (.iand, 1) := by decide +kernel
theorem dJ6_bitCount_0f7a4_8 : decode cJ6_bitCount_0f7a4 8 = .ok (.isub, 1) := by decide +kernel
theorem dJ6_bitCount_0f7a4_9 : decode cJ6_bitCount_0f7a4 9 = .ok (.istore_n 0, 1) := by decide +kernel
theorem dJ6_bitCount_0f7a4_10 : decode cJ6_bitCount_0f7a4 10 = .ok (.iload_n 0, 1) := by decide +kernel
theorem dJ6_bitCount_0f7a4_11 : decode cJ6_bitCount_0f7a4 11 = .ok (.ldc_w 266, 3) := by decide +kernel
theorem dJ6_bitCount_0f7a4_14 : decode cJ6_bitCount_0f7a4 14 = .ok (.iand, 1) := by decide +kernel
theorem dJ6_bitCount_0f7a4_15 : decode cJ6_bitCount_0f7a4 15 = .ok (.iload_n 0, 1) := by decide +kernel
theorem dJ6_bitCount_0f7a4_16 : decode cJ6_bitCount_0f7a4 16 = .ok (.iconst 2, 1) := by decide +kernel
theorem dJ6_bitCount_0f7a4_17 : decode cJ6_bitCount_0f7a4 17 = .ok (.iushr, 1) := by decide +kernel
theorem dJ6_bitCount_0f7a4_18 : decode cJ6_bitCount_0f7a4 18 = .ok (.ldc_w 266, 3) := by decide +kernel
theorem dJ6_bitCount_0f7a4_21 : decode cJ6_bitCount_0f7a4 21 = .ok (.iand, 1) := by decide +kernel
theorem dJ6_bitCount_0f7a4_22 : decode cJ6_bitCount_0f7a4 22 = .ok (.iadd, 1) := by decide +kernel
theorem dJ6_bitCount_0f7a4_23 : decode cJ6_bitCount_0f7a4 23 = .ok (.istore_n 0, 1) := by decide +kernel
theorem dJ6_bitCount_0f7a4_24 : decode cJ6_bitCount_0f7a4 24 = .ok (.iload_n 0, 1) := by decide +kernel
theorem dJ6_bitCount_0f7a4_25 : decode cJ6_bitCount_0f7a4 25 = .ok (.iload_n 0, 1) := by decide +kernel
theorem dJ6_bitCount_0f7a4_26 : decode cJ6_bitCount_0f7a4 26 = .ok (.iconst 4, 1) := by decide +kernel
theorem dJ6_bitCount_0f7a4_27 : decode cJ6_bitCount_0f7a4 27 = .ok (.iushr, 1) := by decide +kernel
theorem dJ6_bitCount_0f7a4_28 : decode cJ6_bitCount_0f7a4 28 = .ok (.iadd, 1) := by decide +kernel
theorem dJ6_bitCount_0f7a4_29 : decode cJ6_bitCount_0f7a4 29 = .ok (.ldc_w 267, 3) := by decide +kernel
theorem dJ6_bitCount_0f7a4_32 : decode cJ6_bitCount_0f7a4 32 = .ok (.iand, 1) := by decide +kernel
theorem dJ6_bitCount_0f7a4_33 : decode cJ6_bitCount_0f7a4 33 = .ok (.istore_n 0, 1) := by decide +kernel
theorem dJ6_bitCount_0f7a4_34 : decode cJ6_bitCount_0f7a4 34 = .ok (.iload_n 0, 1) := by decide +kernel
theorem dJ6_bitCount_0f7a4_35 : decode cJ6_bitCount_0f7a4 35 = .ok (.iload_n 0, 1) := by decide +kernel
theorem dJ6_bitCount_0f7a4_36 : decode cJ6_bitCount_0f7a4 36 = .ok (.bipush 8, 2) := by decide +kernel
theorem dJ6_bitCount_0f7a4_38 : decode cJ6_bitCount_0f7a4 38 = .ok (.iushr, 1) := by decide +kernel
theorem dJ6_bitCount_0f7a4_39 : decode cJ6_bitCount_0f7a4 39 = .ok (.iadd, 1) := by decide +kernel
theorem dJ6_bitCount_0f7a4_40 : decode cJ6_bitCount_0f7a4 40 = .ok (.istore_n 0, 1) := by decide +kernel
theorem dJ6_bitCount_0f7a4_41 : decode cJ6_bitCount_0f7a4 41 = .ok (.iload_n 0, 1) := by decide +kernel
theorem dJ6_bitCount_0f7a4_42 : decode cJ6_bitCount_0f7a4 42 = .ok (.iload_n 0, 1) := by decide +kernel
theorem dJ6_bitCount_0f7a4_43 : decode cJ6_bitCount_0f7a4 43 = .ok (.bipush 16, 2) := by decide +kernel
theorem dJ6_bitCount_0f7a4_45 : decode cJ6_bitCount_0f7a4 45 = .ok (.iushr, 1) := by decide +kernel
theorem dJ6_bitCount_0f7a4_46 : decode cJ6_bitCount_0f7a4 46 = .ok (.iadd, 1) := by decide +kernel
theorem dJ6_bitCount_0f7a4_47 : decode cJ6_bitCount_0f7a4 47 = .ok (.istore_n 0, 1) := by decide +kernel
theorem dJ6_bitCount_0f7a4_48 : decode cJ6_bitCount_0f7a4 48 = .ok (.iload_n 0, 1) := by decide +kernel
theorem dJ6_bitCount_0f7a4_49 : decode cJ6_bitCount_0f7a4 49 = .ok (.bipush 63, 2) := by decide +kernel
theorem dJ6_bitCount_0f7a4_51 : decode cJ6_bitCount_0f7a4 51 = .ok (.iand, 1) := by decide +kernel
theorem dJ6_bitCount_0f7a4_52 : decode cJ6_bitCount_0f7a4 52 = .ok (.ireturn, 1) := by decide +kernel
theorem dX3_yes_0 : decode cX3_yes 0 = .ok (.aload_n 0, 1) := by decide +kernel
theorem dX3_yes_1 : decode cX3_yes 1 = .ok (.getfield 70, 3) := by decide +kernel
theorem dX3_yes_4 : decode cX3_yes 4 = .ok (.invokestatic 73, 3) := by decide +kernel
theorem dX3_yes_7 : decode cX3_yes 7 = .ok (.ireturn, 1) := by decide +kernel
theorem dX3_no_0 : decode cX3_no 0 = .ok (.aload_n 0, 1) := by decide +kernel
theorem dX3_no_1 : decode cX3_no 1 = .ok (.getfield 45, 3) := by decide +kernel
theorem dX3_no_4 : decode cX3_no 4 = .ok (.aload_n 0, 1) := by decide +kernel
theorem dX3_no_5 : decode cX3_no 5 = .ok (.invokevirtual 79, 3) := by decide +kernel
theorem dX3_no_8 : decode cX3_no 8 = .ok (.isub, 1) := by decide +kernel
theorem dX3_no_9 : decode cX3_no 9 = .ok (.ireturn, 1) := by decide +kernel
