theorem dX11_holds_0 : decode cX11_holds 0 = .ok (.aload_n 0, 1) := by decide +kernel
theorem dX11_holds_1 : decode cX11_holds 1 = .ok (.getfield 10, 3) := by decide +kernel
theorem dX11_holds_4 : decode cX11_holds 4 = .ok (.iload_n 1, 1) := by decide +kernel
theorem dX11_holds_5 : decode cX11_holds 5 = .ok (.invokevirtual 66, 3) := by decide +kernel
theorem dX11_holds_8 : decode cX11_holds 8 = .ok (.ifCond .eq 20, 3) := by decide +kernel
theorem dX11_holds_11 : decode cX11_holds 11 = .ok (.iload_n 2, 1) := by decide +kernel
theorem dX11_holds_12 : decode cX11_holds 12 = .ok (.ifCond .lt 16, 3) := by decide +kernel
theorem dX11_holds_15 : decode cX11_holds 15 = .ok (.iload_n 2, 1) := by decide +kernel
theorem dX11_holds_16 : decode cX11_holds 16 = .ok (.iconst 1, 1) := by decide +kernel
theorem dX11_holds_17 : decode cX11_holds 17 = .ok (.aload_n 0, 1) := by decide +kernel
theorem dX11_holds_18 : decode cX11_holds 18 = .ok (.getfield 10, 3) := by decide +kernel
theorem dX11_holds_21 : decode cX11_holds 21 = .ok (.getfield 29, 3) := by decide +kernel
theorem dX11_holds_24 : decode cX11_holds 24 = .ok (.ishl, 1) := by decide +kernel
theorem dX11_holds_25 : decode cX11_holds 25 = .ok (.if_icmp .lt 5, 3) := by decide +kernel
theorem dX11_holds_28 : decode cX11_holds 28 = .ok (.iconst (-1), 1) := by decide +kernel
theorem dX11_holds_29 : decode cX11_holds 29 = .ok (.ireturn, 1) := by decide +kernel
theorem dX11_holds_30 : decode cX11_holds 30 = .ok (.aload_n 0, 1) := by decide +kernel
theorem dX11_holds_31 : decode cX11_holds 31 = .ok (.getfield 10, 3) := by decide +kernel
theorem dX11_holds_34 : decode cX11_holds 34 = .ok (.getfield 69, 3) := by decide +kernel
theorem dX11_holds_37 : decode cX11_holds 37 = .ok (.iload_n 1, 1) := by decide +kernel
theorem dX11_holds_38 : decode cX11_holds 38 = .ok (.invokestatic 72, 3) := by decide +kernel
theorem dX11_holds_41 : decode cX11_holds 41 = .ok (.istore_n 3, 1) := by decide +kernel
theorem dX11_holds_42 : decode cX11_holds 42 = .ok (.aload_n 0, 1) := by decide +kernel
theorem dX11_holds_43 : decode cX11_holds 43 = .ok (.getfield 10, 3) := by decide +kernel
theorem dX11_holds_46 : decode cX11_holds 46 = .ok (.getfield 69, 3) := by decide +kernel
theorem dX11_holds_49 : decode cX11_holds 49 = .ok (.iload_n 1, 1) := by decide +kernel
theorem dX11_holds_50 : decode cX11_holds 50 = .ok (.iload_n 2, 1) := by decide +kernel
theorem dX11_holds_51 : decode cX11_holds 51 = .ok (.invokestatic 37, 3) := by decide +kernel
theorem dX11_holds_54 : decode cX11_holds 54 = .ok (.aload_n 0, 1) := by decide +kernel
theorem dX11_holds_55 : decode cX11_holds 55 = .ok (.getfield 10, 3) := by decide +kernel
theorem dX11_holds_58 : decode cX11_holds 58 = .ok (.getfield 59, 3) := by decide +kernel
theorem dX11_holds_61 : decode cX11_holds 61 = .ok (.ifCond .ne 10, 3) := by decide +kernel
theorem dX11_holds_64 : decode cX11_holds 64 = .ok (.aload_n 0, 1) := by decide +kernel
theorem dX11_holds_65 : decode cX11_holds 65 = .ok (.getfield 10, 3) := by decide +kernel
theorem dX11_holds_68 : decode cX11_holds 68 = .ok (.invokevirtual 63, 3) := by decide +kernel
theorem dX11_holds_71 : decode cX11_holds 71 = .ok (.iload_n 3, 1) := by decide +kernel
theorem dX11_holds_72 : decode cX11_holds 72 = .ok (.ireturn, 1) := by decide +kernel
theorem dX3_turnAt_0 : decode cX3_turnAt 0 = .ok (.aload_n 0, 1) := by decide +kernel
theorem dX3_turnAt_1 : decode cX3_turnAt 1 = .ok (.iload_n 1, 1) := by decide +kernel
theorem dX3_turnAt_2 : decode cX3_turnAt 2 = .ok (.invokevirtual 49, 3) := by decide +kernel
theorem dX3_turnAt_5 : decode cX3_turnAt 5 = .ok (.ifCond .eq 21, 3) := by decide +kernel
theorem dX3_turnAt_8 : decode cX3_turnAt 8 = .ok (.iload_n 1, 1) := by decide +kernel
theorem dX3_turnAt_9 : decode cX3_turnAt 9 = .ok (.aload_n 0, 1) := by decide +kernel
theorem dX3_turnAt_10 : decode cX3_turnAt 10 = .ok (.getfield 17, 3) := by decide +kernel
theorem dX3_turnAt_13 : decode cX3_turnAt 13 = .ok (.arraylength, 1) := by decide +kernel
theorem dX3_turnAt_14 : decode cX3_turnAt 14 = .ok (.if_icmp .ge 12, 3) := by decide +kernel
theorem dX3_turnAt_17 : decode cX3_turnAt 17 = .ok (.aload_n 0, 1) := by decide +kernel
theorem dX3_turnAt_18 : decode cX3_turnAt 18 = .ok (.getfield 17, 3) := by decide +kernel
theorem dX3_turnAt_21 : decode cX3_turnAt 21 = .ok (.iload_n 1, 1) := by decide +kernel
theorem dX3_turnAt_22 : decode cX3_turnAt 22 = .ok (.aaload, 1) := by decide +kernel
theorem dX3_turnAt_23 : decode cX3_turnAt 23 = .ok (.goto 4, 3) := by decide +kernel
theorem dX3_turnAt_26 : decode cX3_turnAt 26 = .ok (.aconst_null, 1) := by decide +kernel
theorem dX3_turnAt_27 : decode cX3_turnAt 27 = .ok (.areturn, 1) := by decide +kernel
theorem dX3_gaveIn_0 : decode cX3_gaveIn 0 = .ok (.aload_n 0, 1) := by decide +kernel
theorem dX3_gaveIn_1 : decode cX3_gaveIn 1 = .ok (.getfield 42, 3) := by decide +kernel
theorem dX3_gaveIn_4 : decode cX3_gaveIn 4 = .ok (.iload_n 1, 1) := by decide +kernel
theorem dX3_gaveIn_5 : decode cX3_gaveIn 5 = .ok (.invokestatic 60, 3) := by decide +kernel
theorem dX3_gaveIn_8 : decode cX3_gaveIn 8 = .ok (.ifCond .lt 7, 3) := by decide +kernel
theorem dX3_gaveIn_11 : decode cX3_gaveIn 11 = .ok (.iconst 1, 1) := by decide +kernel
theorem dX3_gaveIn_12 : decode cX3_gaveIn 12 = .ok (.goto 4, 3) := by decide +kernel
theorem dX3_gaveIn_15 : decode cX3_gaveIn 15 = .ok (.iconst 0, 1) := by decide +kernel
theorem dX3_gaveIn_16 : decode cX3_gaveIn 16 = .ok (.ireturn, 1) := by decide +kernel
theorem dX11_of_0 : decode cX11_of 0 = .ok (.aload_n 0, 1) := by decide +kernel
theorem dX11_of_1 : decode cX11_of 1 = .ok (.getfield 10, 3) := by decide +kernel
theorem dX11_of_4 : decode cX11_of 4 = .ok (.iload_n 1, 1) := by decide +kernel
theorem dX11_of_5 : decode cX11_of 5 = .ok (.invokevirtual 76, 3) := by decide +kernel
theorem dX11_of_8 : decode cX11_of 8 = .ok (.astore_n 3, 1) := by decide +kernel
theorem dX11_of_9 : decode cX11_of 9 = .ok (.aload_n 3, 1) := by decide +kernel
theorem dX11_of_10 : decode cX11_of 10 = .ok (.ifnonnull 6, 3) := by decide +kernel
theorem dX11_of_13 : decode cX11_of 13 = .ok (.ldc 80, 2) := by decide +kernel
theorem dX11_of_15 : decode cX11_of 15 = .ok (.ireturn, 1) := by decide +kernel
theorem dX11_of_16 : decode cX11_of 16 = .ok (.iload_n 2, 1) := by decide +kernel
theorem dX11_of_17 : decode cX11_of 17 = .ok (.tableswitch 138 0 9 #[55, 60, 65, 70, 75, 80, 85, 97, 109, 121], 55) := by decide +kernel
theorem dX11_of_72 : decode cX11_of 72 = .ok (.aload_n 3, 1) := by decide +kernel
theorem dX11_of_73 : decode cX11_of 73 = .ok (.getfield 81, 3) := by decide +kernel
theorem dX11_of_76 : decode cX11_of 76 = .ok (.ireturn, 1) := by decide +kernel
theorem dX11_of_77 : decode cX11_of 77 = .ok (.aload_n 3, 1) := by decide +kernel
theorem dX11_of_78 : decode cX11_of 78 = .ok (.getfield 86, 3) := by decide +kernel
theorem dX11_of_81 : decode cX11_of 81 = .ok (.ireturn, 1) := by decide +kernel
theorem dX11_of_82 : decode cX11_of 82 = .ok (.aload_n 3, 1) := by decide +kernel
theorem dX11_of_83 : decode cX11_of 83 = .ok (.getfield 89, 3) := by decide +kernel
theorem dX11_of_86 : decode cX11_of 86 = .ok (.ireturn, 1) := by decide +kernel
theorem dX11_of_87 : decode cX11_of 87 = .ok (.aload_n 3, 1) := by decide +kernel
theorem dX11_of_88 : decode cX11_of 88 = .ok (.getfield 92, 3) := by decide +kernel
theorem dX11_of_91 : decode cX11_of 91 = .ok (.ireturn, 1) := by decide +kernel
theorem dX11_of_92 : decode cX11_of 92 = .ok (.aload_n 3, 1) := by decide +kernel
theorem dX11_of_93 : decode cX11_of 93 = .ok (.getfield 95, 3) := by decide +kernel
theorem dX11_of_96 : decode cX11_of 96 = .ok (.ireturn, 1) := by decide +kernel
theorem dX11_of_97 : decode cX11_of 97 = .ok (.aload_n 3, 1) := by decide +kernel
theorem dX11_of_98 : decode cX11_of 98 = .ok (.getfield 98, 3) := by decide +kernel
theorem dX11_of_101 : decode cX11_of 101 = .ok (.ireturn, 1) := by decide +kernel
theorem dX11_of_102 : decode cX11_of 102 = .ok (.aload_n 0, 1) := by decide +kernel
theorem dX11_of_103 : decode cX11_of 103 = .ok (.getfield 10, 3) := by decide +kernel
theorem dX11_of_106 : decode cX11_of 106 = .ok (.getfield 101, 3) := by decide +kernel
theorem dX11_of_109 : decode cX11_of 109 = .ok (.iload_n 1, 1) := by decide +kernel
theorem dX11_of_110 : decode cX11_of 110 = .ok (.invokestatic 72, 3) := by decide +kernel
theorem dX11_of_113 : decode cX11_of 113 = .ok (.ireturn, 1) := by decide +kernel
theorem dX11_of_114 : decode cX11_of 114 = .ok (.aload_n 0, 1) := by decide +kernel
theorem dX11_of_115 : decode cX11_of 115 = .ok (.getfield 10, 3) := by decide +kernel
theorem dX11_of_118 : decode cX11_of 118 = .ok (.getfield 104, 3) := by decide +kernel
theorem dX11_of_121 : decode cX11_of 121 = .ok (.iload_n 1, 1) := by decide +kernel
theorem dX11_of_122 : decode cX11_of 122 = .ok (.invokestatic 72, 3) := by decide +kernel
theorem dX11_of_125 : decode cX11_of 125 = .ok (.ireturn, 1) := by decide +kernel
theorem dX11_of_126 : decode cX11_of 126 = .ok (.aload_n 0, 1) := by decide +kernel
theorem dX11_of_127 : decode cX11_of 127 = .ok (.getfield 10, 3) := by decide +kernel
theorem dX11_of_130 : decode cX11_of 130 = .ok (.getfield 107, 3) := by decide +kernel
theorem dX11_of_133 : decode cX11_of 133 = .ok (.iload_n 1, 1) := by decide +kernel
theorem dX11_of_134 : decode cX11_of 134 = .ok (.ishr, 1) := by decide +kernel
theorem dX11_of_135 : decode cX11_of 135 = .ok (.iconst 1, 1) := by decide +kernel
theorem dX11_of_136 : decode cX11_of 136 = .ok (.iand, 1) := by decide +kernel
theorem dX11_of_137 : decode cX11_of 137 = .ok (.ireturn, 1) := by decide +kernel
theorem dX11_of_138 : decode cX11_of 138 = .ok (.aload_n 0, 1) := by decide +kernel
theorem dX11_of_139 : decode cX11_of 139 = .ok (.getfield 10, 3) := by decide +kernel
theorem dX11_of_142 : decode cX11_of 142 = .ok (.iload_n 1, 1) := by decide +kernel
theorem dX11_of_143 : decode cX11_of 143 = .ok (.invokevirtual 110, 3) := by decide +kernel
theorem dX11_of_146 : decode cX11_of 146 = .ok (.ifCond .eq 7, 3) := by decide +kernel
theorem dX11_of_149 : decode cX11_of 149 = .ok (.iconst 1, 1) := by decide +kernel
theorem dX11_of_150 : decode cX11_of 150 = .ok (.goto 4, 3) := by decide +kernel
theorem dX11_of_153 : decode cX11_of 153 = .ok (.iconst 0, 1) := by decide +kernel
theorem dX11_of_154 : decode cX11_of 154 = .ok (.ireturn, 1) := by decide +kernel
theorem dX11_of_155 : decode cX11_of 155 = .ok (.ldc 80, 2) := by decide +kernel
theorem dX11_of_157 : decode cX11_of 157 = .ok (.ireturn, 1) := by decide +kernel
theorem dJ6_bitCount_0f7a4_0 : decode cJ6_bitCount_0f7a4 0 = .ok (.iload_n 0, 1) := by decide +kernel
theorem dJ6_bitCount_0f7a4_1 : decode cJ6_bitCount_0f7a4 1 = .ok (.iload_n 0, 1) := by decide +kernel
theorem dJ6_bitCount_0f7a4_2 : decode cJ6_bitCount_0f7a4 2 = .ok (.iconst 1, 1) := by decide +kernel
theorem dJ6_bitCount_0f7a4_3 : decode cJ6_bitCount_0f7a4 3 = .ok (.iushr, 1) := by decide +kernel
theorem dJ6_bitCount_0f7a4_4 : decode cJ6_bitCount_0f7a4 4 = .ok (.ldc_w 265, 3) := by decide +kernel
theorem dJ6_bitCount_0f7a4_7 : decode cJ6_bitCount_0f7a4 7 = .ok (.iand, 1) := by decide +kernel
theorem dJ6_bitCount_0f7a4_8 : decode cJ6_bitCount_0f7a4 8 = .ok (.isub, 1) := by decide +kernel
theorem dJ6_bitCount_0f7a4_9 : decode cJ6_bitCount_0f7a4 9 = .ok (.istore_n 0, 1) := by decide +kernel
theorem dJ6_bitCount_0f7a4_10 : decode cJ6_bitCount_0f7a4 10 = .ok (.iload_n 0, 1) := by decide +kernel
theorem dJ6_bitCount_0f7a4_11 : decode cJ6_bitCount_0f7a4 11 = .ok (.ldc_w 266, 3) := by decide +kernel
theorem dJ6_bitCount_0f7a4_14 : decode cJ6_bitCount_0f7a4 14 = .ok (.iand, 1) := by decide +kernel
theorem dJ6_bitCount_0f7a4_15 : decode cJ6_bitCount_0f7a4 15 = .ok (.iload_n 0, 1) := by decide +kernel
theorem dJ6_bitCount_0f7a4_16 : decode cJ6_bitCount_0f7a4 16 = .ok (.iconst 2, 1) := by decide +kernel
theorem dJ6_bitCount_0f7a4_17 : decode cJ6_bitCount_0f7a4 17 = .ok (.iushr, 1) := by decide +kernel
theorem dJ6_bitCount_0f7a4_18 : decode cJ6_bitCount_0f7a4 18 = .ok (.ldc_w 266, 3) := by decide +kernel
theorem dJ6_bitCount_0f7a4_21 : decode cJ6_bitCount_0f7a4 21 = .ok (.iand, 1) := by decide +kernel
theorem dJ6_bitCount_0f7a4_22 : decode cJ6_bitCount_0f7a4 22 = .ok (.iadd, 1) := by decide +kernel
theorem dJ6_bitCount_0f7a4_23 : decode cJ6_bitCount_0f7a4 23 = .ok (.istore_n 0, 1) := by decide +kernel
theorem dJ6_bitCount_0f7a4_24 : decode cJ6_bitCount_0f7a4 24 = .ok (.iload_n 0, 1) := by decide +kernel
theorem dJ6_bitCount_0f7a4_25 : decode cJ6_bitCount_0f7a4 25 = .ok (.iload_n 0, 1) := by decide +kernel
theorem dJ6_bitCount_0f7a4_26 : decode cJ6_bitCount_0f7a4 26 = .ok (.iconst 4, 1) := by decide +kernel
theorem dJ6_bitCount_0f7a4_27 : decode cJ6_bitCount_0f7a4 27 = .ok (.iushr, 1) := by decide +kernel
theorem dJ6_bitCount_0f7a4_28 : decode cJ6_bitCount_0f7a4 28 = .ok (.iadd, 1) := by decide +kernel
theorem dJ6_bitCount_0f7a4_29 : decode cJ6_bitCount_0f7a4 29 = .ok (.ldc_w 267, 3) := by decide +kernel
theorem dJ6_bitCount_0f7a4_32 : decode cJ6_bitCount_0f7a4 32 = .ok (.iand, 1) := by decide +kernel
theorem dJ6_bitCount_0f7a4_33 : decode cJ6_bitCount_0f7a4 33 = .ok (.istore_n 0, 1) := by decide +kernel
theorem dJ6_bitCount_0f7a4_34 : decode cJ6_bitCount_0f7a4 34 = .ok (.iload_n 0, 1) := by decide +kernel
theorem dJ6_bitCount_0f7a4_35 : decode cJ6_bitCount_0f7a4 35 = .ok (.iload_n 0, 1) := by decide +kernel
theorem dJ6_bitCount_0f7a4_36 : decode cJ6_bitCount_0f7a4 36 = .ok (.bipush 8, 2) := by decide +kernel
theorem dJ6_bitCount_0f7a4_38 : decode cJ6_bitCount_0f7a4 38 = .ok (.iushr, 1) := by decide +kernel
theorem dJ6_bitCount_0f7a4_39 : decode cJ6_bitCount_0f7a4 39 = .ok (.iadd, 1) := by decide +kernel
theorem dJ6_bitCount_0f7a4_40 : decode cJ6_bitCount_0f7a4 40 = .ok (.istore_n 0, 1) := by decide +kernel
theorem dJ6_bitCount_0f7a4_41 : decode cJ6_bitCount_0f7a4 41 = .ok (.iload_n 0, 1) := by decide +kernel
theorem dJ6_bitCount_0f7a4_42 : decode cJ6_bitCount_0f7a4 42 = .ok (.iload_n 0, 1) := by decide +kernel
theorem dJ6_bitCount_0f7a4_43 : decode cJ6_bitCount_0f7a4 43 = .ok (.bipush 16, 2) := by decide +kernel
theorem dJ6_bitCount_0f7a4_45 : decode cJ6_bitCount_0f7a4 45 = .ok (.iushr, 1) := by decide +kernel
theorem dJ6_bitCount_0f7a4_46 : decode cJ6_bitCount_0f7a4 46 = .ok (.iadd, 1) := by decide +kernel
theorem dJ6_bitCount_0f7a4_47 : decode cJ6_bitCount_0f7a4 47 = .ok (.istore_n 0, 1) := by decide +kernel
theorem dJ6_bitCount_0f7a4_48 : decode cJ6_bitCount_0f7a4 48 = .ok (.iload_n 0, 1) := by decide +kernel
theorem dJ6_bitCount_0f7a4_49 : decode cJ6_bitCount_0f7a4 49 = .ok (.bipush 63, 2) := by decide +kernel
theorem dJ6_bitCount_0f7a4_51 : decode cJ6_bitCount_0f7a4 51 = .ok (.iand, 1) := by decide +kernel
theorem dJ6_bitCount_0f7a4_52 : decode cJ6_bitCount_0f7a4 52 = .ok (.ireturn, 1) := by decide +kernel
theorem dX3_yes_0 : decode cX3_yes 0 = .ok (.aload_n 0, 1) := by decide +kernel
theorem dX3_yes_1 : decode cX3_yes 1 = .ok (.getfield 70, 3) := by decide +kernel
theorem dX3_yes_4 : decode cX3_yes 4 = .ok (.invokestatic 73, 3) := by decide +kernel
theorem dX3_yes_7 : decode cX3_yes 7 = .ok (.ireturn, 1) := by decide +kernel
theorem dX3_no_0 : decode cX3_no 0 = .ok (.aload_n 0, 1) := by decide +kernel
theorem dX3_no_1 : decode cX3_no 1 = .ok (.getfield 45, 3) := by decide +kernel
theorem dX3_no_4 : decode cX3_no 4 = .ok (.aload_n 0, 1) := by decide +kernel
theorem dX3_no_5 : decode cX3_no 5 = .ok (.invokevirtual 79, 3) := by decide +kernel
theorem dX3_no_8 : decode cX3_no 8 = .ok (.isub, 1) := by decide +kernel
theorem dX3_no_9 : decode cX3_no 9 = .ok (.ireturn, 1) := by decide +kernel
theorem dX1_isMark_0 : decode cX1_isMark 0 = .ok (.iload_n 0, 1) := by decide +kernel
theorem dX1_isMark_1 : decode cX1_isMark 1 = .ok (.bipush 43, 2) := by decide +kernel
theorem dX1_isMark_3 : decode cX1_isMark 3 = .ok (.if_icmp .eq 27, 3) := by decide +kernel
theorem dX1_isMark_6 : decode cX1_isMark 6 = .ok (.iload_n 0, 1) := by decide +kernel
theorem dX1_isMark_7 : decode cX1_isMark 7 = .ok (.bipush 45, 2) := by decide +kernel
theorem dX1_isMark_9 : decode cX1_isMark 9 = .ok (.if_icmp .eq 21, 3) := by decide +kernel
theorem dX1_isMark_12 : decode cX1_isMark 12 = .ok (.iload_n 0, 1) := by decide +kernel
theorem dX1_isMark_13 : decode cX1_isMark 13 = .ok (.bipush 42, 2) := by decide +kernel
theorem dX1_isMark_15 : decode cX1_isMark 15 = .ok (.if_icmp .eq 15, 3) := by decide +kernel
theorem dX1_isMark_18 : decode cX1_isMark 18 = .ok (.iload_n 0, 1) := by decide +kernel
theorem dX1_isMark_19 : decode cX1_isMark 19 = .ok (.bipush 47, 2) := by decide +kernel
theorem dX1_isMark_21 : decode cX1_isMark 21 = .ok (.if_icmp .eq 9, 3) := by decide +kernel
theorem dX1_isMark_24 : decode cX1_isMark 24 = .ok (.iload_n 0, 1) := by decide +kernel
theorem dX1_isMark_25 : decode cX1_isMark 25 = .ok (.bipush 44, 2) := by decide +kernel
theorem dX1_isMark_27 : decode cX1_isMark 27 = .ok (.if_icmp .ne 7, 3) := by decide +kernel
theorem dX1_isMark_30 : decode cX1_isMark 30 = .ok (.iconst 1, 1) := by decide +kernel
theorem dX1_isMark_31 : decode cX1_isMark 31 = .ok (.goto 4, 3) := by decide +kernel
theorem dX1_isMark_34 : decode cX1_isMark 34 = .ok (.iconst 0, 1) := by decide +kernel
theorem dX1_isMark_35 : decode cX1_isMark 35 = .ok (.ireturn, 1) := by decide +kernel
theorem dX1_joined_0 : decode cX1_joined 0 = .ok (.iload_n 0, 1) := by decide +kernel
theorem dX1_joined_1 : decode cX1_joined 1 = .ok (.tableswitch 63 42 47 #[47, 39, 63, 43, 63, 51], 39) := by decide +kernel
theorem dX1_joined_40 : decode cX1_joined 40 = .ok (.iload_n 1, 1) := by decide +kernel
theorem dX1_joined_41 : decode cX1_joined 41 = .ok (.iload_n 2, 1) := by decide +kernel
theorem dX1_joined_42 : decode cX1_joined 42 = .ok (.iadd, 1) := by decide +kernel
theorem dX1_joined_43 : decode cX1_joined 43 = .ok (.ireturn, 1) := by decide +kernel
theorem dX1_joined_44 : decode cX1_joined 44 = .ok (.iload_n 1, 1) := by decide +kernel
theorem dX1_joined_45 : decode cX1_joined 45 = .ok (.iload_n 2, 1) := by decide +kernel
theorem dX1_joined_46 : decode cX1_joined 46 = .ok (.isub, 1) := by decide +kernel
theorem dX1_joined_47 : decode cX1_joined 47 = .ok (.ireturn, 1) := by decide +kernel
theorem dX1_joined_48 : decode cX1_joined 48 = .ok (.iload_n 1, 1) := by decide +kernel
theorem dX1_joined_49 : decode cX1_joined 49 = .ok (.iload_n 2, 1) := by decide +kernel
theorem dX1_joined_50 : decode cX1_joined 50 = .ok (.imul, 1) := by decide +kernel
theorem dX1_joined_51 : decode cX1_joined 51 = .ok (.ireturn, 1) := by decide +kernel
theorem dX1_joined_52 : decode cX1_joined 52 = .ok (.iload_n 2, 1) := by decide +kernel
theorem dX1_joined_53 : decode cX1_joined 53 = .ok (.ifCond .ne 7, 3) := by decide +kernel
theorem dX1_joined_56 : decode cX1_joined 56 = .ok (.iconst 0, 1) := by decide +kernel
theorem dX1_joined_57 : decode cX1_joined 57 = .ok (.goto 6, 3) := by decide +kernel
theorem dX1_joined_60 : decode cX1_joined 60 = .ok (.iload_n 1, 1) := by decide +kernel
theorem dX1_joined_61 : decode cX1_joined 61 = .ok (.iload_n 2, 1) := by decide +kernel
theorem dX1_joined_62 : decode cX1_joined 62 = .ok (.idiv, 1) := by decide +kernel
theorem dX1_joined_63 : decode cX1_joined 63 = .ok (.ireturn, 1) := by decide +kernel
theorem dX1_joined_64 : decode cX1_joined 64 = .ok (.iload_n 1, 1) := by decide +kernel
theorem dX1_joined_65 : decode cX1_joined 65 = .ok (.iload_n 2, 1) := by decide +kernel
theorem dX1_joined_66 : decode cX1_joined 66 = .ok (.if_icmp .le 7, 3) := by decide +kernel
theorem dX1_joined_69 : decode cX1_joined 69 = .ok (.iload_n 1, 1) := by decide +kernel
theorem dX1_joined_70 : decode cX1_joined 70 = .ok (.goto 4, 3) := by decide +kernel
theorem dX1_joined_73 : decode cX1_joined 73 = .ok (.iload_n 2, 1) := by decide +kernel
theorem dX1_joined_74 : decode cX1_joined 74 = .ok (.ireturn, 1) := by decide +kernel
theorem dX1_single_0 : decode cX1_single 0 = .ok (.iload_n 0, 1) := by decide +kernel
theorem dX1_single_1 : decode cX1_single 1 = .ok (.tableswitch 79 109 121 #[76, 73, 79, 69, 79, 79, 79, 67, 79, 79, 79, 79, 71], 67) := by decide +kernel
theorem dX1_single_68 : decode cX1_single 68 = .ok (.iload_n 1, 1) := by decide +kernel
theorem dX1_single_69 : decode cX1_single 69 = .ok (.ireturn, 1) := by decide +kernel
theorem dX1_single_70 : decode cX1_single 70 = .ok (.iload_n 2, 1) := by decide +kernel
theorem dX1_single_71 : decode cX1_single 71 = .ok (.ireturn, 1) := by decide +kernel
theorem dX1_single_72 : decode cX1_single 72 = .ok (.iload_n 3, 1) := by decide +kernel
theorem dX1_single_73 : decode cX1_single 73 = .ok (.ireturn, 1) := by decide +kernel
theorem dX1_single_74 : decode cX1_single 74 = .ok (.iload 4, 2) := by decide +kernel
theorem dX1_single_76 : decode cX1_single 76 = .ok (.ireturn, 1) := by decide +kernel
theorem dX1_single_77 : decode cX1_single 77 = .ok (.iload 5, 2) := by decide +kernel
theorem dX1_single_79 : decode cX1_single 79 = .ok (.ireturn, 1) := by decide +kernel
theorem dX1_single_80 : decode cX1_single 80 = .ok (.iconst (-1), 1) := by decide +kernel
theorem dX1_single_81 : decode cX1_single 81 = .ok (.iload_n 0, 1) := by decide +kernel
theorem dX1_single_82 : decode cX1_single 82 = .ok (.isub, 1) := by decide +kernel
theorem dX1_single_83 : decode cX1_single 83 = .ok (.ireturn, 1) := by decide +kernel
