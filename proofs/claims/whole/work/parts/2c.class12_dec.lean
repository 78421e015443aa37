theorem dX5_holdRow_0 : decode cX5_holdRow 0 = .ok (.aload_n 0, 1) := by decide +kernel
theorem dX5_holdRow_1 : decode cX5_holdRow 1 = .ok (.aconst_null, 1) := by decide +kernel
theorem dX5_holdRow_2 : decode cX5_holdRow 2 = .ok (.putfield 19, 3) := by decide +kernel
theorem dX5_holdRow_5 : decode cX5_holdRow 5 = .ok (.aload_n 0, 1) := by decide +kernel
theorem dX5_holdRow_6 : decode cX5_holdRow 6 = .ok (.iload_n 1, 1) := by decide +kernel
theorem dX5_holdRow_7 : decode cX5_holdRow 7 = .ok (.putfield 11, 3) := by decide +kernel
theorem dX5_holdRow_10 : decode cX5_holdRow 10 = .ok (.aload_n 0, 1) := by decide +kernel
theorem dX5_holdRow_11 : decode cX5_holdRow 11 = .ok (.iload_n 2, 1) := by decide +kernel
theorem dX5_holdRow_12 : decode cX5_holdRow 12 = .ok (.putfield 30, 3) := by decide +kernel
theorem dX5_holdRow_15 : decode cX5_holdRow 15 = .ok (.iconst 0, 1) := by decide +kernel
theorem dX5_holdRow_16 : decode cX5_holdRow 16 = .ok (.istore_n 3, 1) := by decide +kernel
theorem dX5_holdRow_17 : decode cX5_holdRow 17 = .ok (.iload_n 3, 1) := by decide +kernel
theorem dX5_holdRow_18 : decode cX5_holdRow 18 = .ok (.aload_n 0, 1) := by decide +kernel
theorem dX5_holdRow_19 : decode cX5_holdRow 19 = .ok (.getfield 15, 3) := by decide +kernel
theorem dX5_holdRow_22 : decode cX5_holdRow 22 = .ok (.arraylength, 1) := by decide +kernel
theorem dX5_holdRow_23 : decode cX5_holdRow 23 = .ok (.if_icmp .ge 16, 3) := by decide +kernel
theorem dX5_holdRow_26 : decode cX5_holdRow 26 = .ok (.aload_n 0, 1) := by decide +kernel
theorem dX5_holdRow_27 : decode cX5_holdRow 27 = .ok (.getfield 15, 3) := by decide +kernel
theorem dX5_holdRow_30 : decode cX5_holdRow 30 = .ok (.iload_n 3, 1) := by decide +kernel
theorem dX5_holdRow_31 : decode cX5_holdRow 31 = .ok (.iconst 0, 1) := by decide +kernel
theorem dX5_holdRow_32 : decode cX5_holdRow 32 = .ok (.iastore, 1) := by decide +kernel
theorem dX5_holdRow_33 : decode cX5_holdRow 33 = .ok (.iinc 3 1, 3) := by decide +kernel
theorem dX5_holdRow_36 : decode cX5_holdRow 36 = .ok (.goto (-19), 3) := by decide +kernel
theorem dX5_holdRow_39 : decode cX5_holdRow 39 = .ok (.return_, 1) := by decide +kernel
theorem dX11_row_0 : decode cX11_row 0 = .ok (.aload_n 0, 1) := by decide +kernel
theorem dX11_row_1 : decode cX11_row 1 = .ok (.iload_n 1, 1) := by decide +kernel
theorem dX11_row_2 : decode cX11_row 2 = .ok (.invokevirtual 124, 3) := by decide +kernel
theorem dX11_row_5 : decode cX11_row 5 = .ok (.astore 4, 2) := by decide +kernel
theorem dX11_row_7 : decode cX11_row 7 = .ok (.aload 4, 2) := by decide +kernel
theorem dX11_row_9 : decode cX11_row 9 = .ok (.ifnull 18, 3) := by decide +kernel
theorem dX11_row_12 : decode cX11_row 12 = .ok (.iload_n 2, 1) := by decide +kernel
theorem dX11_row_13 : decode cX11_row 13 = .ok (.ifCond .lt 14, 3) := by decide +kernel
theorem dX11_row_16 : decode cX11_row 16 = .ok (.iload_n 2, 1) := by decide +kernel
theorem dX11_row_17 : decode cX11_row 17 = .ok (.iconst 2, 1) := by decide +kernel
theorem dX11_row_18 : decode cX11_row 18 = .ok (.if_icmp .gt 9, 3) := by decide +kernel
theorem dX11_row_21 : decode cX11_row 21 = .ok (.iload_n 3, 1) := by decide +kernel
theorem dX11_row_22 : decode cX11_row 22 = .ok (.bipush 100, 2) := by decide +kernel
theorem dX11_row_24 : decode cX11_row 24 = .ok (.if_icmp .le 5, 3) := by decide +kernel
theorem dX11_row_27 : decode cX11_row 27 = .ok (.iconst (-1), 1) := by decide +kernel
theorem dX11_row_28 : decode cX11_row 28 = .ok (.ireturn, 1) := by decide +kernel
theorem dX11_row_29 : decode cX11_row 29 = .ok (.iload_n 3, 1) := by decide +kernel
theorem dX11_row_30 : decode cX11_row 30 = .ok (.ifCond .ge 6, 3) := by decide +kernel
theorem dX11_row_33 : decode cX11_row 33 = .ok (.bipush (-14), 2) := by decide +kernel
theorem dX11_row_35 : decode cX11_row 35 = .ok (.ireturn, 1) := by decide +kernel
theorem dX11_row_36 : decode cX11_row 36 = .ok (.aload 4, 2) := by decide +kernel
theorem dX11_row_38 : decode cX11_row 38 = .ok (.iload_n 2, 1) := by decide +kernel
theorem dX11_row_39 : decode cX11_row 39 = .ok (.iload_n 3, 1) := by decide +kernel
theorem dX11_row_40 : decode cX11_row 40 = .ok (.invokevirtual 237, 3) := by decide +kernel
theorem dX11_row_43 : decode cX11_row 43 = .ok (.iconst 0, 1) := by decide +kernel
theorem dX11_row_44 : decode cX11_row 44 = .ok (.ireturn, 1) := by decide +kernel
theorem dX5_hasPlaces_0 : decode cX5_hasPlaces 0 = .ok (.iload_n 1, 1) := by decide +kernel
theorem dX5_hasPlaces_1 : decode cX5_hasPlaces 1 = .ok (.ifCond .lt 29, 3) := by decide +kernel
theorem dX5_hasPlaces_4 : decode cX5_hasPlaces 4 = .ok (.iload_n 2, 1) := by decide +kernel
theorem dX5_hasPlaces_5 : decode cX5_hasPlaces 5 = .ok (.ifCond .lt 25, 3) := by decide +kernel
theorem dX5_hasPlaces_8 : decode cX5_hasPlaces 8 = .ok (.iload_n 2, 1) := by decide +kernel
theorem dX5_hasPlaces_9 : decode cX5_hasPlaces 9 = .ok (.aload_n 0, 1) := by decide +kernel
theorem dX5_hasPlaces_10 : decode cX5_hasPlaces 10 = .ok (.getfield 30, 3) := by decide +kernel
theorem dX5_hasPlaces_13 : decode cX5_hasPlaces 13 = .ok (.if_icmp .gt 17, 3) := by decide +kernel
theorem dX5_hasPlaces_16 : decode cX5_hasPlaces 16 = .ok (.iload_n 1, 1) := by decide +kernel
theorem dX5_hasPlaces_17 : decode cX5_hasPlaces 17 = .ok (.aload_n 0, 1) := by decide +kernel
theorem dX5_hasPlaces_18 : decode cX5_hasPlaces 18 = .ok (.getfield 30, 3) := by decide +kernel
theorem dX5_hasPlaces_21 : decode cX5_hasPlaces 21 = .ok (.iload_n 2, 1) := by decide +kernel
theorem dX5_hasPlaces_22 : decode cX5_hasPlaces 22 = .ok (.isub, 1) := by decide +kernel
theorem dX5_hasPlaces_23 : decode cX5_hasPlaces 23 = .ok (.if_icmp .gt 7, 3) := by decide +kernel
theorem dX5_hasPlaces_26 : decode cX5_hasPlaces 26 = .ok (.iconst 1, 1) := by decide +kernel
theorem dX5_hasPlaces_27 : decode cX5_hasPlaces 27 = .ok (.goto 4, 3) := by decide +kernel
theorem dX5_hasPlaces_30 : decode cX5_hasPlaces 30 = .ok (.iconst 0, 1) := by decide +kernel
theorem dX5_hasPlaces_31 : decode cX5_hasPlaces 31 = .ok (.ireturn, 1) := by decide +kernel
theorem dX5_lowestBits_0 : decode cX5_lowestBits 0 = .ok (.aload_n 0, 1) := by decide +kernel
theorem dX5_lowestBits_1 : decode cX5_lowestBits 1 = .ok (.getfield 11, 3) := by decide +kernel
theorem dX5_lowestBits_4 : decode cX5_lowestBits 4 = .ok (.lookupswitch 34 #[(0, 28), (1, 31)], 28) := by decide +kernel
theorem dX5_lowestBits_32 : decode cX5_lowestBits 32 = .ok (.iload_n 1, 1) := by decide +kernel
theorem dX5_lowestBits_33 : decode cX5_lowestBits 33 = .ok (.i2b, 1) := by decide +kernel
theorem dX5_lowestBits_34 : decode cX5_lowestBits 34 = .ok (.ireturn, 1) := by decide +kernel
theorem dX5_lowestBits_35 : decode cX5_lowestBits 35 = .ok (.iload_n 1, 1) := by decide +kernel
theorem dX5_lowestBits_36 : decode cX5_lowestBits 36 = .ok (.i2s, 1) := by decide +kernel
theorem dX5_lowestBits_37 : decode cX5_lowestBits 37 = .ok (.ireturn, 1) := by decide +kernel
theorem dX5_lowestBits_38 : decode cX5_lowestBits 38 = .ok (.iload_n 1, 1) := by decide +kernel
theorem dX5_lowestBits_39 : decode cX5_lowestBits 39 = .ok (.ireturn, 1) := by decide +kernel
theorem dX11_put_0 : decode cX11_put 0 = .ok (.aload_n 0, 1) := by decide +kernel
theorem dX11_put_1 : decode cX11_put 1 = .ok (.iload_n 1, 1) := by decide +kernel
theorem dX11_put_2 : decode cX11_put 2 = .ok (.invokevirtual 124, 3) := by decide +kernel
theorem dX11_put_5 : decode cX11_put 5 = .ok (.astore 4, 2) := by decide +kernel
theorem dX11_put_7 : decode cX11_put 7 = .ok (.aload 4, 2) := by decide +kernel
theorem dX11_put_9 : decode cX11_put 9 = .ok (.ifnonnull 5, 3) := by decide +kernel
theorem dX11_put_12 : decode cX11_put 12 = .ok (.iconst (-1), 1) := by decide +kernel
theorem dX11_put_13 : decode cX11_put 13 = .ok (.ireturn, 1) := by decide +kernel
theorem dX11_put_14 : decode cX11_put 14 = .ok (.aload 4, 2) := by decide +kernel
theorem dX11_put_16 : decode cX11_put 16 = .ok (.invokevirtual 128, 3) := by decide +kernel
theorem dX11_put_19 : decode cX11_put 19 = .ok (.ifCond .eq 6, 3) := by decide +kernel
theorem dX11_put_22 : decode cX11_put 22 = .ok (.bipush (-11), 2) := by decide +kernel
theorem dX11_put_24 : decode cX11_put 24 = .ok (.ireturn, 1) := by decide +kernel
theorem dX11_put_25 : decode cX11_put 25 = .ok (.aload 4, 2) := by decide +kernel
theorem dX11_put_27 : decode cX11_put 27 = .ok (.invokevirtual 241, 3) := by decide +kernel
theorem dX11_put_30 : decode cX11_put 30 = .ok (.ifCond .ne 6, 3) := by decide +kernel
theorem dX11_put_33 : decode cX11_put 33 = .ok (.bipush (-12), 2) := by decide +kernel
theorem dX11_put_35 : decode cX11_put 35 = .ok (.ireturn, 1) := by decide +kernel
theorem dX11_put_36 : decode cX11_put 36 = .ok (.aload 4, 2) := by decide +kernel
theorem dX11_put_38 : decode cX11_put 38 = .ok (.iload_n 2, 1) := by decide +kernel
theorem dX11_put_39 : decode cX11_put 39 = .ok (.iconst 1, 1) := by decide +kernel
theorem dX11_put_40 : decode cX11_put 40 = .ok (.invokevirtual 244, 3) := by decide +kernel
theorem dX11_put_43 : decode cX11_put 43 = .ok (.ifCond .ne 6, 3) := by decide +kernel
theorem dX11_put_46 : decode cX11_put 46 = .ok (.bipush (-13), 2) := by decide +kernel
theorem dX11_put_48 : decode cX11_put 48 = .ok (.ireturn, 1) := by decide +kernel
theorem dX11_put_49 : decode cX11_put 49 = .ok (.aload 4, 2) := by decide +kernel
theorem dX11_put_51 : decode cX11_put 51 = .ok (.getfield 137, 3) := by decide +kernel
theorem dX11_put_54 : decode cX11_put 54 = .ok (.iload_n 2, 1) := by decide +kernel
theorem dX11_put_55 : decode cX11_put 55 = .ok (.aload 4, 2) := by decide +kernel
theorem dX11_put_57 : decode cX11_put 57 = .ok (.iload_n 3, 1) := by decide +kernel
theorem dX11_put_58 : decode cX11_put 58 = .ok (.invokevirtual 248, 3) := by decide +kernel
theorem dX11_put_61 : decode cX11_put 61 = .ok (.invokestatic 37, 3) := by decide +kernel
theorem dX11_put_64 : decode cX11_put 64 = .ok (.iconst 0, 1) := by decide +kernel
theorem dX11_put_65 : decode cX11_put 65 = .ok (.ireturn, 1) := by decide +kernel
theorem dX11_copy_0 : decode cX11_copy 0 = .ok (.aload_n 0, 1) := by decide +kernel
theorem dX11_copy_1 : decode cX11_copy 1 = .ok (.iload_n 1, 1) := by decide +kernel
theorem dX11_copy_2 : decode cX11_copy 2 = .ok (.invokevirtual 124, 3) := by decide +kernel
theorem dX11_copy_5 : decode cX11_copy 5 = .ok (.astore 6, 2) := by decide +kernel
theorem dX11_copy_7 : decode cX11_copy 7 = .ok (.aload_n 0, 1) := by decide +kernel
theorem dX11_copy_8 : decode cX11_copy 8 = .ok (.iload_n 3, 1) := by decide +kernel
theorem dX11_copy_9 : decode cX11_copy 9 = .ok (.invokevirtual 124, 3) := by decide +kernel
theorem dX11_copy_12 : decode cX11_copy 12 = .ok (.astore 7, 2) := by decide +kernel
theorem dX11_copy_14 : decode cX11_copy 14 = .ok (.aload 6, 2) := by decide +kernel
theorem dX11_copy_16 : decode cX11_copy 16 = .ok (.ifnull 8, 3) := by decide +kernel
theorem dX11_copy_19 : decode cX11_copy 19 = .ok (.aload 7, 2) := by decide +kernel
theorem dX11_copy_21 : decode cX11_copy 21 = .ok (.ifnonnull 5, 3) := by decide +kernel
theorem dX11_copy_24 : decode cX11_copy 24 = .ok (.iconst (-1), 1) := by decide +kernel
theorem dX11_copy_25 : decode cX11_copy 25 = .ok (.ireturn, 1) := by decide +kernel
theorem dX11_copy_26 : decode cX11_copy 26 = .ok (.aload 6, 2) := by decide +kernel
theorem dX11_copy_28 : decode cX11_copy 28 = .ok (.invokevirtual 128, 3) := by decide +kernel
theorem dX11_copy_31 : decode cX11_copy 31 = .ok (.ifCond .ne 11, 3) := by decide +kernel
theorem dX11_copy_34 : decode cX11_copy 34 = .ok (.aload 7, 2) := by decide +kernel
theorem dX11_copy_36 : decode cX11_copy 36 = .ok (.invokevirtual 128, 3) := by decide +kernel
theorem dX11_copy_39 : decode cX11_copy 39 = .ok (.ifCond .eq 6, 3) := by decide +kernel
theorem dX11_copy_42 : decode cX11_copy 42 = .ok (.bipush (-11), 2) := by decide +kernel
theorem dX11_copy_44 : decode cX11_copy 44 = .ok (.ireturn, 1) := by decide +kernel
theorem dX11_copy_45 : decode cX11_copy 45 = .ok (.aload 6, 2) := by decide +kernel
theorem dX11_copy_47 : decode cX11_copy 47 = .ok (.invokevirtual 241, 3) := by decide +kernel
theorem dX11_copy_50 : decode cX11_copy 50 = .ok (.ifCond .eq 16, 3) := by decide +kernel
theorem dX11_copy_53 : decode cX11_copy 53 = .ok (.aload 6, 2) := by decide +kernel
theorem dX11_copy_55 : decode cX11_copy 55 = .ok (.getfield 132, 3) := by decide +kernel
theorem dX11_copy_58 : decode cX11_copy 58 = .ok (.aload 7, 2) := by decide +kernel
theorem dX11_copy_60 : decode cX11_copy 60 = .ok (.getfield 132, 3) := by decide +kernel
theorem dX11_copy_63 : decode cX11_copy 63 = .ok (.if_icmp .eq 6, 3) := by decide +kernel
theorem dX11_copy_66 : decode cX11_copy 66 = .ok (.bipush (-12), 2) := by decide +kernel
theorem dX11_copy_68 : decode cX11_copy 68 = .ok (.ireturn, 1) := by decide +kernel
theorem dX11_copy_69 : decode cX11_copy 69 = .ok (.aload 6, 2) := by decide +kernel
theorem dX11_copy_71 : decode cX11_copy 71 = .ok (.iload_n 2, 1) := by decide +kernel
theorem dX11_copy_72 : decode cX11_copy 72 = .ok (.iload 5, 2) := by decide +kernel
theorem dX11_copy_74 : decode cX11_copy 74 = .ok (.invokevirtual 244, 3) := by decide +kernel
theorem dX11_copy_77 : decode cX11_copy 77 = .ok (.ifCond .eq 15, 3) := by decide +kernel
theorem dX11_copy_80 : decode cX11_copy 80 = .ok (.aload 7, 2) := by decide +kernel
theorem dX11_copy_82 : decode cX11_copy 82 = .ok (.iload 4, 2) := by decide +kernel
theorem dX11_copy_84 : decode cX11_copy 84 = .ok (.iload 5, 2) := by decide +kernel
theorem dX11_copy_86 : decode cX11_copy 86 = .ok (.invokevirtual 244, 3) := by decide +kernel
theorem dX11_copy_89 : decode cX11_copy 89 = .ok (.ifCond .ne 6, 3) := by decide +kernel
theorem dX11_copy_92 : decode cX11_copy 92 = .ok (.bipush (-13), 2) := by decide +kernel
theorem dX11_copy_94 : decode cX11_copy 94 = .ok (.ireturn, 1) := by decide +kernel
theorem dX11_copy_95 : decode cX11_copy 95 = .ok (.iconst 0, 1) := by decide +kernel
theorem dX11_copy_96 : decode cX11_copy 96 = .ok (.istore 8, 2) := by decide +kernel
theorem dX11_copy_98 : decode cX11_copy 98 = .ok (.iload 8, 2) := by decide +kernel
theorem dX11_copy_100 : decode cX11_copy 100 = .ok (.iload 5, 2) := by decide +kernel
theorem dX11_copy_102 : decode cX11_copy 102 = .ok (.if_icmp .ge 54, 3) := by decide +kernel
theorem dX11_copy_105 : decode cX11_copy 105 = .ok (.iload_n 2, 1) := by decide +kernel
theorem dX11_copy_106 : decode cX11_copy 106 = .ok (.iload 4, 2) := by decide +kernel
theorem dX11_copy_108 : decode cX11_copy 108 = .ok (.if_icmp .ge 13, 3) := by decide +kernel
theorem dX11_copy_111 : decode cX11_copy 111 = .ok (.iload 5, 2) := by decide +kernel
theorem dX11_copy_113 : decode cX11_copy 113 = .ok (.iconst 1, 1) := by decide +kernel
theorem dX11_copy_114 : decode cX11_copy 114 = .ok (.isub, 1) := by decide +kernel
theorem dX11_copy_115 : decode cX11_copy 115 = .ok (.iload 8, 2) := by decide +kernel
theorem dX11_copy_117 : decode cX11_copy 117 = .ok (.isub, 1) := by decide +kernel
theorem dX11_copy_118 : decode cX11_copy 118 = .ok (.goto 5, 3) := by decide +kernel
theorem dX11_copy_121 : decode cX11_copy 121 = .ok (.iload 8, 2) := by decide +kernel
theorem dX11_copy_123 : decode cX11_copy 123 = .ok (.istore 9, 2) := by decide +kernel
theorem dX11_copy_125 : decode cX11_copy 125 = .ok (.aload 7, 2) := by decide +kernel
theorem dX11_copy_127 : decode cX11_copy 127 = .ok (.getfield 137, 3) := by decide +kernel
theorem dX11_copy_130 : decode cX11_copy 130 = .ok (.iload 4, 2) := by decide +kernel
theorem dX11_copy_132 : decode cX11_copy 132 = .ok (.iload 9, 2) := by decide +kernel
theorem dX11_copy_134 : decode cX11_copy 134 = .ok (.iadd, 1) := by decide +kernel
theorem dX11_copy_135 : decode cX11_copy 135 = .ok (.aload 6, 2) := by decide +kernel
theorem dX11_copy_137 : decode cX11_copy 137 = .ok (.getfield 137, 3) := by decide +kernel
theorem dX11_copy_140 : decode cX11_copy 140 = .ok (.iload_n 2, 1) := by decide +kernel
theorem dX11_copy_141 : decode cX11_copy 141 = .ok (.iload 9, 2) := by decide +kernel
theorem dX11_copy_143 : decode cX11_copy 143 = .ok (.iadd, 1) := by decide +kernel
theorem dX11_copy_144 : decode cX11_copy 144 = .ok (.invokestatic 72, 3) := by decide +kernel
theorem dX11_copy_147 : decode cX11_copy 147 = .ok (.invokestatic 37, 3) := by decide +kernel
theorem dX11_copy_150 : decode cX11_copy 150 = .ok (.iinc 8 1, 3) := by decide +kernel
theorem dX11_copy_153 : decode cX11_copy 153 = .ok (.goto (-55), 3) := by decide +kernel
theorem dX11_copy_156 : decode cX11_copy 156 = .ok (.iload 5, 2) := by decide +kernel
theorem dX11_copy_158 : decode cX11_copy 158 = .ok (.ireturn, 1) := by decide +kernel
theorem dX10_loudness_0 : decode cX10_loudness 0 = .ok (.aload_n 0, 1) := by decide +kernel
theorem dX10_loudness_1 : decode cX10_loudness 1 = .ok (.getfield 19, 3) := by decide +kernel
theorem dX10_loudness_4 : decode cX10_loudness 4 = .ok (.ireturn, 1) := by decide +kernel
theorem dX0_loudness_0 : decode cX0_loudness 0 = .ok (.aload_n 0, 1) := by decide +kernel
theorem dX0_loudness_1 : decode cX0_loudness 1 = .ok (.iload_n 1, 1) := by decide +kernel
theorem dX0_loudness_2 : decode cX0_loudness 2 = .ok (.invokespecial 28, 3) := by decide +kernel
theorem dX0_loudness_5 : decode cX0_loudness 5 = .ok (.aload_n 0, 1) := by decide +kernel
theorem dX0_loudness_6 : decode cX0_loudness 6 = .ok (.getfield 32, 3) := by decide +kernel
theorem dX0_loudness_9 : decode cX0_loudness 9 = .ok (.iadd, 1) := by decide +kernel
theorem dX0_loudness_10 : decode cX0_loudness 10 = .ok (.ireturn, 1) := by decide +kernel
theorem dX2_loudness_0 : decode cX2_loudness 0 = .ok (.iconst 2, 1) := by decide +kernel
theorem dX2_loudness_1 : decode cX2_loudness 1 = .ok (.aload_n 0, 1) := by decide +kernel
theorem dX2_loudness_2 : decode cX2_loudness 2 = .ok (.iload_n 1, 1) := by decide +kernel
theorem dX2_loudness_3 : decode cX2_loudness 3 = .ok (.invokespecial 39, 3) := by decide +kernel
theorem dX2_loudness_6 : decode cX2_loudness 6 = .ok (.imul, 1) := by decide +kernel
theorem dX2_loudness_7 : decode cX2_loudness 7 = .ok (.ireturn, 1) := by decide +kernel
theorem dX4_loudness_0 : decode cX4_loudness 0 = .ok (.aload_n 0, 1) := by decide +kernel
theorem dX4_loudness_1 : decode cX4_loudness 1 = .ok (.iload_n 1, 1) := by decide +kernel
theorem dX4_loudness_2 : decode cX4_loudness 2 = .ok (.invokespecial 27, 3) := by decide +kernel
theorem dX4_loudness_5 : decode cX4_loudness 5 = .ok (.bipush 10, 2) := by decide +kernel
theorem dX4_loudness_7 : decode cX4_loudness 7 = .ok (.iadd, 1) := by decide +kernel
theorem dX4_loudness_8 : decode cX4_loudness 8 = .ok (.ireturn, 1) := by decide +kernel
theorem dX6_loudness_0 : decode cX6_loudness 0 = .ok (.aload_n 0, 1) := by decide +kernel
theorem dX6_loudness_1 : decode cX6_loudness 1 = .ok (.iload_n 1, 1) := by decide +kernel
theorem dX6_loudness_2 : decode cX6_loudness 2 = .ok (.invokespecial 7, 3) := by decide +kernel
theorem dX6_loudness_5 : decode cX6_loudness 5 = .ok (.iconst 1, 1) := by decide +kernel
theorem dX6_loudness_6 : decode cX6_loudness 6 = .ok (.isub, 1) := by decide +kernel
theorem dX6_loudness_7 : decode cX6_loudness 7 = .ok (.ireturn, 1) := by decide +kernel
theorem dX7_loudness_0 : decode cX7_loudness 0 = .ok (.aload_n 0, 1) := by decide +kernel
theorem dX7_loudness_1 : decode cX7_loudness 1 = .ok (.iload_n 1, 1) := by decide +kernel
theorem dX7_loudness_2 : decode cX7_loudness 2 = .ok (.invokespecial 39, 3) := by decide +kernel
theorem dX7_loudness_5 : decode cX7_loudness 5 = .ok (.aload_n 0, 1) := by decide +kernel
theorem dX7_loudness_6 : decode cX7_loudness 6 = .ok (.getfield 15, 3) := by decide +kernel
theorem dX7_loudness_9 : decode cX7_loudness 9 = .ok (.iadd, 1) := by decide +kernel
theorem dX7_loudness_10 : decode cX7_loudness 10 = .ok (.ireturn, 1) := by decide +kernel
theorem dX9_loudness_0 : decode cX9_loudness 0 = .ok (.aload_n 0, 1) := by decide +kernel
theorem dX9_loudness_1 : decode cX9_loudness 1 = .ok (.iload_n 1, 1) := by decide +kernel
theorem dX9_loudness_2 : decode cX9_loudness 2 = .ok (.invokespecial 17, 3) := by decide +kernel
theorem dX9_loudness_5 : decode cX9_loudness 5 = .ok (.iload_n 1, 1) := by decide +kernel
theorem dX9_loudness_6 : decode cX9_loudness 6 = .ok (.invokestatic 20, 3) := by decide +kernel
theorem dX9_loudness_9 : decode cX9_loudness 9 = .ok (.iadd, 1) := by decide +kernel
theorem dX9_loudness_10 : decode cX9_loudness 10 = .ok (.ireturn, 1) := by decide +kernel
theorem dX8_loudness_0 : decode cX8_loudness 0 = .ok (.aload_n 0, 1) := by decide +kernel
theorem dX8_loudness_1 : decode cX8_loudness 1 = .ok (.iload_n 1, 1) := by decide +kernel
theorem dX8_loudness_2 : decode cX8_loudness 2 = .ok (.invokespecial 48, 3) := by decide +kernel
theorem dX8_loudness_5 : decode cX8_loudness 5 = .ok (.iconst 5, 1) := by decide +kernel
theorem dX8_loudness_6 : decode cX8_loudness 6 = .ok (.iadd, 1) := by decide +kernel
theorem dX8_loudness_7 : decode cX8_loudness 7 = .ok (.ireturn, 1) := by decide +kernel
