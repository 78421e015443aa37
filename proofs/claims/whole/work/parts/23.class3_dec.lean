theorem dX1_isMark_0 : decode cX1_isMark 0 = .ok (.iload_n 0, 1) := by decide +kernel
theorem dX1_isMark_1 : decode cX1_isMark 1 = .ok (.bipush 43, 2) := by decide +kernel
theorem dX1_isMark_3 : decode cX1_isMark 3 = .ok (.if_icmp .eq 27, 3) := by decide +kernel
theorem dX1_isMark_6 : decode cX1_isMark 6 = .ok (.iload_n 0, 1) := by decide +kernel
theorem dX1_isMark_7 : decode cX1_isMark 7 = .ok (.bipush 45, 2) := by decide +kernel
theorem dX1_isMark_9 : decode cX1_isMark 9 = .ok (.if_icmp .eq 21, 3) := by decide +kernel
theorem dX1_isMark_12 : decode cX1_isMark 12 = .ok (.iload_n 0, 1) := by decide +kernel
theorem dX1_isMark_13 : decode cX1_isMark 13 = .ok (.bipush 42, 2) := by decide +kernel
theorem dX1_isMark_15 : decode cX1_isMark 15 = .ok (.if_icmp .eq 15, 3) := by decide +kernel
theorem dX1_isMark_18 : decode cX1_isMark 18 = .ok (.iload_n 0, 1) := by decide +kernel
theorem dX1_isMark_19 : decode cX1_isMark 19 = .ok (.bipush 47, 2) := by decide +kernel
theorem dX1_isMark_21 : decode cX1_isMark 21 = .ok (.if_icmp .eq 9, 3) := by decide +kernel
theorem dX1_isMark_24 : decode cX1_isMark 24 = .ok (.iload_n 0, 1) := by decide +kernel
theorem dX1_isMark_25 : decode cX1_isMark 25 = .ok (.bipush 44, 2) := by decide +kernel
theorem dX1_isMark_27 : decode cX1_isMark 27 = .ok (.if_icmp .ne 7, 3) := by decide +kernel
theorem dX1_isMark_30 : decode cX1_isMark 30 = .ok (.iconst 1, 1) := by decide +kernel
theorem dX1_isMark_31 : decode cX1_isMark 31 = .ok (.goto 4, 3) := by decide +kernel
theorem dX1_isMark_34 : decode cX1_isMark 34 = .ok (.iconst 0, 1) := by decide +kernel
theorem dX1_isMark_35 : decode cX1_isMark 35 = .ok (.ireturn, 1) := by decide +kernel
theorem dX1_joined_0 : decode cX1_joined 0 = .ok (.iload_n 0, 1) := by decide +kernel
theorem dX1_joined_1 : decode cX1_joined 1 = .ok (.tableswitch 63 42 47 #[47, 39, 63, 43, 63, 51], 39) := by decide +kernel
theorem dX1_joined_40 : decode cX1_joined 40 = .ok (.iload_n 1, 1) := by decide +kernel
theorem dX1_joined_41 : decode cX1_joined 41 = .ok (.iload_n 2, 1) := by decide +kernel
theorem dX1_joined_42 : decode cX1_joined 42 = .ok (.iadd, 1) := by decide +kernel
theorem dX1_joined_43 : decode cX1_joined 43 = .ok (.ireturn, 1) := by decide +kernel
theorem dX1_joined_44 : decode cX1_joined 44 = .ok (.iload_n 1, 1) := by decide +kernel
theorem dX1_joined_45 : decode cX1_joined 45 = .ok (.iload_n 2, 1) := by decide +kernel
theorem dX1_joined_46 : decode cX1_joined 46 = .ok (.isub, 1) := by decide +kernel
theorem dX1_joined_47 : decode cX1_joined 47 = .ok (.ireturn, 1) := by decide +kernel
theorem dX1_joined_48 : decode cX1_joined 48 = .ok (.iload_n 1, 1) := by decide +kernel
theorem dX1_joined_49 : decode cX1_joined 49 = .ok (.iload_n 2, 1) := by decide +kernel
theorem dX1_joined_50 : decode cX1_joined 50 = .ok (.imul, 1) := by decide +kernel
theorem dX1_joined_51 : decode cX1_joined 51 = .ok (.ireturn, 1) := by decide +kernel
theorem dX1_joined_52 : decode cX1_joined 52 = .ok (.iload_n 2, 1) := by decide +kernel
theorem dX1_joined_53 : decode cX1_joined 53 = .ok (.ifCond .ne 7, 3) := by decide +kernel
theorem dX1_joined_56 : decode cX1_joined 56 = .ok (.iconst 0, 1) := by decide +kernel
theorem dX1_joined_57 : decode cX1_joined 57 = .ok (.goto 6, 3) := by decide +kernel
theorem dX1_joined_60 : decode cX1_joined 60 = .ok (.iload_n 1, 1) := by decide +kernel
theorem dX1_joined_61 : decode cX1_joined 61 = .ok (.iload_n 2, 1) := by decide +kernel
theorem dX1_joined_62 : decode cX1_joined 62 = .ok (.idiv, 1) := by decide +kernel
theorem dX1_joined_63 : decode cX1_joined 63 = .ok (.ireturn, 1) := by decide +kernel
theorem dX1_joined_64 : decode cX1_joined 64 = .ok (.iload_n 1, 1) := by decide +kernel
theorem dX1_joined_65 : decode cX1_joined 65 = .ok (.iload_n 2, 1) := by decide +kernel
theorem dX1_joined_66 : decode cX1_joined 66 = .ok (.if_icmp .le 7, 3) := by decide +kernel
theorem dX1_joined_69 : decode cX1_joined 69 = .ok (.iload_n 1, 1) := by decide +kernel
theorem dX1_joined_70 : decode cX1_joined 70 = .ok (.goto 4, 3) := by decide +kernel
theorem dX1_joined_73 : decode cX1_joined 73 = .ok (.iload_n 2, 1) := by decide +kernel
theorem dX1_joined_74 : decode cX1_joined 74 = .ok (.ireturn, 1) := by decide +kernel
theorem dX1_single_0 : decode cX1_single 0 = .ok (.iload_n 0, 1) := by decide +kernel
theorem dX1_single_1 : decode cX1_single 1 = .ok (.tableswitch 79 109 121 #[76, 73, 79, 69, 79, 79, 79, 67, 79, 79, 79, 79, 71], 67) := by decide +kernel
theorem dX1_single_68 : decode cX1_single 68 = .ok (.iload_n 1, 1) := by decide +kernel
theorem dX1_single_69 : decode cX1_single 69 = .ok (.ireturn, 1) := by decide +kernel
theorem dX1_single_70 : decode cX1_single 70 = .ok (.iload_n 2, 1) := by decide +kernel
theorem dX1_single_71 : decode cX1_single 71 = .ok (.ireturn, 1) := by decide +kernel
theorem dX1_single_72 : decode cX1_single 72 = .ok (.iload_n 3, 1) := by decide +kernel
theorem dX1_single_73 : decode cX1_single 73 = .ok (.ireturn, 1) := by decide +kernel
theorem dX1_single_74 : decode cX1_single 74 = .ok (.iload 4, 2) := by decide +kernel
theorem dX1_single_76 : decode cX1_single 76 = .ok (.ireturn, 1) := by decide +kernel
theorem dX1_single_77 : decode cX1_single 77 = .ok (.iload 5, 2) := by decide +kernel
theorem dX1_single_79 : decode cX1_single 79 = .ok (.ireturn, 1) := by decide +kernel
theorem dX1_single_80 : decode cX1_single 80 = .ok (.iconst (-1), 1) := by decide +kernel
theorem dX1_single_81 : decode cX1_single 81 = .ok (.iload_n 0, 1) := by decide +kernel
theorem dX1_single_82 : decode cX1_single 82 = .ok (.isub, 1) := by decide +kernel
theorem dX1_single_83 : decode cX1_single 83 = .ok (.ireturn, 1) := by decide +kernel
theorem dX1_value_0 : decode cX1_value 0 = .ok (.iconst 0, 1) := by decide +kernel
theorem dX1_value_1 : decode cX1_value 1 = .ok (.istore 6, 2) := by decide +kernel
theorem dX1_value_3 : decode cX1_value 3 = .ok (.iconst 0, 1) := by decide +kernel
theorem dX1_value_4 : decode cX1_value 4 = .ok (.istore 7, 2) := by decide +kernel
theorem dX1_value_6 : decode cX1_value 6 = .ok (.iload 7, 2) := by decide +kernel
theorem dX1_value_8 : decode cX1_value 8 = .ok (.aload_n 0, 1) := by decide +kernel
theorem dX1_value_9 : decode cX1_value 9 = .ok (.getfield 52, 3) := by decide +kernel
theorem dX1_value_12 : decode cX1_value 12 = .ok (.if_icmp .ge 127, 3) := by decide +kernel
theorem dX1_value_15 : decode cX1_value 15 = .ok (.iload 7, 2) := by decide +kernel
theorem dX1_value_17 : decode cX1_value 17 = .ok (.aload_n 0, 1) := by decide +kernel
theorem dX1_value_18 : decode cX1_value 18 = .ok (.getfield 26, 3) := by decide +kernel
theorem dX1_value_21 : decode cX1_value 21 = .ok (.arraylength, 1) := by decide +kernel
theorem dX1_value_22 : decode cX1_value 22 = .ok (.if_icmp .ge 117, 3) := by decide +kernel
theorem dX1_value_25 : decode cX1_value 25 = .ok (.aload_n 0, 1) := by decide +kernel
theorem dX1_value_26 : decode cX1_value 26 = .ok (.getfield 26, 3) := by decide +kernel
theorem dX1_value_29 : decode cX1_value 29 = .ok (.iload 7, 2) := by decide +kernel
theorem dX1_value_31 : decode cX1_value 31 = .ok (.iaload, 1) := by decide +kernel
theorem dX1_value_32 : decode cX1_value 32 = .ok (.istore 8, 2) := by decide +kernel
theorem dX1_value_34 : decode cX1_value 34 = .ok (.iload 8, 2) := by decide +kernel
theorem dX1_value_36 : decode cX1_value 36 = .ok (.invokestatic 78, 3) := by decide +kernel
theorem dX1_value_39 : decode cX1_value 39 = .ok (.ifCond .eq 57, 3) := by decide +kernel
theorem dX1_value_42 : decode cX1_value 42 = .ok (.iload 6, 2) := by decide +kernel
theorem dX1_value_44 : decode cX1_value 44 = .ok (.iconst 2, 1) := by decide +kernel
theorem dX1_value_45 : decode cX1_value 45 = .ok (.if_icmp .lt 88, 3) := by decide +kernel
theorem dX1_value_48 : decode cX1_value 48 = .ok (.iload 6, 2) := by decide +kernel
theorem dX1_value_50 : decode cX1_value 50 = .ok (.aload_n 0, 1) := by decide +kernel
theorem dX1_value_51 : decode cX1_value 51 = .ok (.getfield 29, 3) := by decide +kernel
theorem dX1_value_54 : decode cX1_value 54 = .ok (.arraylength, 1) := by decide +kernel
theorem dX1_value_55 : decode cX1_value 55 = .ok (.if_icmp .gt 78, 3) := by decide +kernel
theorem dX1_value_58 : decode cX1_value 58 = .ok (.aload_n 0, 1) := by decide +kernel
theorem dX1_value_59 : decode cX1_value 59 = .ok (.getfield 29, 3) := by decide +kernel
theorem dX1_value_62 : decode cX1_value 62 = .ok (.iload 6, 2) := by decide +kernel
theorem dX1_value_64 : decode cX1_value 64 = .ok (.iconst 2, 1) := by decide +kernel
theorem dX1_value_65 : decode cX1_value 65 = .ok (.isub, 1) := by decide +kernel
theorem dX1_value_66 : decode cX1_value 66 = .ok (.iload 8, 2) := by decide +kernel
theorem dX1_value_68 : decode cX1_value 68 = .ok (.aload_n 0, 1) := by decide +kernel
theorem dX1_value_69 : decode cX1_value 69 = .ok (.getfield 29, 3) := by decide +kernel
theorem dX1_value_72 : decode cX1_value 72 = .ok (.iload 6, 2) := by decide +kernel
theorem dX1_value_74 : decode cX1_value 74 = .ok (.iconst 2, 1) := by decide +kernel
theorem dX1_value_75 : decode cX1_value 75 = .ok (.isub, 1) := by decide +kernel
theorem dX1_value_76 : decode cX1_value 76 = .ok (.iaload, 1) := by decide +kernel
theorem dX1_value_77 : decode cX1_value 77 = .ok (.aload_n 0, 1) := by decide +kernel
theorem dX1_value_78 : decode cX1_value 78 = .ok (.getfield 29, 3) := by decide +kernel
theorem dX1_value_81 : decode cX1_value 81 = .ok (.iload 6, 2) := by decide +kernel
theorem dX1_value_83 : decode cX1_value 83 = .ok (.iconst 1, 1) := by decide +kernel
theorem dX1_value_84 : decode cX1_value 84 = .ok (.isub, 1) := by decide +kernel
theorem dX1_value_85 : decode cX1_value 85 = .ok (.iaload, 1) := by decide +kernel
theorem dX1_value_86 : decode cX1_value 86 = .ok (.invokestatic 82, 3) := by decide +kernel
theorem dX1_value_89 : decode cX1_value 89 = .ok (.iastore, 1) := by decide +kernel
theorem dX1_value_90 : decode cX1_value 90 = .ok (.iinc 6 (-1), 3) := by decide +kernel
theorem dX1_value_93 : decode cX1_value 93 = .ok (.goto 40, 3) := by decide +kernel
theorem dX1_value_96 : decode cX1_value 96 = .ok (.iload 6, 2) := by decide +kernel
theorem dX1_value_98 : decode cX1_value 98 = .ok (.ifCond .lt 35, 3) := by decide +kernel
theorem dX1_value_101 : decode cX1_value 101 = .ok (.iload 6, 2) := by decide +kernel
theorem dX1_value_103 : decode cX1_value 103 = .ok (.aload_n 0, 1) := by decide +kernel
theorem dX1_value_104 : decode cX1_value 104 = .ok (.getfield 29, 3) := by decide +kernel
theorem dX1_value_107 : decode cX1_value 107 = .ok (.arraylength, 1) := by decide +kernel
theorem dX1_value_108 : decode cX1_value 108 = .ok (.if_icmp .ge 25, 3) := by decide +kernel
theorem dX1_value_111 : decode cX1_value 111 = .ok (.aload_n 0, 1) := by decide +kernel
theorem dX1_value_112 : decode cX1_value 112 = .ok (.getfield 29, 3) := by decide +kernel
theorem dX1_value_115 : decode cX1_value 115 = .ok (.iload 6, 2) := by decide +kernel
theorem dX1_value_117 : decode cX1_value 117 = .ok (.iload 8, 2) := by decide +kernel
theorem dX1_value_119 : decode cX1_value 119 = .ok (.iload_n 1, 1) := by decide +kernel
theorem dX1_value_120 : decode cX1_value 120 = .ok (.iload_n 2, 1) := by decide +kernel
theorem dX1_value_121 : decode cX1_value 121 = .ok (.iload_n 3, 1) := by decide +kernel
theorem dX1_value_122 : decode cX1_value 122 = .ok (.iload 4, 2) := by decide +kernel
theorem dX1_value_124 : decode cX1_value 124 = .ok (.iload 5, 2) := by decide +kernel
theorem dX1_value_126 : decode cX1_value 126 = .ok (.invokestatic 86, 3) := by decide +kernel
theorem dX1_value_129 : decode cX1_value 129 = .ok (.iastore, 1) := by decide +kernel
theorem dX1_value_130 : decode cX1_value 130 = .ok (.iinc 6 1, 3) := by decide +kernel
theorem dX1_value_133 : decode cX1_value 133 = .ok (.iinc 7 1, 3) := by decide +kernel
theorem dX1_value_136 : decode cX1_value 136 = .ok (.goto (-130), 3) := by decide +kernel
theorem dX1_value_139 : decode cX1_value 139 = .ok (.aload_n 0, 1) := by decide +kernel
theorem dX1_value_140 : decode cX1_value 140 = .ok (.getfield 29, 3) := by decide +kernel
theorem dX1_value_143 : decode cX1_value 143 = .ok (.iconst 0, 1) := by decide +kernel
theorem dX1_value_144 : decode cX1_value 144 = .ok (.invokestatic 90, 3) := by decide +kernel
theorem dX1_value_147 : decode cX1_value 147 = .ok (.ireturn, 1) := by decide +kernel
theorem dX3_leaning_0 : decode cX3_leaning 0 = .ok (.aload_n 0, 1) := by decide +kernel
theorem dX3_leaning_1 : decode cX3_leaning 1 = .ok (.iload_n 1, 1) := by decide +kernel
theorem dX3_leaning_2 : decode cX3_leaning 2 = .ok (.invokevirtual 89, 3) := by decide +kernel
theorem dX3_leaning_5 : decode cX3_leaning 5 = .ok (.astore 4, 2) := by decide +kernel
theorem dX3_leaning_7 : decode cX3_leaning 7 = .ok (.aload_n 0, 1) := by decide +kernel
theorem dX3_leaning_8 : decode cX3_leaning 8 = .ok (.getfield 36, 3) := by decide +kernel
theorem dX3_leaning_11 : decode cX3_leaning 11 = .ok (.iload_n 1, 1) := by decide +kernel
theorem dX3_leaning_12 : decode cX3_leaning 12 = .ok (.invokestatic 60, 3) := by decide +kernel
theorem dX3_leaning_15 : decode cX3_leaning 15 = .ok (.istore 5, 2) := by decide +kernel
theorem dX3_leaning_17 : decode cX3_leaning 17 = .ok (.aload_n 0, 1) := by decide +kernel
theorem dX3_leaning_18 : decode cX3_leaning 18 = .ok (.getfield 39, 3) := by decide +kernel
theorem dX3_leaning_21 : decode cX3_leaning 21 = .ok (.iload_n 1, 1) := by decide +kernel
theorem dX3_leaning_22 : decode cX3_leaning 22 = .ok (.invokestatic 60, 3) := by decide +kernel
theorem dX3_leaning_25 : decode cX3_leaning 25 = .ok (.istore 6, 2) := by decide +kernel
theorem dX3_leaning_27 : decode cX3_leaning 27 = .ok (.aload 4, 2) := by decide +kernel
theorem dX3_leaning_29 : decode cX3_leaning 29 = .ok (.ifnull 11, 3) := by decide +kernel
theorem dX3_leaning_32 : decode cX3_leaning 32 = .ok (.aload 4, 2) := by decide +kernel
theorem dX3_leaning_34 : decode cX3_leaning 34 = .ok (.getfield 93, 3) := by decide +kernel
theorem dX3_leaning_37 : decode cX3_leaning 37 = .ok (.ifnonnull 9, 3) := by decide +kernel
theorem dX3_leaning_40 : decode cX3_leaning 40 = .ok (.iload 5, 2) := by decide +kernel
theorem dX3_leaning_42 : decode cX3_leaning 42 = .ok (.iload 6, 2) := by decide +kernel
theorem dX3_leaning_44 : decode cX3_leaning 44 = .ok (.iadd, 1) := by decide +kernel
theorem dX3_leaning_45 : decode cX3_leaning 45 = .ok (.ireturn, 1) := by decide +kernel
theorem dX3_leaning_46 : decode cX3_leaning 46 = .ok (.aload 4, 2) := by decide +kernel
theorem dX3_leaning_48 : decode cX3_leaning 48 = .ok (.getfield 93, 3) := by decide +kernel
theorem dX3_leaning_51 : decode cX3_leaning 51 = .ok (.iload 5, 2) := by decide +kernel
theorem dX3_leaning_53 : decode cX3_leaning 53 = .ok (.iload 6, 2) := by decide +kernel
theorem dX3_leaning_55 : decode cX3_leaning 55 = .ok (.iload_n 2, 1) := by decide +kernel
theorem dX3_leaning_56 : decode cX3_leaning 56 = .ok (.iload_n 3, 1) := by decide +kernel
theorem dX3_leaning_57 : decode cX3_leaning 57 = .ok (.aload_n 0, 1) := by decide +kernel
theorem dX3_leaning_58 : decode cX3_leaning 58 = .ok (.getfield 97, 3) := by decide +kernel
theorem dX3_leaning_61 : decode cX3_leaning 61 = .ok (.invokevirtual 100, 3) := by decide +kernel
theorem dX3_leaning_64 : decode cX3_leaning 64 = .ok (.ireturn, 1) := by decide +kernel
theorem dX11_leans_0 : decode cX11_leans 0 = .ok (.aload_n 0, 1) := by decide +kernel
theorem dX11_leans_1 : decode cX11_leans 1 = .ok (.getfield 10, 3) := by decide +kernel
theorem dX11_leans_4 : decode cX11_leans 4 = .ok (.iload_n 1, 1) := by decide +kernel
theorem dX11_leans_5 : decode cX11_leans 5 = .ok (.invokevirtual 66, 3) := by decide +kernel
theorem dX11_leans_8 : decode cX11_leans 8 = .ok (.ifCond .ne 6, 3) := by decide +kernel
theorem dX11_leans_11 : decode cX11_leans 11 = .ok (.ldc 80, 2) := by decide +kernel
theorem dX11_leans_13 : decode cX11_leans 13 = .ok (.ireturn, 1) := by decide +kernel
theorem dX11_leans_14 : decode cX11_leans 14 = .ok (.aload_n 0, 1) := by decide +kernel
theorem dX11_leans_15 : decode cX11_leans 15 = .ok (.getfield 10, 3) := by decide +kernel
theorem dX11_leans_18 : decode cX11_leans 18 = .ok (.getfield 59, 3) := by decide +kernel
theorem dX11_leans_21 : decode cX11_leans 21 = .ok (.ifCond .eq 28, 3) := by decide +kernel
theorem dX11_leans_24 : decode cX11_leans 24 = .ok (.aload_n 0, 1) := by decide +kernel
theorem dX11_leans_25 : decode cX11_leans 25 = .ok (.getfield 10, 3) := by decide +kernel
theorem dX11_leans_28 : decode cX11_leans 28 = .ok (.iload_n 1, 1) := by decide +kernel
theorem dX11_leans_29 : decode cX11_leans 29 = .ok (.aload_n 0, 1) := by decide +kernel
theorem dX11_leans_30 : decode cX11_leans 30 = .ok (.getfield 10, 3) := by decide +kernel
theorem dX11_leans_33 : decode cX11_leans 33 = .ok (.invokevirtual 113, 3) := by decide +kernel
theorem dX11_leans_36 : decode cX11_leans 36 = .ok (.aload_n 0, 1) := by decide +kernel
theorem dX11_leans_37 : decode cX11_leans 37 = .ok (.getfield 10, 3) := by decide +kernel
theorem dX11_leans_40 : decode cX11_leans 40 = .ok (.invokevirtual 117, 3) := by decide +kernel
theorem dX11_leans_43 : decode cX11_leans 43 = .ok (.invokevirtual 120, 3) := by decide +kernel
theorem dX11_leans_46 : decode cX11_leans 46 = .ok (.goto 13, 3) := by decide +kernel
theorem dX11_leans_49 : decode cX11_leans 49 = .ok (.aload_n 0, 1) := by decide +kernel
theorem dX11_leans_50 : decode cX11_leans 50 = .ok (.getfield 10, 3) := by decide +kernel
theorem dX11_leans_53 : decode cX11_leans 53 = .ok (.iload_n 1, 1) := by decide +kernel
theorem dX11_leans_54 : decode cX11_leans 54 = .ok (.iconst 0, 1) := by decide +kernel
theorem dX11_leans_55 : decode cX11_leans 55 = .ok (.iconst 0, 1) := by decide +kernel
theorem dX11_leans_56 : decode cX11_leans 56 = .ok (.invokevirtual 120, 3) := by decide +kernel
theorem dX11_leans_59 : decode cX11_leans 59 = .ok (.ireturn, 1) := by decide +kernel
theorem dX11_shelfAt_0 : decode cX11_shelfAt 0 = .ok (.iload_n 1, 1) := by decide +kernel
theorem dX11_shelfAt_1 : decode cX11_shelfAt 1 = .ok (.ifCond .lt 21, 3) := by decide +kernel
theorem dX11_shelfAt_4 : decode cX11_shelfAt 4 = .ok (.iload_n 1, 1) := by decide +kernel
theorem dX11_shelfAt_5 : decode cX11_shelfAt 5 = .ok (.aload_n 0, 1) := by decide +kernel
theorem dX11_shelfAt_6 : decode cX11_shelfAt 6 = .ok (.getfield 24, 3) := by decide +kernel
theorem dX11_shelfAt_9 : decode cX11_shelfAt 9 = .ok (.arraylength, 1) := by decide +kernel
theorem dX11_shelfAt_10 : decode cX11_shelfAt 10 = .ok (.if_icmp .ge 12, 3) := by decide +kernel
theorem dX11_shelfAt_13 : decode cX11_shelfAt 13 = .ok (.aload_n 0, 1) := by decide +kernel
theorem dX11_shelfAt_14 : decode cX11_shelfAt 14 = .ok (.getfield 24, 3) := by decide +kernel
theorem dX11_shelfAt_17 : decode cX11_shelfAt 17 = .ok (.iload_n 1, 1) := by decide +kernel
theorem dX11_shelfAt_18 : decode cX11_shelfAt 18 = .ok (.aaload, 1) := by decide +kernel
theorem dX11_shelfAt_19 : decode cX11_shelfAt 19 = .ok (.goto 4, 3) := by decide +kernel
theorem dX11_shelfAt_22 : decode cX11_shelfAt 22 = .ok (.aconst_null, 1) := by decide +kernel
theorem dX11_shelfAt_23 : decode cX11_shelfAt 23 = .ok (.areturn, 1) := by decide +kernel
theorem dX5_isRow_0 : decode cX5_isRow 0 = .ok (.aload_n 0, 1) := by decide +kernel
theorem dX5_isRow_1 : decode cX5_isRow 1 = .ok (.getfield 11, 3) := by decide +kernel
theorem dX5_isRow_4 : decode cX5_isRow 4 = .ok (.iconst (-1), 1) := by decide +kernel
theorem dX5_isRow_5 : decode cX5_isRow 5 = .ok (.if_icmp .eq 7, 3) := by decide +kernel
theorem dX5_isRow_8 : decode cX5_isRow 8 = .ok (.iconst 1, 1) := by decide +kernel
theorem dX5_isRow_9 : decode cX5_isRow 9 = .ok (.goto 4, 3) := by decide +kernel
theorem dX5_isRow_12 : decode cX5_isRow 12 = .ok (.iconst 0, 1) := by decide +kernel
theorem dX5_isRow_13 : decode cX5_isRow 13 = .ok (.ireturn, 1) := by decide +kernel
theorem dX5_isEmpty_0 : decode cX5_isEmpty 0 = .ok (.aload_n 0, 1) := by decide +kernel
theorem dX5_isEmpty_1 : decode cX5_isEmpty 1 = .ok (.getfield 19, 3) := by decide +kernel
theorem dX5_isEmpty_4 : decode cX5_isEmpty 4 = .ok (.ifnonnull 14, 3) := by decide +kernel
theorem dX5_isEmpty_7 : decode cX5_isEmpty 7 = .ok (.aload_n 0, 1) := by decide +kernel
theorem dX5_isEmpty_8 : decode cX5_isEmpty 8 = .ok (.invokevirtual 23, 3) := by decide +kernel
theorem dX5_isEmpty_11 : decode cX5_isEmpty 11 = .ok (.ifCond .ne 7, 3) := by decide +kernel
theorem dX5_isEmpty_14 : decode cX5_isEmpty 14 = .ok (.iconst 1, 1) := by decide +kernel
theorem dX5_isEmpty_15 : decode cX5_isEmpty 15 = .ok (.goto 4, 3) := by decide +kernel
theorem dX5_isEmpty_18 : decode cX5_isEmpty 18 = .ok (.iconst 0, 1) := by decide +kernel
theorem dX5_isEmpty_19 : decode cX5_isEmpty 19 = .ok (.ireturn, 1) := by decide +kernel
theorem dX11_copyAll_0 : decode cX11_copyAll 0 = .ok (.iconst 0, 1) := by decide +kernel
theorem dX11_copyAll_1 : decode cX11_copyAll 1 = .ok (.istore_n 2, 1) := by decide +kernel
theorem dX11_copyAll_2 : decode cX11_copyAll 2 = .ok (.iload_n 2, 1) := by decide +kernel
theorem dX11_copyAll_3 : decode cX11_copyAll 3 = .ok (.aload_n 0, 1) := by decide +kernel
theorem dX11_copyAll_4 : decode cX11_copyAll 4 = .ok (.arraylength, 1) := by decide +kernel
theorem dX11_copyAll_5 : decode cX11_copyAll 5 = .ok (.if_icmp .ge 21, 3) := by decide +kernel
theorem dX11_copyAll_8 : decode cX11_copyAll 8 = .ok (.iload_n 2, 1) := by decide +kernel
theorem dX11_copyAll_9 : decode cX11_copyAll 9 = .ok (.aload_n 1, 1) := by decide +kernel
theorem dX11_copyAll_10 : decode cX11_copyAll 10 = .ok (.arraylength, 1) := by decide +kernel
theorem dX11_copyAll_11 : decode cX11_copyAll 11 = .ok (.if_icmp .ge 15, 3) := by decide +kernel
theorem dX11_copyAll_14 : decode cX11_copyAll 14 = .ok (.aload_n 1, 1) := by decide +kernel
theorem dX11_copyAll_15 : decode cX11_copyAll 15 = .ok (.iload_n 2, 1) := by decide +kernel
theorem dX11_copyAll_16 : decode cX11_copyAll 16 = .ok (.aload_n 0, 1) := by decide +kernel
theorem dX11_copyAll_17 : decode cX11_copyAll 17 = .ok (.iload_n 2, 1) := by decide +kernel
theorem dX11_copyAll_18 : decode cX11_copyAll 18 = .ok (.iaload, 1) := by decide +kernel
theorem dX11_copyAll_19 : decode cX11_copyAll 19 = .ok (.iastore, 1) := by decide +kernel
theorem dX11_copyAll_20 : decode cX11_copyAll 20 = .ok (.iinc 2 1, 3) := by decide +kernel
theorem dX11_copyAll_23 : decode cX11_copyAll 23 = .ok (.goto (-21), 3) := by decide +kernel
theorem dX11_copyAll_26 : decode cX11_copyAll 26 = .ok (.return_, 1) := by decide +kernel
