theorem dX12_leansIn_0 : decode cX12_leansIn 0 = .ok (.aload_n 0, 1) := by decide +kernel
theorem dX12_leansIn_1 : decode cX12_leansIn 1 = .ok (.aload_n 1, 1) := by decide +kernel
theorem dX12_leansIn_2 : decode cX12_leansIn 2 = .ok (.bipush 7, 2) := by decide +kernel
theorem dX12_leansIn_4 : decode cX12_leansIn 4 = .ok (.iload_n 2, 1) := by decide +kernel
theorem dX12_leansIn_5 : decode cX12_leansIn 5 = .ok (.iadd, 1) := by decide +kernel
theorem dX12_leansIn_6 : decode cX12_leansIn 6 = .ok (.iaload, 1) := by decide +kernel
theorem dX12_leansIn_7 : decode cX12_leansIn 7 = .ok (.aload_n 1, 1) := by decide +kernel
theorem dX12_leansIn_8 : decode cX12_leansIn 8 = .ok (.bipush 19, 2) := by decide +kernel
theorem dX12_leansIn_10 : decode cX12_leansIn 10 = .ok (.iload_n 2, 1) := by decide +kernel
theorem dX12_leansIn_11 : decode cX12_leansIn 11 = .ok (.iadd, 1) := by decide +kernel
theorem dX12_leansIn_12 : decode cX12_leansIn 12 = .ok (.iaload, 1) := by decide +kernel
theorem dX12_leansIn_13 : decode cX12_leansIn 13 = .ok (.aload_n 1, 1) := by decide +kernel
theorem dX12_leansIn_14 : decode cX12_leansIn 14 = .ok (.bipush 31, 2) := by decide +kernel
theorem dX12_leansIn_16 : decode cX12_leansIn 16 = .ok (.iload_n 2, 1) := by decide +kernel
theorem dX12_leansIn_17 : decode cX12_leansIn 17 = .ok (.iadd, 1) := by decide +kernel
theorem dX12_leansIn_18 : decode cX12_leansIn 18 = .ok (.iaload, 1) := by decide +kernel
theorem dX12_leansIn_19 : decode cX12_leansIn 19 = .ok (.invokevirtual 184, 3) := by decide +kernel
theorem dX12_leansIn_22 : decode cX12_leansIn 22 = .ok (.ireturn, 1) := by decide +kernel
theorem dX12_saysYes_0 : decode cX12_saysYes 0 = .ok (.aload_n 1, 1) := by decide +kernel
theorem dX12_saysYes_1 : decode cX12_saysYes 1 = .ok (.bipush 55, 2) := by decide +kernel
theorem dX12_saysYes_3 : decode cX12_saysYes 3 = .ok (.iload_n 2, 1) := by decide +kernel
theorem dX12_saysYes_4 : decode cX12_saysYes 4 = .ok (.iadd, 1) := by decide +kernel
theorem dX12_saysYes_5 : decode cX12_saysYes 5 = .ok (.iaload, 1) := by decide +kernel
theorem dX12_saysYes_6 : decode cX12_saysYes 6 = .ok (.ifCond .le 21, 3) := by decide +kernel
theorem dX12_saysYes_9 : decode cX12_saysYes 9 = .ok (.aload_n 1, 1) := by decide +kernel
theorem dX12_saysYes_10 : decode cX12_saysYes 10 = .ok (.bipush 55, 2) := by decide +kernel
theorem dX12_saysYes_12 : decode cX12_saysYes 12 = .ok (.iload_n 2, 1) := by decide +kernel
theorem dX12_saysYes_13 : decode cX12_saysYes 13 = .ok (.iadd, 1) := by decide +kernel
theorem dX12_saysYes_14 : decode cX12_saysYes 14 = .ok (.iaload, 1) := by decide +kernel
theorem dX12_saysYes_15 : decode cX12_saysYes 15 = .ok (.iconst 2, 1) := by decide +kernel
theorem dX12_saysYes_16 : decode cX12_saysYes 16 = .ok (.if_icmp .ne 7, 3) := by decide +kernel
theorem dX12_saysYes_19 : decode cX12_saysYes 19 = .ok (.iconst 1, 1) := by decide +kernel
theorem dX12_saysYes_20 : decode cX12_saysYes 20 = .ok (.goto 32, 3) := by decide +kernel
theorem dX12_saysYes_23 : decode cX12_saysYes 23 = .ok (.iconst 0, 1) := by decide +kernel
theorem dX12_saysYes_24 : decode cX12_saysYes 24 = .ok (.goto 28, 3) := by decide +kernel
theorem dX12_saysYes_27 : decode cX12_saysYes 27 = .ok (.aload_n 0, 1) := by decide +kernel
theorem dX12_saysYes_28 : decode cX12_saysYes 28 = .ok (.aload_n 1, 1) := by decide +kernel
theorem dX12_saysYes_29 : decode cX12_saysYes 29 = .ok (.iload_n 2, 1) := by decide +kernel
theorem dX12_saysYes_30 : decode cX12_saysYes 30 = .ok (.invokevirtual 196, 3) := by decide +kernel
theorem dX12_saysYes_33 : decode cX12_saysYes 33 = .ok (.aload_n 0, 1) := by decide +kernel
theorem dX12_saysYes_34 : decode cX12_saysYes 34 = .ok (.aload_n 1, 1) := by decide +kernel
theorem dX12_saysYes_35 : decode cX12_saysYes 35 = .ok (.bipush 7, 2) := by decide +kernel
theorem dX12_saysYes_37 : decode cX12_saysYes 37 = .ok (.iload_n 2, 1) := by decide +kernel
theorem dX12_saysYes_38 : decode cX12_saysYes 38 = .ok (.iadd, 1) := by decide +kernel
theorem dX12_saysYes_39 : decode cX12_saysYes 39 = .ok (.iaload, 1) := by decide +kernel
theorem dX12_saysYes_40 : decode cX12_saysYes 40 = .ok (.iconst 3, 1) := by decide +kernel
theorem dX12_saysYes_41 : decode cX12_saysYes 41 = .ok (.invokevirtual 98, 3) := by decide +kernel
theorem dX12_saysYes_44 : decode cX12_saysYes 44 = .ok (.if_icmp .lt 7, 3) := by decide +kernel
theorem dX12_saysYes_47 : decode cX12_saysYes 47 = .ok (.iconst 1, 1) := by decide +kernel
theorem dX12_saysYes_48 : decode cX12_saysYes 48 = .ok (.goto 4, 3) := by decide +kernel
theorem dX12_saysYes_51 : decode cX12_saysYes 51 = .ok (.iconst 0, 1) := by decide +kernel
theorem dX12_saysYes_52 : decode cX12_saysYes 52 = .ok (.ireturn, 1) := by decide +kernel
theorem dX12_begins_0 : decode cX12_begins 0 = .ok (.aload_n 1, 1) := by decide +kernel
theorem dX12_begins_1 : decode cX12_begins 1 = .ok (.iconst 0, 1) := by decide +kernel
theorem dX12_begins_2 : decode cX12_begins 2 = .ok (.iconst 0, 1) := by decide +kernel
theorem dX12_begins_3 : decode cX12_begins 3 = .ok (.iastore, 1) := by decide +kernel
theorem dX12_begins_4 : decode cX12_begins 4 = .ok (.aload_n 1, 1) := by decide +kernel
theorem dX12_begins_5 : decode cX12_begins 5 = .ok (.iconst 3, 1) := by decide +kernel
theorem dX12_begins_6 : decode cX12_begins 6 = .ok (.iconst 0, 1) := by decide +kernel
theorem dX12_begins_7 : decode cX12_begins 7 = .ok (.iastore, 1) := by decide +kernel
theorem dX12_begins_8 : decode cX12_begins 8 = .ok (.aload_n 1, 1) := by decide +kernel
theorem dX12_begins_9 : decode cX12_begins 9 = .ok (.iconst 4, 1) := by decide +kernel
theorem dX12_begins_10 : decode cX12_begins 10 = .ok (.iload_n 2, 1) := by decide +kernel
theorem dX12_begins_11 : decode cX12_begins 11 = .ok (.iastore, 1) := by decide +kernel
theorem dX12_begins_12 : decode cX12_begins 12 = .ok (.aload_n 1, 1) := by decide +kernel
theorem dX12_begins_13 : decode cX12_begins 13 = .ok (.bipush 6, 2) := by decide +kernel
theorem dX12_begins_15 : decode cX12_begins 15 = .ok (.iconst 1, 1) := by decide +kernel
theorem dX12_begins_16 : decode cX12_begins 16 = .ok (.iastore, 1) := by decide +kernel
theorem dX12_begins_17 : decode cX12_begins 17 = .ok (.aload_n 0, 1) := by decide +kernel
theorem dX12_begins_18 : decode cX12_begins 18 = .ok (.iconst 0, 1) := by decide +kernel
theorem dX12_begins_19 : decode cX12_begins 19 = .ok (.iconst 0, 1) := by decide +kernel
theorem dX12_begins_20 : decode cX12_begins 20 = .ok (.iconst 0, 1) := by decide +kernel
theorem dX12_begins_21 : decode cX12_begins 21 = .ok (.invokevirtual 180, 3) := by decide +kernel
theorem dX12_begins_24 : decode cX12_begins 24 = .ok (.iconst 0, 1) := by decide +kernel
theorem dX12_begins_25 : decode cX12_begins 25 = .ok (.istore 4, 2) := by decide +kernel
theorem dX12_begins_27 : decode cX12_begins 27 = .ok (.iload 4, 2) := by decide +kernel
theorem dX12_begins_29 : decode cX12_begins 29 = .ok (.aload_n 1, 1) := by decide +kernel
theorem dX12_begins_30 : decode cX12_begins 30 = .ok (.iconst 5, 1) := by decide +kernel
theorem dX12_begins_31 : decode cX12_begins 31 = .ok (.iaload, 1) := by decide +kernel
theorem dX12_begins_32 : decode cX12_begins 32 = .ok (.if_icmp .ge 25, 3) := by decide +kernel
theorem dX12_begins_35 : decode cX12_begins 35 = .ok (.aload_n 1, 1) := by decide +kernel
theorem dX12_begins_36 : decode cX12_begins 36 = .ok (.bipush 31, 2) := by decide +kernel
theorem dX12_begins_38 : decode cX12_begins 38 = .ok (.iload 4, 2) := by decide +kernel
theorem dX12_begins_40 : decode cX12_begins 40 = .ok (.iadd, 1) := by decide +kernel
theorem dX12_begins_41 : decode cX12_begins 41 = .ok (.iconst 0, 1) := by decide +kernel
theorem dX12_begins_42 : decode cX12_begins 42 = .ok (.iastore, 1) := by decide +kernel
theorem dX12_begins_43 : decode cX12_begins 43 = .ok (.aload_n 1, 1) := by decide +kernel
theorem dX12_begins_44 : decode cX12_begins 44 = .ok (.bipush 55, 2) := by decide +kernel
theorem dX12_begins_46 : decode cX12_begins 46 = .ok (.iload 4, 2) := by decide +kernel
theorem dX12_begins_48 : decode cX12_begins 48 = .ok (.iadd, 1) := by decide +kernel
theorem dX12_begins_49 : decode cX12_begins 49 = .ok (.iconst 0, 1) := by decide +kernel
theorem dX12_begins_50 : decode cX12_begins 50 = .ok (.iastore, 1) := by decide +kernel
theorem dX12_begins_51 : decode cX12_begins 51 = .ok (.iinc 4 1, 3) := by decide +kernel
theorem dX12_begins_54 : decode cX12_begins 54 = .ok (.goto (-27), 3) := by decide +kernel
theorem dX12_begins_57 : decode cX12_begins 57 = .ok (.iconst 0, 1) := by decide +kernel
theorem dX12_begins_58 : decode cX12_begins 58 = .ok (.istore 4, 2) := by decide +kernel
theorem dX12_begins_60 : decode cX12_begins 60 = .ok (.iconst 0, 1) := by decide +kernel
theorem dX12_begins_61 : decode cX12_begins 61 = .ok (.istore 5, 2) := by decide +kernel
theorem dX12_begins_63 : decode cX12_begins 63 = .ok (.iload 5, 2) := by decide +kernel
theorem dX12_begins_65 : decode cX12_begins 65 = .ok (.aload_n 1, 1) := by decide +kernel
theorem dX12_begins_66 : decode cX12_begins 66 = .ok (.iconst 5, 1) := by decide +kernel
theorem dX12_begins_67 : decode cX12_begins 67 = .ok (.iaload, 1) := by decide +kernel
theorem dX12_begins_68 : decode cX12_begins 68 = .ok (.if_icmp .ge 88, 3) := by decide +kernel
theorem dX12_begins_71 : decode cX12_begins 71 = .ok (.iload_n 2, 1) := by decide +kernel
theorem dX12_begins_72 : decode cX12_begins 72 = .ok (.iload 5, 2) := by decide +kernel
theorem dX12_begins_74 : decode cX12_begins 74 = .ok (.iadd, 1) := by decide +kernel
theorem dX12_begins_75 : decode cX12_begins 75 = .ok (.aload_n 1, 1) := by decide +kernel
theorem dX12_begins_76 : decode cX12_begins 76 = .ok (.iconst 5, 1) := by decide +kernel
theorem dX12_begins_77 : decode cX12_begins 77 = .ok (.iaload, 1) := by decide +kernel
theorem dX12_begins_78 : decode cX12_begins 78 = .ok (.irem, 1) := by decide +kernel
theorem dX12_begins_79 : decode cX12_begins 79 = .ok (.istore 6, 2) := by decide +kernel
theorem dX12_begins_81 : decode cX12_begins 81 = .ok (.iload_n 3, 1) := by decide +kernel
theorem dX12_begins_82 : decode cX12_begins 82 = .ok (.ifCond .eq 25, 3) := by decide +kernel
theorem dX12_begins_85 : decode cX12_begins 85 = .ok (.aload_n 1, 1) := by decide +kernel
theorem dX12_begins_86 : decode cX12_begins 86 = .ok (.bipush 31, 2) := by decide +kernel
theorem dX12_begins_88 : decode cX12_begins 88 = .ok (.iload 6, 2) := by decide +kernel
theorem dX12_begins_90 : decode cX12_begins 90 = .ok (.iadd, 1) := by decide +kernel
theorem dX12_begins_91 : decode cX12_begins 91 = .ok (.aload_n 0, 1) := by decide +kernel
theorem dX12_begins_92 : decode cX12_begins 92 = .ok (.aload_n 1, 1) := by decide +kernel
theorem dX12_begins_93 : decode cX12_begins 93 = .ok (.bipush 7, 2) := by decide +kernel
theorem dX12_begins_95 : decode cX12_begins 95 = .ok (.iload 6, 2) := by decide +kernel
theorem dX12_begins_97 : decode cX12_begins 97 = .ok (.iadd, 1) := by decide +kernel
theorem dX12_begins_98 : decode cX12_begins 98 = .ok (.iaload, 1) := by decide +kernel
theorem dX12_begins_99 : decode cX12_begins 99 = .ok (.iconst 1, 1) := by decide +kernel
theorem dX12_begins_100 : decode cX12_begins 100 = .ok (.invokevirtual 98, 3) := by decide +kernel
theorem dX12_begins_103 : decode cX12_begins 103 = .ok (.iload 4, 2) := by decide +kernel
theorem dX12_begins_105 : decode cX12_begins 105 = .ok (.imul, 1) := by decide +kernel
theorem dX12_begins_106 : decode cX12_begins 106 = .ok (.iastore, 1) := by decide +kernel
theorem dX12_begins_107 : decode cX12_begins 107 = .ok (.aload_n 1, 1) := by decide +kernel
theorem dX12_begins_108 : decode cX12_begins 108 = .ok (.bipush 43, 2) := by decide +kernel
theorem dX12_begins_110 : decode cX12_begins 110 = .ok (.iload 6, 2) := by decide +kernel
theorem dX12_begins_112 : decode cX12_begins 112 = .ok (.iadd, 1) := by decide +kernel
theorem dX12_begins_113 : decode cX12_begins 113 = .ok (.aload_n 0, 1) := by decide +kernel
theorem dX12_begins_114 : decode cX12_begins 114 = .ok (.aload_n 1, 1) := by decide +kernel
theorem dX12_begins_115 : decode cX12_begins 115 = .ok (.iload 6, 2) := by decide +kernel
theorem dX12_begins_117 : decode cX12_begins 117 = .ok (.invokevirtual 200, 3) := by decide +kernel
theorem dX12_begins_120 : decode cX12_begins 120 = .ok (.ifCond .eq 7, 3) := by decide +kernel
theorem dX12_begins_123 : decode cX12_begins 123 = .ok (.iconst 1, 1) := by decide +kernel
theorem dX12_begins_124 : decode cX12_begins 124 = .ok (.goto 4, 3) := by decide +kernel
theorem dX12_begins_127 : decode cX12_begins 127 = .ok (.iconst 0, 1) := by decide +kernel
theorem dX12_begins_128 : decode cX12_begins 128 = .ok (.iastore, 1) := by decide +kernel
theorem dX12_begins_129 : decode cX12_begins 129 = .ok (.iload 4, 2) := by decide +kernel
theorem dX12_begins_131 : decode cX12_begins 131 = .ok (.aload_n 1, 1) := by decide +kernel
theorem dX12_begins_132 : decode cX12_begins 132 = .ok (.bipush 43, 2) := by decide +kernel
theorem dX12_begins_134 : decode cX12_begins 134 = .ok (.iload 6, 2) := by decide +kernel
theorem dX12_begins_136 : decode cX12_begins 136 = .ok (.iadd, 1) := by decide +kernel
theorem dX12_begins_137 : decode cX12_begins 137 = .ok (.iaload, 1) := by decide +kernel
theorem dX12_begins_138 : decode cX12_begins 138 = .ok (.iconst 1, 1) := by decide +kernel
theorem dX12_begins_139 : decode cX12_begins 139 = .ok (.if_icmp .ne 7, 3) := by decide +kernel
theorem dX12_begins_142 : decode cX12_begins 142 = .ok (.iconst 1, 1) := by decide +kernel
theorem dX12_begins_143 : decode cX12_begins 143 = .ok (.goto 4, 3) := by decide +kernel
theorem dX12_begins_146 : decode cX12_begins 146 = .ok (.iconst (-1), 1) := by decide +kernel
theorem dX12_begins_147 : decode cX12_begins 147 = .ok (.iadd, 1) := by decide +kernel
theorem dX12_begins_148 : decode cX12_begins 148 = .ok (.istore 4, 2) := by decide +kernel
theorem dX12_begins_150 : decode cX12_begins 150 = .ok (.iinc 5 1, 3) := by decide +kernel
theorem dX12_begins_153 : decode cX12_begins 153 = .ok (.goto (-90), 3) := by decide +kernel
theorem dX12_begins_156 : decode cX12_begins 156 = .ok (.aload_n 0, 1) := by decide +kernel
theorem dX12_begins_157 : decode cX12_begins 157 = .ok (.aload_n 1, 1) := by decide +kernel
theorem dX12_begins_158 : decode cX12_begins 158 = .ok (.invokevirtual 204, 3) := by decide +kernel
theorem dX12_begins_161 : decode cX12_begins 161 = .ok (.return_, 1) := by decide +kernel
theorem dX12_lesser_0 : decode cX12_lesser 0 = .ok (.iload_n 0, 1) := by decide +kernel
theorem dX12_lesser_1 : decode cX12_lesser 1 = .ok (.iload_n 1, 1) := by decide +kernel
theorem dX12_lesser_2 : decode cX12_lesser 2 = .ok (.if_icmp .ge 7, 3) := by decide +kernel
theorem dX12_lesser_5 : decode cX12_lesser 5 = .ok (.iload_n 0, 1) := by decide +kernel
theorem dX12_lesser_6 : decode cX12_lesser 6 = .ok (.goto 4, 3) := by decide +kernel
theorem dX12_lesser_9 : decode cX12_lesser 9 = .ok (.iload_n 1, 1) := by decide +kernel
theorem dX12_lesser_10 : decode cX12_lesser 10 = .ok (.ireturn, 1) := by decide +kernel
theorem dX12_endOf_0 : decode cX12_endOf 0 = .ok (.aload_n 1, 1) := by decide +kernel
theorem dX12_endOf_1 : decode cX12_endOf 1 = .ok (.iconst 1, 1) := by decide +kernel
theorem dX12_endOf_2 : decode cX12_endOf 2 = .ok (.iaload, 1) := by decide +kernel
theorem dX12_endOf_3 : decode cX12_endOf 3 = .ok (.iload_n 2, 1) := by decide +kernel
theorem dX12_endOf_4 : decode cX12_endOf 4 = .ok (.if_icmp .lt 7, 3) := by decide +kernel
theorem dX12_endOf_7 : decode cX12_endOf 7 = .ok (.iconst 1, 1) := by decide +kernel
theorem dX12_endOf_8 : decode cX12_endOf 8 = .ok (.goto 33, 3) := by decide +kernel
theorem dX12_endOf_11 : decode cX12_endOf 11 = .ok (.aload_n 1, 1) := by decide +kernel
theorem dX12_endOf_12 : decode cX12_endOf 12 = .ok (.iconst 2, 1) := by decide +kernel
theorem dX12_endOf_13 : decode cX12_endOf 13 = .ok (.iaload, 1) := by decide +kernel
theorem dX12_endOf_14 : decode cX12_endOf 14 = .ok (.iload_n 2, 1) := by decide +kernel
theorem dX12_endOf_15 : decode cX12_endOf 15 = .ok (.if_icmp .lt 7, 3) := by decide +kernel
theorem dX12_endOf_18 : decode cX12_endOf 18 = .ok (.iconst 0, 1) := by decide +kernel
theorem dX12_endOf_19 : decode cX12_endOf 19 = .ok (.goto 22, 3) := by decide +kernel
theorem dX12_endOf_22 : decode cX12_endOf 22 = .ok (.aload_n 1, 1) := by decide +kernel
theorem dX12_endOf_23 : decode cX12_endOf 23 = .ok (.iconst 0, 1) := by decide +kernel
theorem dX12_endOf_24 : decode cX12_endOf 24 = .ok (.iaload, 1) := by decide +kernel
theorem dX12_endOf_25 : decode cX12_endOf 25 = .ok (.aload_n 0, 1) := by decide +kernel
theorem dX12_endOf_26 : decode cX12_endOf 26 = .ok (.getfield 9, 3) := by decide +kernel
theorem dX12_endOf_29 : decode cX12_endOf 29 = .ok (.bipush 6, 2) := by decide +kernel
theorem dX12_endOf_31 : decode cX12_endOf 31 = .ok (.iaload, 1) := by decide +kernel
theorem dX12_endOf_32 : decode cX12_endOf 32 = .ok (.if_icmp .lt 7, 3) := by decide +kernel
theorem dX12_endOf_35 : decode cX12_endOf 35 = .ok (.iconst 2, 1) := by decide +kernel
theorem dX12_endOf_36 : decode cX12_endOf 36 = .ok (.goto 5, 3) := by decide +kernel
theorem dX12_endOf_39 : decode cX12_endOf 39 = .ok (.bipush (-4), 2) := by decide +kernel
theorem dX12_endOf_41 : decode cX12_endOf 41 = .ok (.ireturn, 1) := by decide +kernel
theorem dX12_allHold_0 : decode cX12_allHold 0 = .ok (.iconst 1, 1) := by decide +kernel
theorem dX12_allHold_1 : decode cX12_allHold 1 = .ok (.aload_n 0, 1) := by decide +kernel
theorem dX12_allHold_2 : decode cX12_allHold 2 = .ok (.getfield 9, 3) := by decide +kernel
theorem dX12_allHold_5 : decode cX12_allHold 5 = .ok (.iconst 0, 1) := by decide +kernel
theorem dX12_allHold_6 : decode cX12_allHold 6 = .ok (.iaload, 1) := by decide +kernel
theorem dX12_allHold_7 : decode cX12_allHold 7 = .ok (.ishl, 1) := by decide +kernel
theorem dX12_allHold_8 : decode cX12_allHold 8 = .ok (.iconst 1, 1) := by decide +kernel
theorem dX12_allHold_9 : decode cX12_allHold 9 = .ok (.isub, 1) := by decide +kernel
theorem dX12_allHold_10 : decode cX12_allHold 10 = .ok (.istore_n 2, 1) := by decide +kernel
theorem dX12_allHold_11 : decode cX12_allHold 11 = .ok (.iconst 0, 1) := by decide +kernel
theorem dX12_allHold_12 : decode cX12_allHold 12 = .ok (.istore_n 3, 1) := by decide +kernel
theorem dX12_allHold_13 : decode cX12_allHold 13 = .ok (.iload_n 3, 1) := by decide +kernel
theorem dX12_allHold_14 : decode cX12_allHold 14 = .ok (.aload_n 1, 1) := by decide +kernel
theorem dX12_allHold_15 : decode cX12_allHold 15 = .ok (.iconst 5, 1) := by decide +kernel
theorem dX12_allHold_16 : decode cX12_allHold 16 = .ok (.iaload, 1) := by decide +kernel
theorem dX12_allHold_17 : decode cX12_allHold 17 = .ok (.if_icmp .ge 18, 3) := by decide +kernel
theorem dX12_allHold_20 : decode cX12_allHold 20 = .ok (.iload_n 2, 1) := by decide +kernel
theorem dX12_allHold_21 : decode cX12_allHold 21 = .ok (.aload_n 1, 1) := by decide +kernel
theorem dX12_allHold_22 : decode cX12_allHold 22 = .ok (.bipush 19, 2) := by decide +kernel
theorem dX12_allHold_24 : decode cX12_allHold 24 = .ok (.iload_n 3, 1) := by decide +kernel
theorem dX12_allHold_25 : decode cX12_allHold 25 = .ok (.iadd, 1) := by decide +kernel
theorem dX12_allHold_26 : decode cX12_allHold 26 = .ok (.iaload, 1) := by decide +kernel
theorem dX12_allHold_27 : decode cX12_allHold 27 = .ok (.iand, 1) := by decide +kernel
theorem dX12_allHold_28 : decode cX12_allHold 28 = .ok (.istore_n 2, 1) := by decide +kernel
theorem dX12_allHold_29 : decode cX12_allHold 29 = .ok (.iinc 3 1, 3) := by decide +kernel
theorem dX12_allHold_32 : decode cX12_allHold 32 = .ok (.goto (-19), 3) := by decide +kernel
theorem dX12_allHold_35 : decode cX12_allHold 35 = .ok (.iload_n 2, 1) := by decide +kernel
theorem dX12_allHold_36 : decode cX12_allHold 36 = .ok (.ireturn, 1) := by decide +kernel
theorem dX12_amount_0 : decode cX12_amount 0 = .ok (.iload_n 0, 1) := by decide +kernel
theorem dX12_amount_1 : decode cX12_amount 1 = .ok (.ifCond .ge 8, 3) := by decide +kernel
theorem dX12_amount_4 : decode cX12_amount 4 = .ok (.iload_n 0, 1) := by decide +kernel
theorem dX12_amount_5 : decode cX12_amount 5 = .ok (.ineg, 1) := by decide +kernel
theorem dX12_amount_6 : decode cX12_amount 6 = .ok (.goto 4, 3) := by decide +kernel
theorem dX12_amount_9 : decode cX12_amount 9 = .ok (.iload_n 0, 1) := by decide +kernel
theorem dX12_amount_10 : decode cX12_amount 10 = .ok (.ireturn, 1) := by decide +kernel
