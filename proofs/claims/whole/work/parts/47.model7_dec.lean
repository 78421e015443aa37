theorem dX12_acts_0 : decode cX12_acts 0 = .ok (.aload_n 0, 1) := by decide +kernel
theorem dX12_acts_1 : decode cX12_acts 1 = .ok (.aload_n 1, 1) := by decide +kernel
theorem dX12_acts_2 : decode cX12_acts 2 = .ok (.bipush 7, 2) := by decide +kernel
theorem dX12_acts_4 : decode cX12_acts 4 = .ok (.iload_n 2, 1) := by decide +kernel
theorem dX12_acts_5 : decode cX12_acts 5 = .ok (.iadd, 1) := by decide +kernel
theorem dX12_acts_6 : decode cX12_acts 6 = .ok (.iaload, 1) := by decide +kernel
theorem dX12_acts_7 : decode cX12_acts 7 = .ok (.iconst 0, 1) := by decide +kernel
theorem dX12_acts_8 : decode cX12_acts 8 = .ok (.invokevirtual 98, 3) := by decide +kernel
theorem dX12_acts_11 : decode cX12_acts 11 = .ok (.istore_n 3, 1) := by decide +kernel
theorem dX12_acts_12 : decode cX12_acts 12 = .ok (.iload_n 3, 1) := by decide +kernel
theorem dX12_acts_13 : decode cX12_acts 13 = .ok (.iconst 1, 1) := by decide +kernel
theorem dX12_acts_14 : decode cX12_acts 14 = .ok (.if_icmp .eq 8, 3) := by decide +kernel
theorem dX12_acts_17 : decode cX12_acts 17 = .ok (.iload_n 3, 1) := by decide +kernel
theorem dX12_acts_18 : decode cX12_acts 18 = .ok (.iconst 4, 1) := by decide +kernel
theorem dX12_acts_19 : decode cX12_acts 19 = .ok (.if_icmp .ne 9, 3) := by decide +kernel
theorem dX12_acts_22 : decode cX12_acts 22 = .ok (.aload_n 0, 1) := by decide +kernel
theorem dX12_acts_23 : decode cX12_acts 23 = .ok (.aload_n 1, 1) := by decide +kernel
theorem dX12_acts_24 : decode cX12_acts 24 = .ok (.iload_n 2, 1) := by decide +kernel
theorem dX12_acts_25 : decode cX12_acts 25 = .ok (.invokevirtual 219, 3) := by decide +kernel
theorem dX12_acts_28 : decode cX12_acts 28 = .ok (.iload_n 3, 1) := by decide +kernel
theorem dX12_acts_29 : decode cX12_acts 29 = .ok (.iconst 4, 1) := by decide +kernel
theorem dX12_acts_30 : decode cX12_acts 30 = .ok (.if_icmp .ne 9, 3) := by decide +kernel
theorem dX12_acts_33 : decode cX12_acts 33 = .ok (.aload_n 0, 1) := by decide +kernel
theorem dX12_acts_34 : decode cX12_acts 34 = .ok (.aload_n 1, 1) := by decide +kernel
theorem dX12_acts_35 : decode cX12_acts 35 = .ok (.iload_n 2, 1) := by decide +kernel
theorem dX12_acts_36 : decode cX12_acts 36 = .ok (.invokevirtual 223, 3) := by decide +kernel
theorem dX12_acts_39 : decode cX12_acts 39 = .ok (.iload_n 3, 1) := by decide +kernel
theorem dX12_acts_40 : decode cX12_acts 40 = .ok (.iconst 2, 1) := by decide +kernel
theorem dX12_acts_41 : decode cX12_acts 41 = .ok (.if_icmp .eq 8, 3) := by decide +kernel
theorem dX12_acts_44 : decode cX12_acts 44 = .ok (.iload_n 3, 1) := by decide +kernel
theorem dX12_acts_45 : decode cX12_acts 45 = .ok (.iconst 3, 1) := by decide +kernel
theorem dX12_acts_46 : decode cX12_acts 46 = .ok (.if_icmp .ne 52, 3) := by decide +kernel
theorem dX12_acts_49 : decode cX12_acts 49 = .ok (.iconst 0, 1) := by decide +kernel
theorem dX12_acts_50 : decode cX12_acts 50 = .ok (.istore 4, 2) := by decide +kernel
theorem dX12_acts_52 : decode cX12_acts 52 = .ok (.iload 4, 2) := by decide +kernel
theorem dX12_acts_54 : decode cX12_acts 54 = .ok (.aload_n 1, 1) := by decide +kernel
theorem dX12_acts_55 : decode cX12_acts 55 = .ok (.iconst 5, 1) := by decide +kernel
theorem dX12_acts_56 : decode cX12_acts 56 = .ok (.iaload, 1) := by decide +kernel
theorem dX12_acts_57 : decode cX12_acts 57 = .ok (.if_icmp .ge 41, 3) := by decide +kernel
theorem dX12_acts_60 : decode cX12_acts 60 = .ok (.aload_n 1, 1) := by decide +kernel
theorem dX12_acts_61 : decode cX12_acts 61 = .ok (.bipush 31, 2) := by decide +kernel
theorem dX12_acts_63 : decode cX12_acts 63 = .ok (.iload 4, 2) := by decide +kernel
theorem dX12_acts_65 : decode cX12_acts 65 = .ok (.iadd, 1) := by decide +kernel
theorem dX12_acts_66 : decode cX12_acts 66 = .ok (.dup2, 1) := by decide +kernel
theorem dX12_acts_67 : decode cX12_acts 67 = .ok (.iaload, 1) := by decide +kernel
theorem dX12_acts_68 : decode cX12_acts 68 = .ok (.aload_n 0, 1) := by decide +kernel
theorem dX12_acts_69 : decode cX12_acts 69 = .ok (.aload_n 1, 1) := by decide +kernel
theorem dX12_acts_70 : decode cX12_acts 70 = .ok (.bipush 7, 2) := by decide +kernel
theorem dX12_acts_72 : decode cX12_acts 72 = .ok (.iload 4, 2) := by decide +kernel
theorem dX12_acts_74 : decode cX12_acts 74 = .ok (.iadd, 1) := by decide +kernel
theorem dX12_acts_75 : decode cX12_acts 75 = .ok (.iaload, 1) := by decide +kernel
theorem dX12_acts_76 : decode cX12_acts 76 = .ok (.iconst 1, 1) := by decide +kernel
theorem dX12_acts_77 : decode cX12_acts 77 = .ok (.invokevirtual 98, 3) := by decide +kernel
theorem dX12_acts_80 : decode cX12_acts 80 = .ok (.aload_n 1, 1) := by decide +kernel
theorem dX12_acts_81 : decode cX12_acts 81 = .ok (.iconst 1, 1) := by decide +kernel
theorem dX12_acts_82 : decode cX12_acts 82 = .ok (.iaload, 1) := by decide +kernel
theorem dX12_acts_83 : decode cX12_acts 83 = .ok (.aload_n 1, 1) := by decide +kernel
theorem dX12_acts_84 : decode cX12_acts 84 = .ok (.iconst 2, 1) := by decide +kernel
theorem dX12_acts_85 : decode cX12_acts 85 = .ok (.iaload, 1) := by decide +kernel
theorem dX12_acts_86 : decode cX12_acts 86 = .ok (.isub, 1) := by decide +kernel
theorem dX12_acts_87 : decode cX12_acts 87 = .ok (.imul, 1) := by decide +kernel
theorem dX12_acts_88 : decode cX12_acts 88 = .ok (.iconst 4, 1) := by decide +kernel
theorem dX12_acts_89 : decode cX12_acts 89 = .ok (.idiv, 1) := by decide +kernel
theorem dX12_acts_90 : decode cX12_acts 90 = .ok (.iadd, 1) := by decide +kernel
theorem dX12_acts_91 : decode cX12_acts 91 = .ok (.iastore, 1) := by decide +kernel
theorem dX12_acts_92 : decode cX12_acts 92 = .ok (.iinc 4 1, 3) := by decide +kernel
theorem dX12_acts_95 : decode cX12_acts 95 = .ok (.goto (-43), 3) := by decide +kernel
theorem dX12_acts_98 : decode cX12_acts 98 = .ok (.iload_n 3, 1) := by decide +kernel
theorem dX12_acts_99 : decode cX12_acts 99 = .ok (.iconst 3, 1) := by decide +kernel
theorem dX12_acts_100 : decode cX12_acts 100 = .ok (.if_icmp .ne 8, 3) := by decide +kernel
theorem dX12_acts_103 : decode cX12_acts 103 = .ok (.aload_n 0, 1) := by decide +kernel
theorem dX12_acts_104 : decode cX12_acts 104 = .ok (.aload_n 1, 1) := by decide +kernel
theorem dX12_acts_105 : decode cX12_acts 105 = .ok (.invokevirtual 226, 3) := by decide +kernel
theorem dX12_acts_108 : decode cX12_acts 108 = .ok (.iload_n 3, 1) := by decide +kernel
theorem dX12_acts_109 : decode cX12_acts 109 = .ok (.iconst 5, 1) := by decide +kernel
theorem dX12_acts_110 : decode cX12_acts 110 = .ok (.if_icmp .ne 31, 3) := by decide +kernel
theorem dX12_acts_113 : decode cX12_acts 113 = .ok (.iconst 0, 1) := by decide +kernel
theorem dX12_acts_114 : decode cX12_acts 114 = .ok (.istore 4, 2) := by decide +kernel
theorem dX12_acts_116 : decode cX12_acts 116 = .ok (.iload 4, 2) := by decide +kernel
theorem dX12_acts_118 : decode cX12_acts 118 = .ok (.aload_n 1, 1) := by decide +kernel
theorem dX12_acts_119 : decode cX12_acts 119 = .ok (.iconst 5, 1) := by decide +kernel
theorem dX12_acts_120 : decode cX12_acts 120 = .ok (.iaload, 1) := by decide +kernel
theorem dX12_acts_121 : decode cX12_acts 121 = .ok (.if_icmp .ge 20, 3) := by decide +kernel
theorem dX12_acts_124 : decode cX12_acts 124 = .ok (.aload_n 1, 1) := by decide +kernel
theorem dX12_acts_125 : decode cX12_acts 125 = .ok (.bipush 31, 2) := by decide +kernel
theorem dX12_acts_127 : decode cX12_acts 127 = .ok (.iload 4, 2) := by decide +kernel
theorem dX12_acts_129 : decode cX12_acts 129 = .ok (.iadd, 1) := by decide +kernel
theorem dX12_acts_130 : decode cX12_acts 130 = .ok (.dup2, 1) := by decide +kernel
theorem dX12_acts_131 : decode cX12_acts 131 = .ok (.iaload, 1) := by decide +kernel
theorem dX12_acts_132 : decode cX12_acts 132 = .ok (.iconst 2, 1) := by decide +kernel
theorem dX12_acts_133 : decode cX12_acts 133 = .ok (.idiv, 1) := by decide +kernel
theorem dX12_acts_134 : decode cX12_acts 134 = .ok (.iastore, 1) := by decide +kernel
theorem dX12_acts_135 : decode cX12_acts 135 = .ok (.iinc 4 1, 3) := by decide +kernel
theorem dX12_acts_138 : decode cX12_acts 138 = .ok (.goto (-22), 3) := by decide +kernel
theorem dX12_acts_141 : decode cX12_acts 141 = .ok (.iload_n 3, 1) := by decide +kernel
theorem dX12_acts_142 : decode cX12_acts 142 = .ok (.bipush 7, 2) := by decide +kernel
theorem dX12_acts_144 : decode cX12_acts 144 = .ok (.if_icmp .ne 49, 3) := by decide +kernel
theorem dX12_acts_147 : decode cX12_acts 147 = .ok (.aload_n 1, 1) := by decide +kernel
theorem dX12_acts_148 : decode cX12_acts 148 = .ok (.bipush 55, 2) := by decide +kernel
theorem dX12_acts_150 : decode cX12_acts 150 = .ok (.iload_n 2, 1) := by decide +kernel
theorem dX12_acts_151 : decode cX12_acts 151 = .ok (.iadd, 1) := by decide +kernel
theorem dX12_acts_152 : decode cX12_acts 152 = .ok (.iaload, 1) := by decide +kernel
theorem dX12_acts_153 : decode cX12_acts 153 = .ok (.ifCond .ne 40, 3) := by decide +kernel
theorem dX12_acts_156 : decode cX12_acts 156 = .ok (.aload_n 1, 1) := by decide +kernel
theorem dX12_acts_157 : decode cX12_acts 157 = .ok (.iconst 0, 1) := by decide +kernel
theorem dX12_acts_158 : decode cX12_acts 158 = .ok (.iaload, 1) := by decide +kernel
theorem dX12_acts_159 : decode cX12_acts 159 = .ok (.aload_n 0, 1) := by decide +kernel
theorem dX12_acts_160 : decode cX12_acts 160 = .ok (.aload_n 1, 1) := by decide +kernel
theorem dX12_acts_161 : decode cX12_acts 161 = .ok (.bipush 7, 2) := by decide +kernel
theorem dX12_acts_163 : decode cX12_acts 163 = .ok (.iload_n 2, 1) := by decide +kernel
theorem dX12_acts_164 : decode cX12_acts 164 = .ok (.iadd, 1) := by decide +kernel
theorem dX12_acts_165 : decode cX12_acts 165 = .ok (.iaload, 1) := by decide +kernel
theorem dX12_acts_166 : decode cX12_acts 166 = .ok (.iconst 4, 1) := by decide +kernel
theorem dX12_acts_167 : decode cX12_acts 167 = .ok (.invokevirtual 98, 3) := by decide +kernel
theorem dX12_acts_170 : decode cX12_acts 170 = .ok (.if_icmp .lt 23, 3) := by decide +kernel
theorem dX12_acts_173 : decode cX12_acts 173 = .ok (.aload_n 1, 1) := by decide +kernel
theorem dX12_acts_174 : decode cX12_acts 174 = .ok (.bipush 55, 2) := by decide +kernel
theorem dX12_acts_176 : decode cX12_acts 176 = .ok (.iload_n 2, 1) := by decide +kernel
theorem dX12_acts_177 : decode cX12_acts 177 = .ok (.iadd, 1) := by decide +kernel
theorem dX12_acts_178 : decode cX12_acts 178 = .ok (.aload_n 1, 1) := by decide +kernel
theorem dX12_acts_179 : decode cX12_acts 179 = .ok (.iconst 1, 1) := by decide +kernel
theorem dX12_acts_180 : decode cX12_acts 180 = .ok (.iaload, 1) := by decide +kernel
theorem dX12_acts_181 : decode cX12_acts 181 = .ok (.aload_n 1, 1) := by decide +kernel
theorem dX12_acts_182 : decode cX12_acts 182 = .ok (.iconst 2, 1) := by decide +kernel
theorem dX12_acts_183 : decode cX12_acts 183 = .ok (.iaload, 1) := by decide +kernel
theorem dX12_acts_184 : decode cX12_acts 184 = .ok (.if_icmp .lt 7, 3) := by decide +kernel
theorem dX12_acts_187 : decode cX12_acts 187 = .ok (.iconst 2, 1) := by decide +kernel
theorem dX12_acts_188 : decode cX12_acts 188 = .ok (.goto 4, 3) := by decide +kernel
theorem dX12_acts_191 : decode cX12_acts 191 = .ok (.iconst 1, 1) := by decide +kernel
theorem dX12_acts_192 : decode cX12_acts 192 = .ok (.iastore, 1) := by decide +kernel
theorem dX12_acts_193 : decode cX12_acts 193 = .ok (.return_, 1) := by decide +kernel
theorem dX12_turn_0 : decode cX12_turn 0 = .ok (.aload_n 1, 1) := by decide +kernel
theorem dX12_turn_1 : decode cX12_turn 1 = .ok (.iconst 4, 1) := by decide +kernel
theorem dX12_turn_2 : decode cX12_turn 2 = .ok (.iaload, 1) := by decide +kernel
theorem dX12_turn_3 : decode cX12_turn 3 = .ok (.istore_n 2, 1) := by decide +kernel
theorem dX12_turn_4 : decode cX12_turn 4 = .ok (.aload_n 0, 1) := by decide +kernel
theorem dX12_turn_5 : decode cX12_turn 5 = .ok (.aload_n 1, 1) := by decide +kernel
theorem dX12_turn_6 : decode cX12_turn 6 = .ok (.iload_n 2, 1) := by decide +kernel
theorem dX12_turn_7 : decode cX12_turn 7 = .ok (.invokevirtual 229, 3) := by decide +kernel
theorem dX12_turn_10 : decode cX12_turn 10 = .ok (.aload_n 1, 1) := by decide +kernel
theorem dX12_turn_11 : decode cX12_turn 11 = .ok (.iconst 0, 1) := by decide +kernel
theorem dX12_turn_12 : decode cX12_turn 12 = .ok (.dup2, 1) := by decide +kernel
theorem dX12_turn_13 : decode cX12_turn 13 = .ok (.iaload, 1) := by decide +kernel
theorem dX12_turn_14 : decode cX12_turn 14 = .ok (.aload_n 0, 1) := by decide +kernel
theorem dX12_turn_15 : decode cX12_turn 15 = .ok (.aload_n 1, 1) := by decide +kernel
theorem dX12_turn_16 : decode cX12_turn 16 = .ok (.bipush 7, 2) := by decide +kernel
theorem dX12_turn_18 : decode cX12_turn 18 = .ok (.iload_n 2, 1) := by decide +kernel
theorem dX12_turn_19 : decode cX12_turn 19 = .ok (.iadd, 1) := by decide +kernel
theorem dX12_turn_20 : decode cX12_turn 20 = .ok (.iaload, 1) := by decide +kernel
theorem dX12_turn_21 : decode cX12_turn 21 = .ok (.iconst 2, 1) := by decide +kernel
theorem dX12_turn_22 : decode cX12_turn 22 = .ok (.invokevirtual 98, 3) := by decide +kernel
theorem dX12_turn_25 : decode cX12_turn 25 = .ok (.iadd, 1) := by decide +kernel
theorem dX12_turn_26 : decode cX12_turn 26 = .ok (.iastore, 1) := by decide +kernel
theorem dX12_turn_27 : decode cX12_turn 27 = .ok (.aload_n 1, 1) := by decide +kernel
theorem dX12_turn_28 : decode cX12_turn 28 = .ok (.iconst 3, 1) := by decide +kernel
theorem dX12_turn_29 : decode cX12_turn 29 = .ok (.dup2, 1) := by decide +kernel
theorem dX12_turn_30 : decode cX12_turn 30 = .ok (.iaload, 1) := by decide +kernel
theorem dX12_turn_31 : decode cX12_turn 31 = .ok (.iconst 1, 1) := by decide +kernel
theorem dX12_turn_32 : decode cX12_turn 32 = .ok (.iadd, 1) := by decide +kernel
theorem dX12_turn_33 : decode cX12_turn 33 = .ok (.iastore, 1) := by decide +kernel
theorem dX12_turn_34 : decode cX12_turn 34 = .ok (.aload_n 1, 1) := by decide +kernel
theorem dX12_turn_35 : decode cX12_turn 35 = .ok (.iconst 4, 1) := by decide +kernel
theorem dX12_turn_36 : decode cX12_turn 36 = .ok (.iload_n 2, 1) := by decide +kernel
theorem dX12_turn_37 : decode cX12_turn 37 = .ok (.iconst 1, 1) := by decide +kernel
theorem dX12_turn_38 : decode cX12_turn 38 = .ok (.iadd, 1) := by decide +kernel
theorem dX12_turn_39 : decode cX12_turn 39 = .ok (.aload_n 1, 1) := by decide +kernel
theorem dX12_turn_40 : decode cX12_turn 40 = .ok (.iconst 5, 1) := by decide +kernel
theorem dX12_turn_41 : decode cX12_turn 41 = .ok (.iaload, 1) := by decide +kernel
theorem dX12_turn_42 : decode cX12_turn 42 = .ok (.irem, 1) := by decide +kernel
theorem dX12_turn_43 : decode cX12_turn 43 = .ok (.iastore, 1) := by decide +kernel
theorem dX12_turn_44 : decode cX12_turn 44 = .ok (.aload_n 0, 1) := by decide +kernel
theorem dX12_turn_45 : decode cX12_turn 45 = .ok (.aload_n 1, 1) := by decide +kernel
theorem dX12_turn_46 : decode cX12_turn 46 = .ok (.iconst 1, 1) := by decide +kernel
theorem dX12_turn_47 : decode cX12_turn 47 = .ok (.iaload, 1) := by decide +kernel
theorem dX12_turn_48 : decode cX12_turn 48 = .ok (.aload_n 1, 1) := by decide +kernel
theorem dX12_turn_49 : decode cX12_turn 49 = .ok (.iconst 2, 1) := by decide +kernel
theorem dX12_turn_50 : decode cX12_turn 50 = .ok (.iaload, 1) := by decide +kernel
theorem dX12_turn_51 : decode cX12_turn 51 = .ok (.aload_n 1, 1) := by decide +kernel
theorem dX12_turn_52 : decode cX12_turn 52 = .ok (.iconst 0, 1) := by decide +kernel
theorem dX12_turn_53 : decode cX12_turn 53 = .ok (.iaload, 1) := by decide +kernel
theorem dX12_turn_54 : decode cX12_turn 54 = .ok (.invokevirtual 180, 3) := by decide +kernel
theorem dX12_turn_57 : decode cX12_turn 57 = .ok (.iconst 0, 1) := by decide +kernel
theorem dX12_turn_58 : decode cX12_turn 58 = .ok (.istore_n 3, 1) := by decide +kernel
theorem dX12_turn_59 : decode cX12_turn 59 = .ok (.iload_n 3, 1) := by decide +kernel
theorem dX12_turn_60 : decode cX12_turn 60 = .ok (.aload_n 1, 1) := by decide +kernel
theorem dX12_turn_61 : decode cX12_turn 61 = .ok (.iconst 5, 1) := by decide +kernel
theorem dX12_turn_62 : decode cX12_turn 62 = .ok (.iaload, 1) := by decide +kernel
theorem dX12_turn_63 : decode cX12_turn 63 = .ok (.if_icmp .ge 29, 3) := by decide +kernel
theorem dX12_turn_66 : decode cX12_turn 66 = .ok (.aload_n 1, 1) := by decide +kernel
theorem dX12_turn_67 : decode cX12_turn 67 = .ok (.bipush 43, 2) := by decide +kernel
theorem dX12_turn_69 : decode cX12_turn 69 = .ok (.iload_n 3, 1) := by decide +kernel
theorem dX12_turn_70 : decode cX12_turn 70 = .ok (.iadd, 1) := by decide +kernel
theorem dX12_turn_71 : decode cX12_turn 71 = .ok (.aload_n 0, 1) := by decide +kernel
theorem dX12_turn_72 : decode cX12_turn 72 = .ok (.aload_n 1, 1) := by decide +kernel
theorem dX12_turn_73 : decode cX12_turn 73 = .ok (.iload_n 3, 1) := by decide +kernel
theorem dX12_turn_74 : decode cX12_turn 74 = .ok (.invokevirtual 200, 3) := by decide +kernel
theorem dX12_turn_77 : decode cX12_turn 77 = .ok (.ifCond .eq 7, 3) := by decide +kernel
theorem dX12_turn_80 : decode cX12_turn 80 = .ok (.iconst 1, 1) := by decide +kernel
theorem dX12_turn_81 : decode cX12_turn 81 = .ok (.goto 4, 3) := by decide +kernel
theorem dX12_turn_84 : decode cX12_turn 84 = .ok (.iconst 0, 1) := by decide +kernel
theorem dX12_turn_85 : decode cX12_turn 85 = .ok (.iastore, 1) := by decide +kernel
theorem dX12_turn_86 : decode cX12_turn 86 = .ok (.iinc 3 1, 3) := by decide +kernel
theorem dX12_turn_89 : decode cX12_turn 89 = .ok (.goto (-30), 3) := by decide +kernel
theorem dX12_turn_92 : decode cX12_turn 92 = .ok (.aload_n 0, 1) := by decide +kernel
theorem dX12_turn_93 : decode cX12_turn 93 = .ok (.aload_n 1, 1) := by decide +kernel
theorem dX12_turn_94 : decode cX12_turn 94 = .ok (.invokevirtual 204, 3) := by decide +kernel
theorem dX12_turn_97 : decode cX12_turn 97 = .ok (.return_, 1) := by decide +kernel
theorem dX12_takesAll_0 : decode cX12_takesAll 0 = .ok (.aload_n 1, 1) := by decide +kernel
theorem dX12_takesAll_1 : decode cX12_takesAll 1 = .ok (.iconst 5, 1) := by decide +kernel
theorem dX12_takesAll_2 : decode cX12_takesAll 2 = .ok (.aload_n 0, 1) := by decide +kernel
theorem dX12_takesAll_3 : decode cX12_takesAll 3 = .ok (.getfield 9, 3) := by decide +kernel
theorem dX12_takesAll_6 : decode cX12_takesAll 6 = .ok (.iconst 1, 1) := by decide +kernel
theorem dX12_takesAll_7 : decode cX12_takesAll 7 = .ok (.iaload, 1) := by decide +kernel
theorem dX12_takesAll_8 : decode cX12_takesAll 8 = .ok (.iastore, 1) := by decide +kernel
theorem dX12_takesAll_9 : decode cX12_takesAll 9 = .ok (.iconst 0, 1) := by decide +kernel
theorem dX12_takesAll_10 : decode cX12_takesAll 10 = .ok (.istore_n 2, 1) := by decide +kernel
theorem dX12_takesAll_11 : decode cX12_takesAll 11 = .ok (.iload_n 2, 1) := by decide +kernel
theorem dX12_takesAll_12 : decode cX12_takesAll 12 = .ok (.aload_n 0, 1) := by decide +kernel
theorem dX12_takesAll_13 : decode cX12_takesAll 13 = .ok (.getfield 9, 3) := by decide +kernel
theorem dX12_takesAll_16 : decode cX12_takesAll 16 = .ok (.iconst 1, 1) := by decide +kernel
theorem dX12_takesAll_17 : decode cX12_takesAll 17 = .ok (.iaload, 1) := by decide +kernel
theorem dX12_takesAll_18 : decode cX12_takesAll 18 = .ok (.if_icmp .ge 29, 3) := by decide +kernel
theorem dX12_takesAll_21 : decode cX12_takesAll 21 = .ok (.aload_n 1, 1) := by decide +kernel
theorem dX12_takesAll_22 : decode cX12_takesAll 22 = .ok (.bipush 7, 2) := by decide +kernel
theorem dX12_takesAll_24 : decode cX12_takesAll 24 = .ok (.iload_n 2, 1) := by decide +kernel
theorem dX12_takesAll_25 : decode cX12_takesAll 25 = .ok (.iadd, 1) := by decide +kernel
theorem dX12_takesAll_26 : decode cX12_takesAll 26 = .ok (.iload_n 2, 1) := by decide +kernel
theorem dX12_takesAll_27 : decode cX12_takesAll 27 = .ok (.iastore, 1) := by decide +kernel
theorem dX12_takesAll_28 : decode cX12_takesAll 28 = .ok (.aload_n 1, 1) := by decide +kernel
theorem dX12_takesAll_29 : decode cX12_takesAll 29 = .ok (.bipush 19, 2) := by decide +kernel
theorem dX12_takesAll_31 : decode cX12_takesAll 31 = .ok (.iload_n 2, 1) := by decide +kernel
theorem dX12_takesAll_32 : decode cX12_takesAll 32 = .ok (.iadd, 1) := by decide +kernel
theorem dX12_takesAll_33 : decode cX12_takesAll 33 = .ok (.aload_n 0, 1) := by decide +kernel
theorem dX12_takesAll_34 : decode cX12_takesAll 34 = .ok (.iload_n 2, 1) := by decide +kernel
theorem dX12_takesAll_35 : decode cX12_takesAll 35 = .ok (.bipush 6, 2) := by decide +kernel
theorem dX12_takesAll_37 : decode cX12_takesAll 37 = .ok (.invokevirtual 98, 3) := by decide +kernel
theorem dX12_takesAll_40 : decode cX12_takesAll 40 = .ok (.iastore, 1) := by decide +kernel
theorem dX12_takesAll_41 : decode cX12_takesAll 41 = .ok (.iinc 2 1, 3) := by decide +kernel
theorem dX12_takesAll_44 : decode cX12_takesAll 44 = .ok (.goto (-33), 3) := by decide +kernel
theorem dX12_takesAll_47 : decode cX12_takesAll 47 = .ok (.return_, 1) := by decide +kernel
theorem dX12_leaderOf_0 : decode cX12_leaderOf 0 = .ok (.aload_n 0, 1) := by decide +kernel
theorem dX12_leaderOf_1 : decode cX12_leaderOf 1 = .ok (.getfield 9, 3) := by decide +kernel
theorem dX12_leaderOf_4 : decode cX12_leaderOf 4 = .ok (.iconst 4, 1) := by decide +kernel
theorem dX12_leaderOf_5 : decode cX12_leaderOf 5 = .ok (.iaload, 1) := by decide +kernel
theorem dX12_leaderOf_6 : decode cX12_leaderOf 6 = .ok (.iload_n 1, 1) := by decide +kernel
theorem dX12_leaderOf_7 : decode cX12_leaderOf 7 = .ok (.if_icmp .ge 12, 3) := by decide +kernel
theorem dX12_leaderOf_10 : decode cX12_leaderOf 10 = .ok (.aload_n 0, 1) := by decide +kernel
theorem dX12_leaderOf_11 : decode cX12_leaderOf 11 = .ok (.getfield 9, 3) := by decide +kernel
theorem dX12_leaderOf_14 : decode cX12_leaderOf 14 = .ok (.iconst 4, 1) := by decide +kernel
theorem dX12_leaderOf_15 : decode cX12_leaderOf 15 = .ok (.iaload, 1) := by decide +kernel
theorem dX12_leaderOf_16 : decode cX12_leaderOf 16 = .ok (.goto 4, 3) := by decide +kernel
theorem dX12_leaderOf_19 : decode cX12_leaderOf 19 = .ok (.iconst 0, 1) := by decide +kernel
theorem dX12_leaderOf_20 : decode cX12_leaderOf 20 = .ok (.ireturn, 1) := by decide +kernel
