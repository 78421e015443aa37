theorem dX12_juror_0 : decode cX12_juror 0 = .ok (.iload_n 1, 1) := by decide +kernel
theorem dX12_juror_1 : decode cX12_juror 1 = .ok (.i2l, 1) := by decide +kernel
theorem dX12_juror_2 : decode cX12_juror 2 = .ok (.lconst 0, 1) := by decide +kernel
theorem dX12_juror_3 : decode cX12_juror 3 = .ok (.ldc2_w 72, 3) := by decide +kernel
theorem dX12_juror_6 : decode cX12_juror 6 = .ok (.invokestatic 62, 3) := by decide +kernel
theorem dX12_juror_9 : decode cX12_juror 9 = .ok (.ifCond .eq 65, 3) := by decide +kernel
theorem dX12_juror_12 : decode cX12_juror 12 = .ok (.iload_n 1, 1) := by decide +kernel
theorem dX12_juror_13 : decode cX12_juror 13 = .ok (.bipush 100, 2) := by decide +kernel
theorem dX12_juror_15 : decode cX12_juror 15 = .ok (.irem, 1) := by decide +kernel
theorem dX12_juror_16 : decode cX12_juror 16 = .ok (.i2l, 1) := by decide +kernel
theorem dX12_juror_17 : decode cX12_juror 17 = .ok (.lconst 1, 1) := by decide +kernel
theorem dX12_juror_18 : decode cX12_juror 18 = .ok (.ldc2_w 74, 3) := by decide +kernel
theorem dX12_juror_21 : decode cX12_juror 21 = .ok (.invokestatic 62, 3) := by decide +kernel
theorem dX12_juror_24 : decode cX12_juror 24 = .ok (.ifCond .eq 50, 3) := by decide +kernel
theorem dX12_juror_27 : decode cX12_juror 27 = .ok (.iload_n 2, 1) := by decide +kernel
theorem dX12_juror_28 : decode cX12_juror 28 = .ok (.i2l, 1) := by decide +kernel
theorem dX12_juror_29 : decode cX12_juror 29 = .ok (.ldc2_w 76, 3) := by decide +kernel
theorem dX12_juror_32 : decode cX12_juror 32 = .ok (.ldc2_w 78, 3) := by decide +kernel
theorem dX12_juror_35 : decode cX12_juror 35 = .ok (.invokestatic 62, 3) := by decide +kernel
theorem dX12_juror_38 : decode cX12_juror 38 = .ok (.ifCond .eq 36, 3) := by decide +kernel
theorem dX12_juror_41 : decode cX12_juror 41 = .ok (.iload_n 3, 1) := by decide +kernel
theorem dX12_juror_42 : decode cX12_juror 42 = .ok (.i2l, 1) := by decide +kernel
theorem dX12_juror_43 : decode cX12_juror 43 = .ok (.lconst 0, 1) := by decide +kernel
theorem dX12_juror_44 : decode cX12_juror 44 = .ok (.ldc2_w 80, 3) := by decide +kernel
theorem dX12_juror_47 : decode cX12_juror 47 = .ok (.invokestatic 62, 3) := by decide +kernel
theorem dX12_juror_50 : decode cX12_juror 50 = .ok (.ifCond .eq 24, 3) := by decide +kernel
theorem dX12_juror_53 : decode cX12_juror 53 = .ok (.iload 4, 2) := by decide +kernel
theorem dX12_juror_55 : decode cX12_juror 55 = .ok (.i2l, 1) := by decide +kernel
theorem dX12_juror_56 : decode cX12_juror 56 = .ok (.ldc2_w 82, 3) := by decide +kernel
theorem dX12_juror_59 : decode cX12_juror 59 = .ok (.aload_n 0, 1) := by decide +kernel
theorem dX12_juror_60 : decode cX12_juror 60 = .ok (.getfield 9, 3) := by decide +kernel
theorem dX12_juror_63 : decode cX12_juror 63 = .ok (.iconst 2, 1) := by decide +kernel
theorem dX12_juror_64 : decode cX12_juror 64 = .ok (.iaload, 1) := by decide +kernel
theorem dX12_juror_65 : decode cX12_juror 65 = .ok (.iconst 1, 1) := by decide +kernel
theorem dX12_juror_66 : decode cX12_juror 66 = .ok (.isub, 1) := by decide +kernel
theorem dX12_juror_67 : decode cX12_juror 67 = .ok (.i2l, 1) := by decide +kernel
theorem dX12_juror_68 : decode cX12_juror 68 = .ok (.invokestatic 62, 3) := by decide +kernel
theorem dX12_juror_71 : decode cX12_juror 71 = .ok (.ifCond .ne 5, 3) := by decide +kernel
theorem dX12_juror_74 : decode cX12_juror 74 = .ok (.iconst (-1), 1) := by decide +kernel
theorem dX12_juror_75 : decode cX12_juror 75 = .ok (.ireturn, 1) := by decide +kernel
theorem dX12_juror_76 : decode cX12_juror 76 = .ok (.aload_n 0, 1) := by decide +kernel
theorem dX12_juror_77 : decode cX12_juror 77 = .ok (.getfield 9, 3) := by decide +kernel
theorem dX12_juror_80 : decode cX12_juror 80 = .ok (.iconst 1, 1) := by decide +kernel
theorem dX12_juror_81 : decode cX12_juror 81 = .ok (.iaload, 1) := by decide +kernel
theorem dX12_juror_82 : decode cX12_juror 82 = .ok (.bipush 12, 2) := by decide +kernel
theorem dX12_juror_84 : decode cX12_juror 84 = .ok (.if_icmp .ne 6, 3) := by decide +kernel
theorem dX12_juror_87 : decode cX12_juror 87 = .ok (.bipush (-2), 2) := by decide +kernel
theorem dX12_juror_89 : decode cX12_juror 89 = .ok (.ireturn, 1) := by decide +kernel
theorem dX12_juror_90 : decode cX12_juror 90 = .ok (.bipush 19, 2) := by decide +kernel
theorem dX12_juror_92 : decode cX12_juror 92 = .ok (.bipush 7, 2) := by decide +kernel
theorem dX12_juror_94 : decode cX12_juror 94 = .ok (.aload_n 0, 1) := by decide +kernel
theorem dX12_juror_95 : decode cX12_juror 95 = .ok (.getfield 9, 3) := by decide +kernel
theorem dX12_juror_98 : decode cX12_juror 98 = .ok (.iconst 1, 1) := by decide +kernel
theorem dX12_juror_99 : decode cX12_juror 99 = .ok (.iaload, 1) := by decide +kernel
theorem dX12_juror_100 : decode cX12_juror 100 = .ok (.imul, 1) := by decide +kernel
theorem dX12_juror_101 : decode cX12_juror 101 = .ok (.iadd, 1) := by decide +kernel
theorem dX12_juror_102 : decode cX12_juror 102 = .ok (.istore 5, 2) := by decide +kernel
theorem dX12_juror_104 : decode cX12_juror 104 = .ok (.aload_n 0, 1) := by decide +kernel
theorem dX12_juror_105 : decode cX12_juror 105 = .ok (.getfield 9, 3) := by decide +kernel
theorem dX12_juror_108 : decode cX12_juror 108 = .ok (.iload 5, 2) := by decide +kernel
theorem dX12_juror_110 : decode cX12_juror 110 = .ok (.iload_n 1, 1) := by decide +kernel
theorem dX12_juror_111 : decode cX12_juror 111 = .ok (.sipush 1000, 3) := by decide +kernel
theorem dX12_juror_114 : decode cX12_juror 114 = .ok (.idiv, 1) := by decide +kernel
theorem dX12_juror_115 : decode cX12_juror 115 = .ok (.iastore, 1) := by decide +kernel
theorem dX12_juror_116 : decode cX12_juror 116 = .ok (.aload_n 0, 1) := by decide +kernel
theorem dX12_juror_117 : decode cX12_juror 117 = .ok (.getfield 9, 3) := by decide +kernel
theorem dX12_juror_120 : decode cX12_juror 120 = .ok (.iload 5, 2) := by decide +kernel
theorem dX12_juror_122 : decode cX12_juror 122 = .ok (.iconst 1, 1) := by decide +kernel
theorem dX12_juror_123 : decode cX12_juror 123 = .ok (.iadd, 1) := by decide +kernel
theorem dX12_juror_124 : decode cX12_juror 124 = .ok (.iload_n 1, 1) := by decide +kernel
theorem dX12_juror_125 : decode cX12_juror 125 = .ok (.bipush 100, 2) := by decide +kernel
theorem dX12_juror_127 : decode cX12_juror 127 = .ok (.idiv, 1) := by decide +kernel
theorem dX12_juror_128 : decode cX12_juror 128 = .ok (.bipush 10, 2) := by decide +kernel
theorem dX12_juror_130 : decode cX12_juror 130 = .ok (.irem, 1) := by decide +kernel
theorem dX12_juror_131 : decode cX12_juror 131 = .ok (.iastore, 1) := by decide +kernel
theorem dX12_juror_132 : decode cX12_juror 132 = .ok (.aload_n 0, 1) := by decide +kernel
theorem dX12_juror_133 : decode cX12_juror 133 = .ok (.getfield 9, 3) := by decide +kernel
theorem dX12_juror_136 : decode cX12_juror 136 = .ok (.iload 5, 2) := by decide +kernel
theorem dX12_juror_138 : decode cX12_juror 138 = .ok (.iconst 2, 1) := by decide +kernel
theorem dX12_juror_139 : decode cX12_juror 139 = .ok (.iadd, 1) := by decide +kernel
theorem dX12_juror_140 : decode cX12_juror 140 = .ok (.iload_n 1, 1) := by decide +kernel
theorem dX12_juror_141 : decode cX12_juror 141 = .ok (.bipush 100, 2) := by decide +kernel
theorem dX12_juror_143 : decode cX12_juror 143 = .ok (.irem, 1) := by decide +kernel
theorem dX12_juror_144 : decode cX12_juror 144 = .ok (.iastore, 1) := by decide +kernel
theorem dX12_juror_145 : decode cX12_juror 145 = .ok (.aload_n 0, 1) := by decide +kernel
theorem dX12_juror_146 : decode cX12_juror 146 = .ok (.getfield 9, 3) := by decide +kernel
theorem dX12_juror_149 : decode cX12_juror 149 = .ok (.iload 5, 2) := by decide +kernel
theorem dX12_juror_151 : decode cX12_juror 151 = .ok (.iconst 3, 1) := by decide +kernel
theorem dX12_juror_152 : decode cX12_juror 152 = .ok (.iadd, 1) := by decide +kernel
theorem dX12_juror_153 : decode cX12_juror 153 = .ok (.iload_n 2, 1) := by decide +kernel
theorem dX12_juror_154 : decode cX12_juror 154 = .ok (.iastore, 1) := by decide +kernel
theorem dX12_juror_155 : decode cX12_juror 155 = .ok (.aload_n 0, 1) := by decide +kernel
theorem dX12_juror_156 : decode cX12_juror 156 = .ok (.getfield 9, 3) := by decide +kernel
theorem dX12_juror_159 : decode cX12_juror 159 = .ok (.iload 5, 2) := by decide +kernel
theorem dX12_juror_161 : decode cX12_juror 161 = .ok (.iconst 4, 1) := by decide +kernel
theorem dX12_juror_162 : decode cX12_juror 162 = .ok (.iadd, 1) := by decide +kernel
theorem dX12_juror_163 : decode cX12_juror 163 = .ok (.iload_n 3, 1) := by decide +kernel
theorem dX12_juror_164 : decode cX12_juror 164 = .ok (.iastore, 1) := by decide +kernel
theorem dX12_juror_165 : decode cX12_juror 165 = .ok (.aload_n 0, 1) := by decide +kernel
theorem dX12_juror_166 : decode cX12_juror 166 = .ok (.getfield 9, 3) := by decide +kernel
theorem dX12_juror_169 : decode cX12_juror 169 = .ok (.iload 5, 2) := by decide +kernel
theorem dX12_juror_171 : decode cX12_juror 171 = .ok (.iconst 5, 1) := by decide +kernel
theorem dX12_juror_172 : decode cX12_juror 172 = .ok (.iadd, 1) := by decide +kernel
theorem dX12_juror_173 : decode cX12_juror 173 = .ok (.iload 4, 2) := by decide +kernel
theorem dX12_juror_175 : decode cX12_juror 175 = .ok (.iastore, 1) := by decide +kernel
theorem dX12_juror_176 : decode cX12_juror 176 = .ok (.aload_n 0, 1) := by decide +kernel
theorem dX12_juror_177 : decode cX12_juror 177 = .ok (.getfield 9, 3) := by decide +kernel
theorem dX12_juror_180 : decode cX12_juror 180 = .ok (.iload 5, 2) := by decide +kernel
theorem dX12_juror_182 : decode cX12_juror 182 = .ok (.bipush 6, 2) := by decide +kernel
theorem dX12_juror_184 : decode cX12_juror 184 = .ok (.iadd, 1) := by decide +kernel
theorem dX12_juror_185 : decode cX12_juror 185 = .ok (.iconst 0, 1) := by decide +kernel
theorem dX12_juror_186 : decode cX12_juror 186 = .ok (.iastore, 1) := by decide +kernel
theorem dX12_juror_187 : decode cX12_juror 187 = .ok (.aload_n 0, 1) := by decide +kernel
theorem dX12_juror_188 : decode cX12_juror 188 = .ok (.getfield 9, 3) := by decide +kernel
theorem dX12_juror_191 : decode cX12_juror 191 = .ok (.iconst 1, 1) := by decide +kernel
theorem dX12_juror_192 : decode cX12_juror 192 = .ok (.dup2, 1) := by decide +kernel
theorem dX12_juror_193 : decode cX12_juror 193 = .ok (.iaload, 1) := by decide +kernel
theorem dX12_juror_194 : decode cX12_juror 194 = .ok (.iconst 1, 1) := by decide +kernel
theorem dX12_juror_195 : decode cX12_juror 195 = .ok (.iadd, 1) := by decide +kernel
theorem dX12_juror_196 : decode cX12_juror 196 = .ok (.iastore, 1) := by decide +kernel
theorem dX12_juror_197 : decode cX12_juror 197 = .ok (.aload_n 0, 1) := by decide +kernel
theorem dX12_juror_198 : decode cX12_juror 198 = .ok (.getfield 22, 3) := by decide +kernel
theorem dX12_juror_201 : decode cX12_juror 201 = .ok (.bipush 6, 2) := by decide +kernel
theorem dX12_juror_203 : decode cX12_juror 203 = .ok (.iconst 0, 1) := by decide +kernel
theorem dX12_juror_204 : decode cX12_juror 204 = .ok (.iastore, 1) := by decide +kernel
theorem dX12_juror_205 : decode cX12_juror 205 = .ok (.aload_n 0, 1) := by decide +kernel
theorem dX12_juror_206 : decode cX12_juror 206 = .ok (.getfield 9, 3) := by decide +kernel
theorem dX12_juror_209 : decode cX12_juror 209 = .ok (.iconst 1, 1) := by decide +kernel
theorem dX12_juror_210 : decode cX12_juror 210 = .ok (.iaload, 1) := by decide +kernel
theorem dX12_juror_211 : decode cX12_juror 211 = .ok (.iconst 1, 1) := by decide +kernel
theorem dX12_juror_212 : decode cX12_juror 212 = .ok (.isub, 1) := by decide +kernel
theorem dX12_juror_213 : decode cX12_juror 213 = .ok (.ireturn, 1) := by decide +kernel
theorem dX12_isSet_0 : decode cX12_isSet 0 = .ok (.iload_n 1, 1) := by decide +kernel
theorem dX12_isSet_1 : decode cX12_isSet 1 = .ok (.i2l, 1) := by decide +kernel
theorem dX12_isSet_2 : decode cX12_isSet 2 = .ok (.lconst 0, 1) := by decide +kernel
theorem dX12_isSet_3 : decode cX12_isSet 3 = .ok (.iconst 1, 1) := by decide +kernel
theorem dX12_isSet_4 : decode cX12_isSet 4 = .ok (.aload_n 0, 1) := by decide +kernel
theorem dX12_isSet_5 : decode cX12_isSet 5 = .ok (.getfield 9, 3) := by decide +kernel
theorem dX12_isSet_8 : decode cX12_isSet 8 = .ok (.iconst 0, 1) := by decide +kernel
theorem dX12_isSet_9 : decode cX12_isSet 9 = .ok (.iaload, 1) := by decide +kernel
theorem dX12_isSet_10 : decode cX12_isSet 10 = .ok (.ishl, 1) := by decide +kernel
theorem dX12_isSet_11 : decode cX12_isSet 11 = .ok (.iconst 1, 1) := by decide +kernel
theorem dX12_isSet_12 : decode cX12_isSet 12 = .ok (.isub, 1) := by decide +kernel
theorem dX12_isSet_13 : decode cX12_isSet 13 = .ok (.i2l, 1) := by decide +kernel
theorem dX12_isSet_14 : decode cX12_isSet 14 = .ok (.invokestatic 62, 3) := by decide +kernel
theorem dX12_isSet_17 : decode cX12_isSet 17 = .ok (.ireturn, 1) := by decide +kernel
theorem dX12_holds_0 : decode cX12_holds 0 = .ok (.aload_n 0, 1) := by decide +kernel
theorem dX12_holds_1 : decode cX12_holds 1 = .ok (.iload_n 1, 1) := by decide +kernel
theorem dX12_holds_2 : decode cX12_holds 2 = .ok (.invokevirtual 84, 3) := by decide +kernel
theorem dX12_holds_5 : decode cX12_holds 5 = .ok (.ifCond .eq 29, 3) := by decide +kernel
theorem dX12_holds_8 : decode cX12_holds 8 = .ok (.aload_n 0, 1) := by decide +kernel
theorem dX12_holds_9 : decode cX12_holds 9 = .ok (.iload_n 2, 1) := by decide +kernel
theorem dX12_holds_10 : decode cX12_holds 10 = .ok (.invokevirtual 88, 3) := by decide +kernel
theorem dX12_holds_13 : decode cX12_holds 13 = .ok (.ifCond .eq 21, 3) := by decide +kernel
theorem dX12_holds_16 : decode cX12_holds 16 = .ok (.aload_n 0, 1) := by decide +kernel
theorem dX12_holds_17 : decode cX12_holds 17 = .ok (.bipush 19, 2) := by decide +kernel
theorem dX12_holds_19 : decode cX12_holds 19 = .ok (.bipush 7, 2) := by decide +kernel
theorem dX12_holds_21 : decode cX12_holds 21 = .ok (.iload_n 1, 1) := by decide +kernel
theorem dX12_holds_22 : decode cX12_holds 22 = .ok (.imul, 1) := by decide +kernel
theorem dX12_holds_23 : decode cX12_holds 23 = .ok (.iadd, 1) := by decide +kernel
theorem dX12_holds_24 : decode cX12_holds 24 = .ok (.bipush 6, 2) := by decide +kernel
theorem dX12_holds_26 : decode cX12_holds 26 = .ok (.iadd, 1) := by decide +kernel
theorem dX12_holds_27 : decode cX12_holds 27 = .ok (.iload_n 2, 1) := by decide +kernel
theorem dX12_holds_28 : decode cX12_holds 28 = .ok (.invokevirtual 91, 3) := by decide +kernel
theorem dX12_holds_31 : decode cX12_holds 31 = .ok (.goto 4, 3) := by decide +kernel
theorem dX12_holds_34 : decode cX12_holds 34 = .ok (.iconst (-1), 1) := by decide +kernel
theorem dX12_holds_35 : decode cX12_holds 35 = .ok (.ireturn, 1) := by decide +kernel
theorem dX12_hasBegun_0 : decode cX12_hasBegun 0 = .ok (.aload_n 0, 1) := by decide +kernel
theorem dX12_hasBegun_1 : decode cX12_hasBegun 1 = .ok (.getfield 22, 3) := by decide +kernel
theorem dX12_hasBegun_4 : decode cX12_hasBegun 4 = .ok (.bipush 6, 2) := by decide +kernel
theorem dX12_hasBegun_6 : decode cX12_hasBegun 6 = .ok (.iaload, 1) := by decide +kernel
theorem dX12_hasBegun_7 : decode cX12_hasBegun 7 = .ok (.iconst 1, 1) := by decide +kernel
theorem dX12_hasBegun_8 : decode cX12_hasBegun 8 = .ok (.if_icmp .ne 7, 3) := by decide +kernel
theorem dX12_hasBegun_11 : decode cX12_hasBegun 11 = .ok (.iconst 1, 1) := by decide +kernel
theorem dX12_hasBegun_12 : decode cX12_hasBegun 12 = .ok (.goto 4, 3) := by decide +kernel
theorem dX12_hasBegun_15 : decode cX12_hasBegun 15 = .ok (.iconst 0, 1) := by decide +kernel
theorem dX12_hasBegun_16 : decode cX12_hasBegun 16 = .ok (.ireturn, 1) := by decide +kernel
theorem dX12_of_0 : decode cX12_of 0 = .ok (.aload_n 0, 1) := by decide +kernel
theorem dX12_of_1 : decode cX12_of 1 = .ok (.iload_n 1, 1) := by decide +kernel
theorem dX12_of_2 : decode cX12_of 2 = .ok (.invokevirtual 84, 3) := by decide +kernel
theorem dX12_of_5 : decode cX12_of 5 = .ok (.ifCond .eq 15, 3) := by decide +kernel
theorem dX12_of_8 : decode cX12_of 8 = .ok (.iload_n 2, 1) := by decide +kernel
theorem dX12_of_9 : decode cX12_of 9 = .ok (.i2l, 1) := by decide +kernel
theorem dX12_of_10 : decode cX12_of 10 = .ok (.lconst 0, 1) := by decide +kernel
theorem dX12_of_11 : decode cX12_of 11 = .ok (.ldc2_w 95, 3) := by decide +kernel
theorem dX12_of_14 : decode cX12_of 14 = .ok (.invokestatic 62, 3) := by decide +kernel
theorem dX12_of_17 : decode cX12_of 17 = .ok (.ifCond .ne 6, 3) := by decide +kernel
theorem dX12_of_20 : decode cX12_of 20 = .ok (.ldc 97, 2) := by decide +kernel
theorem dX12_of_22 : decode cX12_of 22 = .ok (.ireturn, 1) := by decide +kernel
theorem dX12_of_23 : decode cX12_of 23 = .ok (.iload_n 2, 1) := by decide +kernel
theorem dX12_of_24 : decode cX12_of 24 = .ok (.bipush 6, 2) := by decide +kernel
theorem dX12_of_26 : decode cX12_of 26 = .ok (.if_icmp .ge 10, 3) := by decide +kernel
theorem dX12_of_29 : decode cX12_of 29 = .ok (.aload_n 0, 1) := by decide +kernel
theorem dX12_of_30 : decode cX12_of 30 = .ok (.iload_n 1, 1) := by decide +kernel
theorem dX12_of_31 : decode cX12_of 31 = .ok (.iload_n 2, 1) := by decide +kernel
theorem dX12_of_32 : decode cX12_of 32 = .ok (.invokevirtual 98, 3) := by decide +kernel
theorem dX12_of_35 : decode cX12_of 35 = .ok (.ireturn, 1) := by decide +kernel
theorem dX12_of_36 : decode cX12_of 36 = .ok (.aload_n 0, 1) := by decide +kernel
theorem dX12_of_37 : decode cX12_of 37 = .ok (.invokevirtual 101, 3) := by decide +kernel
theorem dX12_of_40 : decode cX12_of 40 = .ok (.ifCond .ne 21, 3) := by decide +kernel
theorem dX12_of_43 : decode cX12_of 43 = .ok (.iload_n 2, 1) := by decide +kernel
theorem dX12_of_44 : decode cX12_of 44 = .ok (.bipush 6, 2) := by decide +kernel
theorem dX12_of_46 : decode cX12_of 46 = .ok (.if_icmp .ne 13, 3) := by decide +kernel
theorem dX12_of_49 : decode cX12_of 49 = .ok (.aload_n 0, 1) := by decide +kernel
theorem dX12_of_50 : decode cX12_of 50 = .ok (.iload_n 1, 1) := by decide +kernel
theorem dX12_of_51 : decode cX12_of 51 = .ok (.bipush 6, 2) := by decide +kernel
theorem dX12_of_53 : decode cX12_of 53 = .ok (.invokevirtual 98, 3) := by decide +kernel
theorem dX12_of_56 : decode cX12_of 56 = .ok (.goto 4, 3) := by decide +kernel
theorem dX12_of_59 : decode cX12_of 59 = .ok (.iconst 0, 1) := by decide +kernel
theorem dX12_of_60 : decode cX12_of 60 = .ok (.ireturn, 1) := by decide +kernel
theorem dX12_of_61 : decode cX12_of 61 = .ok (.iload_n 2, 1) := by decide +kernel
theorem dX12_of_62 : decode cX12_of 62 = .ok (.tableswitch 56 6 8 #[26, 36, 46], 26) := by decide +kernel
theorem dX12_of_88 : decode cX12_of 88 = .ok (.aload_n 0, 1) := by decide +kernel
theorem dX12_of_89 : decode cX12_of 89 = .ok (.getfield 22, 3) := by decide +kernel
theorem dX12_of_92 : decode cX12_of 92 = .ok (.bipush 19, 2) := by decide +kernel
theorem dX12_of_94 : decode cX12_of 94 = .ok (.iload_n 1, 1) := by decide +kernel
theorem dX12_of_95 : decode cX12_of 95 = .ok (.iadd, 1) := by decide +kernel
theorem dX12_of_96 : decode cX12_of 96 = .ok (.iaload, 1) := by decide +kernel
theorem dX12_of_97 : decode cX12_of 97 = .ok (.ireturn, 1) := by decide +kernel
theorem dX12_of_98 : decode cX12_of 98 = .ok (.aload_n 0, 1) := by decide +kernel
theorem dX12_of_99 : decode cX12_of 99 = .ok (.getfield 22, 3) := by decide +kernel
theorem dX12_of_102 : decode cX12_of 102 = .ok (.bipush 31, 2) := by decide +kernel
theorem dX12_of_104 : decode cX12_of 104 = .ok (.iload_n 1, 1) := by decide +kernel
theorem dX12_of_105 : decode cX12_of 105 = .ok (.iadd, 1) := by decide +kernel
theorem dX12_of_106 : decode cX12_of 106 = .ok (.iaload, 1) := by decide +kernel
theorem dX12_of_107 : decode cX12_of 107 = .ok (.ireturn, 1) := by decide +kernel
theorem dX12_of_108 : decode cX12_of 108 = .ok (.aload_n 0, 1) := by decide +kernel
theorem dX12_of_109 : decode cX12_of 109 = .ok (.getfield 22, 3) := by decide +kernel
theorem dX12_of_112 : decode cX12_of 112 = .ok (.bipush 43, 2) := by decide +kernel
theorem dX12_of_114 : decode cX12_of 114 = .ok (.iload_n 1, 1) := by decide +kernel
theorem dX12_of_115 : decode cX12_of 115 = .ok (.iadd, 1) := by decide +kernel
theorem dX12_of_116 : decode cX12_of 116 = .ok (.iaload, 1) := by decide +kernel
theorem dX12_of_117 : decode cX12_of 117 = .ok (.ireturn, 1) := by decide +kernel
theorem dX12_of_118 : decode cX12_of 118 = .ok (.aload_n 0, 1) := by decide +kernel
theorem dX12_of_119 : decode cX12_of 119 = .ok (.getfield 22, 3) := by decide +kernel
theorem dX12_of_122 : decode cX12_of 122 = .ok (.bipush 55, 2) := by decide +kernel
theorem dX12_of_124 : decode cX12_of 124 = .ok (.iload_n 1, 1) := by decide +kernel
theorem dX12_of_125 : decode cX12_of 125 = .ok (.iadd, 1) := by decide +kernel
theorem dX12_of_126 : decode cX12_of 126 = .ok (.iaload, 1) := by decide +kernel
theorem dX12_of_127 : decode cX12_of 127 = .ok (.ifCond .le 7, 3) := by decide +kernel
theorem dX12_of_130 : decode cX12_of 130 = .ok (.iconst 1, 1) := by decide +kernel
theorem dX12_of_131 : decode cX12_of 131 = .ok (.goto 4, 3) := by decide +kernel
theorem dX12_of_134 : decode cX12_of 134 = .ok (.iconst 0, 1) := by decide +kernel
theorem dX12_of_135 : decode cX12_of 135 = .ok (.ireturn, 1) := by decide +kernel
theorem dX12_sign_0 : decode cX12_sign 0 = .ok (.aload_n 0, 1) := by decide +kernel
theorem dX12_sign_1 : decode cX12_sign 1 = .ok (.getfield 105, 3) := by decide +kernel
theorem dX12_sign_4 : decode cX12_sign 4 = .ok (.aload_n 0, 1) := by decide +kernel
theorem dX12_sign_5 : decode cX12_sign 5 = .ok (.getfield 108, 3) := by decide +kernel
theorem dX12_sign_8 : decode cX12_sign 8 = .ok (.if_icmp .ge 20, 3) := by decide +kernel
theorem dX12_sign_11 : decode cX12_sign 11 = .ok (.aload_n 0, 1) := by decide +kernel
theorem dX12_sign_12 : decode cX12_sign 12 = .ok (.getfield 49, 3) := by decide +kernel
theorem dX12_sign_15 : decode cX12_sign 15 = .ok (.aload_n 0, 1) := by decide +kernel
theorem dX12_sign_16 : decode cX12_sign 16 = .ok (.getfield 111, 3) := by decide +kernel
theorem dX12_sign_19 : decode cX12_sign 19 = .ok (.aload_n 0, 1) := by decide +kernel
theorem dX12_sign_20 : decode cX12_sign 20 = .ok (.getfield 105, 3) := by decide +kernel
theorem dX12_sign_23 : decode cX12_sign 23 = .ok (.iadd, 1) := by decide +kernel
theorem dX12_sign_24 : decode cX12_sign 24 = .ok (.iaload, 1) := by decide +kernel
theorem dX12_sign_25 : decode cX12_sign 25 = .ok (.goto 6, 3) := by decide +kernel
theorem dX12_sign_28 : decode cX12_sign 28 = .ok (.sipush (-1000), 3) := by decide +kernel
theorem dX12_sign_31 : decode cX12_sign 31 = .ok (.ireturn, 1) := by decide +kernel
