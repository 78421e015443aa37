theorem dX12_thrown_0 : decode cX12_thrown 0 = .ok (.aload_n 0, 1) := by decide +kernel
theorem dX12_thrown_1 : decode cX12_thrown 1 = .ok (.getfield 58, 3) := by decide +kernel
theorem dX12_thrown_4 : decode cX12_thrown 4 = .ok (.ireturn, 1) := by decide +kernel
theorem dX12_isIn_0 : decode cX12_isIn 0 = .ok (.lload_n 0, 1) := by decide +kernel
theorem dX12_isIn_1 : decode cX12_isIn 1 = .ok (.lload_n 2, 1) := by decide +kernel
theorem dX12_isIn_2 : decode cX12_isIn 2 = .ok (.lcmp, 1) := by decide +kernel
theorem dX12_isIn_3 : decode cX12_isIn 3 = .ok (.ifCond .lt 14, 3) := by decide +kernel
theorem dX12_isIn_6 : decode cX12_isIn 6 = .ok (.lload_n 0, 1) := by decide +kernel
theorem dX12_isIn_7 : decode cX12_isIn 7 = .ok (.lload 4, 2) := by decide +kernel
theorem dX12_isIn_9 : decode cX12_isIn 9 = .ok (.lcmp, 1) := by decide +kernel
theorem dX12_isIn_10 : decode cX12_isIn 10 = .ok (.ifCond .gt 7, 3) := by decide +kernel
theorem dX12_isIn_13 : decode cX12_isIn 13 = .ok (.iconst 1, 1) := by decide +kernel
theorem dX12_isIn_14 : decode cX12_isIn 14 = .ok (.goto 4, 3) := by decide +kernel
theorem dX12_isIn_17 : decode cX12_isIn 17 = .ok (.iconst 0, 1) := by decide +kernel
theorem dX12_isIn_18 : decode cX12_isIn 18 = .ok (.ireturn, 1) := by decide +kernel
theorem dX12_isJuror_0 : decode cX12_isJuror 0 = .ok (.iload_n 1, 1) := by decide +kernel
theorem dX12_isJuror_1 : decode cX12_isJuror 1 = .ok (.i2l, 1) := by decide +kernel
theorem dX12_isJuror_2 : decode cX12_isJuror 2 = .ok (.lconst 0, 1) := by decide +kernel
theorem dX12_isJuror_3 : decode cX12_isJuror 3 = .ok (.aload_n 0, 1) := by decide +kernel
theorem dX12_isJuror_4 : decode cX12_isJuror 4 = .ok (.getfield 9, 3) := by decide +kernel
theorem dX12_isJuror_7 : decode cX12_isJuror 7 = .ok (.iconst 1, 1) := by decide +kernel
theorem dX12_isJuror_8 : decode cX12_isJuror 8 = .ok (.iaload, 1) := by decide +kernel
theorem dX12_isJuror_9 : decode cX12_isJuror 9 = .ok (.iconst 1, 1) := by decide +kernel
theorem dX12_isJuror_10 : decode cX12_isJuror 10 = .ok (.isub, 1) := by decide +kernel
theorem dX12_isJuror_11 : decode cX12_isJuror 11 = .ok (.i2l, 1) := by decide +kernel
theorem dX12_isJuror_12 : decode cX12_isJuror 12 = .ok (.invokestatic 62, 3) := by decide +kernel
theorem dX12_isJuror_15 : decode cX12_isJuror 15 = .ok (.ireturn, 1) := by decide +kernel
theorem dX12_isShelf_0 : decode cX12_isShelf 0 = .ok (.iload_n 0, 1) := by decide +kernel
theorem dX12_isShelf_1 : decode cX12_isShelf 1 = .ok (.i2l, 1) := by decide +kernel
theorem dX12_isShelf_2 : decode cX12_isShelf 2 = .ok (.lconst 0, 1) := by decide +kernel
theorem dX12_isShelf_3 : decode cX12_isShelf 3 = .ok (.ldc2_w 66, 3) := by decide +kernel
theorem dX12_isShelf_6 : decode cX12_isShelf 6 = .ok (.invokestatic 62, 3) := by decide +kernel
theorem dX12_isShelf_9 : decode cX12_isShelf 9 = .ok (.ireturn, 1) := by decide +kernel
theorem dX12_get_0 : decode cX12_get 0 = .ok (.aload_n 0, 1) := by decide +kernel
theorem dX12_get_1 : decode cX12_get 1 = .ok (.getfield 9, 3) := by decide +kernel
theorem dX12_get_4 : decode cX12_get 4 = .ok (.bipush 19, 2) := by decide +kernel
theorem dX12_get_6 : decode cX12_get 6 = .ok (.bipush 7, 2) := by decide +kernel
theorem dX12_get_8 : decode cX12_get 8 = .ok (.iload_n 1, 1) := by decide +kernel
theorem dX12_get_9 : decode cX12_get 9 = .ok (.imul, 1) := by decide +kernel
theorem dX12_get_10 : decode cX12_get 10 = .ok (.iadd, 1) := by decide +kernel
theorem dX12_get_11 : decode cX12_get 11 = .ok (.iload_n 2, 1) := by decide +kernel
theorem dX12_get_12 : decode cX12_get 12 = .ok (.iadd, 1) := by decide +kernel
theorem dX12_get_13 : decode cX12_get 13 = .ok (.iaload, 1) := by decide +kernel
theorem dX12_get_14 : decode cX12_get 14 = .ok (.ireturn, 1) := by decide +kernel
theorem dX12_becomes_0 : decode cX12_becomes 0 = .ok (.aload_n 0, 1) := by decide +kernel
theorem dX12_becomes_1 : decode cX12_becomes 1 = .ok (.getfield 9, 3) := by decide +kernel
theorem dX12_becomes_4 : decode cX12_becomes 4 = .ok (.iload_n 1, 1) := by decide +kernel
theorem dX12_becomes_5 : decode cX12_becomes 5 = .ok (.iaload, 1) := by decide +kernel
theorem dX12_becomes_6 : decode cX12_becomes 6 = .ok (.istore_n 3, 1) := by decide +kernel
theorem dX12_becomes_7 : decode cX12_becomes 7 = .ok (.aload_n 0, 1) := by decide +kernel
theorem dX12_becomes_8 : decode cX12_becomes 8 = .ok (.getfield 9, 3) := by decide +kernel
theorem dX12_becomes_11 : decode cX12_becomes 11 = .ok (.iload_n 1, 1) := by decide +kernel
theorem dX12_becomes_12 : decode cX12_becomes 12 = .ok (.iload_n 2, 1) := by decide +kernel
theorem dX12_becomes_13 : decode cX12_becomes 13 = .ok (.iastore, 1) := by decide +kernel
theorem dX12_becomes_14 : decode cX12_becomes 14 = .ok (.iload_n 3, 1) := by decide +kernel
theorem dX12_becomes_15 : decode cX12_becomes 15 = .ok (.ireturn, 1) := by decide +kernel
theorem dX12_bits_0 : decode cX12_bits 0 = .ok (.iconst 0, 1) := by decide +kernel
theorem dX12_bits_1 : decode cX12_bits 1 = .ok (.istore_n 1, 1) := by decide +kernel
theorem dX12_bits_2 : decode cX12_bits 2 = .ok (.iload_n 0, 1) := by decide +kernel
theorem dX12_bits_3 : decode cX12_bits 3 = .ok (.istore_n 2, 1) := by decide +kernel
theorem dX12_bits_4 : decode cX12_bits 4 = .ok (.iload_n 2, 1) := by decide +kernel
theorem dX12_bits_5 : decode cX12_bits 5 = .ok (.ifCond .le 16, 3) := by decide +kernel
theorem dX12_bits_8 : decode cX12_bits 8 = .ok (.iload_n 1, 1) := by decide +kernel
theorem dX12_bits_9 : decode cX12_bits 9 = .ok (.iload_n 2, 1) := by decide +kernel
theorem dX12_bits_10 : decode cX12_bits 10 = .ok (.iconst 1, 1) := by decide +kernel
theorem dX12_bits_11 : decode cX12_bits 11 = .ok (.iand, 1) := by decide +kernel
theorem dX12_bits_12 : decode cX12_bits 12 = .ok (.iadd, 1) := by decide +kernel
theorem dX12_bits_13 : decode cX12_bits 13 = .ok (.istore_n 1, 1) := by decide +kernel
theorem dX12_bits_14 : decode cX12_bits 14 = .ok (.iload_n 2, 1) := by decide +kernel
theorem dX12_bits_15 : decode cX12_bits 15 = .ok (.iconst 1, 1) := by decide +kernel
theorem dX12_bits_16 : decode cX12_bits 16 = .ok (.ishr, 1) := by decide +kernel
theorem dX12_bits_17 : decode cX12_bits 17 = .ok (.istore_n 2, 1) := by decide +kernel
theorem dX12_bits_18 : decode cX12_bits 18 = .ok (.goto (-14), 3) := by decide +kernel
theorem dX12_bits_21 : decode cX12_bits 21 = .ok (.iload_n 1, 1) := by decide +kernel
theorem dX12_bits_22 : decode cX12_bits 22 = .ok (.ireturn, 1) := by decide +kernel
theorem dX12_thing_0 : decode cX12_thing 0 = .ok (.iload_n 1, 1) := by decide +kernel
theorem dX12_thing_1 : decode cX12_thing 1 = .ok (.i2l, 1) := by decide +kernel
theorem dX12_thing_2 : decode cX12_thing 2 = .ok (.ldc2_w 68, 3) := by decide +kernel
theorem dX12_thing_5 : decode cX12_thing 5 = .ok (.ldc2_w 70, 3) := by decide +kernel
theorem dX12_thing_8 : decode cX12_thing 8 = .ok (.invokestatic 62, 3) := by decide +kernel
theorem dX12_thing_11 : decode cX12_thing 11 = .ok (.ifCond .ne 5, 3) := by decide +kernel
theorem dX12_thing_14 : decode cX12_thing 14 = .ok (.iconst (-1), 1) := by decide +kernel
theorem dX12_thing_15 : decode cX12_thing 15 = .ok (.ireturn, 1) := by decide +kernel
theorem dX12_thing_16 : decode cX12_thing 16 = .ok (.aload_n 0, 1) := by decide +kernel
theorem dX12_thing_17 : decode cX12_thing 17 = .ok (.getfield 9, 3) := by decide +kernel
theorem dX12_thing_20 : decode cX12_thing 20 = .ok (.iconst 0, 1) := by decide +kernel
theorem dX12_thing_21 : decode cX12_thing 21 = .ok (.iaload, 1) := by decide +kernel
theorem dX12_thing_22 : decode cX12_thing 22 = .ok (.bipush 12, 2) := by decide +kernel
theorem dX12_thing_24 : decode cX12_thing 24 = .ok (.if_icmp .ne 6, 3) := by decide +kernel
theorem dX12_thing_27 : decode cX12_thing 27 = .ok (.bipush (-2), 2) := by decide +kernel
theorem dX12_thing_29 : decode cX12_thing 29 = .ok (.ireturn, 1) := by decide +kernel
theorem dX12_thing_30 : decode cX12_thing 30 = .ok (.aload_n 0, 1) := by decide +kernel
theorem dX12_thing_31 : decode cX12_thing 31 = .ok (.getfield 9, 3) := by decide +kernel
theorem dX12_thing_34 : decode cX12_thing 34 = .ok (.bipush 7, 2) := by decide +kernel
theorem dX12_thing_36 : decode cX12_thing 36 = .ok (.aload_n 0, 1) := by decide +kernel
theorem dX12_thing_37 : decode cX12_thing 37 = .ok (.getfield 9, 3) := by decide +kernel
theorem dX12_thing_40 : decode cX12_thing 40 = .ok (.iconst 0, 1) := by decide +kernel
theorem dX12_thing_41 : decode cX12_thing 41 = .ok (.iaload, 1) := by decide +kernel
theorem dX12_thing_42 : decode cX12_thing 42 = .ok (.iadd, 1) := by decide +kernel
theorem dX12_thing_43 : decode cX12_thing 43 = .ok (.iload_n 1, 1) := by decide +kernel
theorem dX12_thing_44 : decode cX12_thing 44 = .ok (.iastore, 1) := by decide +kernel
theorem dX12_thing_45 : decode cX12_thing 45 = .ok (.aload_n 0, 1) := by decide +kernel
theorem dX12_thing_46 : decode cX12_thing 46 = .ok (.getfield 9, 3) := by decide +kernel
theorem dX12_thing_49 : decode cX12_thing 49 = .ok (.iconst 0, 1) := by decide +kernel
theorem dX12_thing_50 : decode cX12_thing 50 = .ok (.dup2, 1) := by decide +kernel
theorem dX12_thing_51 : decode cX12_thing 51 = .ok (.iaload, 1) := by decide +kernel
theorem dX12_thing_52 : decode cX12_thing 52 = .ok (.iconst 1, 1) := by decide +kernel
theorem dX12_thing_53 : decode cX12_thing 53 = .ok (.iadd, 1) := by decide +kernel
theorem dX12_thing_54 : decode cX12_thing 54 = .ok (.iastore, 1) := by decide +kernel
theorem dX12_thing_55 : decode cX12_thing 55 = .ok (.aload_n 0, 1) := by decide +kernel
theorem dX12_thing_56 : decode cX12_thing 56 = .ok (.getfield 9, 3) := by decide +kernel
theorem dX12_thing_59 : decode cX12_thing 59 = .ok (.iconst 0, 1) := by decide +kernel
theorem dX12_thing_60 : decode cX12_thing 60 = .ok (.iaload, 1) := by decide +kernel
theorem dX12_thing_61 : decode cX12_thing 61 = .ok (.iconst 1, 1) := by decide +kernel
theorem dX12_thing_62 : decode cX12_thing 62 = .ok (.isub, 1) := by decide +kernel
theorem dX12_thing_63 : decode cX12_thing 63 = .ok (.ireturn, 1) := by decide +kernel
theorem dX12_juror_0 : decode cX12_juror 0 = .ok (.iload_n 1, 1) := by decide +kernel
theorem dX12_juror_1 : decode cX12_juror 1 = .ok (.i2l, 1) := by decide +kernel
theorem dX12_juror_2 : decode cX12_juror 2 = .ok (.lconst 0, 1) := by decide +kernel
theorem dX12_juror_3 : decode cX12_juror 3 = .ok (.ldc2_w 72, 3) := by decide +kernel
theorem dX12_juror_6 : decode cX12_juror 6 = .ok (.invokestatic 62, 3) := by decide +kernel
theorem dX12_juror_9 : decode cX12_juror 9 = .ok (.ifCond .eq 65, 3) := by decide +kernel
theorem dX12_juror_12 : decode cX12_juror 12 = .ok (.iload_n 1, 1) := by decide +kernel
theorem dX12_juror_13 : decode cX12_juror 13 = .ok (.bipush 100, 2) := by decide +kernel
theorem dX12_juror_15 : decode cX12_juror 15 = .ok (.irem, 1) := by decide +kernel
theorem dX12_juror_16 : decode cX12_juror 16 = .ok (.i2l, 1) := by decide +kernel
theorem dX12_juror_17 : decode cX12_juror 17 = .ok (.lconst 1, 1) := by decide +kernel
theorem dX12_juror_18 : decode cX12_juror 18 = .ok (.ldc2_w 74, 3) := by decide +kernel
theorem dX12_juror_21 : decode cX12_juror 21 = .ok (.invokestatic 62, 3) := by decide +kernel
theorem dX12_juror_24 : decode cX12_juror 24 = .ok (.ifCond .eq 50, 3) := by decide +kernel
theorem dX12_juror_27 : decode cX12_juror 27 = .ok (.iload_n 2, 1) := by decide +kernel
theorem dX12_juror_28 : decode cX12_juror 28 = .ok (.i2l, 1) := by decide +kernel
theorem dX12_juror_29 : decode cX12_juror 29 = .ok (.ldc2_w 76, 3) := by decide +kernel
theorem dX12_juror_32 : decode cX12_juror 32 = .ok (.ldc2_w 78, 3) := by decide +kernel
theorem dX12_juror_35 : decode cX12_juror 35 = .ok (.invokestatic 62, 3) := by decide +kernel
theorem dX12_juror_38 : decode cX12_juror 38 = .ok (.ifCond .eq 36, 3) := by decide +kernel
theorem dX12_juror_41 : decode cX12_juror 41 = .ok (.iload_n 3, 1) := by decide +kernel
theorem dX12_juror_42 : decode cX12_juror 42 = .ok (.i2l, 1) := by decide +kernel
theorem dX12_juror_43 : decode cX12_juror 43 = .ok (.lconst 0, 1) := by decide +kernel
theorem dX12_juror_44 : decode cX12_juror 44 = .ok (.ldc2_w 80, 3) := by decide +kernel
theorem dX12_juror_47 : decode cX12_juror 47 = .ok (.invokestatic 62, 3) := by decide +kernel
theorem dX12_juror_50 : decode cX12_juror 50 = .ok (.ifCond .eq 24, 3) := by decide +kernel
theorem dX12_juror_53 : decode cX12_juror 53 = .ok (.iload 4, 2) := by decide +kernel
theorem dX12_juror_55 : decode cX12_juror 55 = .ok (.i2l, 1) := by decide +kernel
theorem dX12_juror_56 : decode cX12_juror 56 = .ok (.ldc2_w 82, 3) := by decide +kernel
theorem dX12_juror_59 : decode cX12_juror 59 = .ok (.aload_n 0, 1) := by decide +kernel
theorem dX12_juror_60 : decode cX12_juror 60 = .ok (.getfield 9, 3) := by decide +kernel
theorem dX12_juror_63 : decode cX12_juror 63 = .ok (.iconst 2, 1) := by decide +kernel
theorem dX12_juror_64 : decode cX12_juror 64 = .ok (.iaload, 1) := by decide +kernel
theorem dX12_juror_65 : decode cX12_juror 65 = .ok (.iconst 1, 1) := by decide +kernel
theorem dX12_juror_66 : decode cX12_juror 66 = .ok (.isub, 1) := by decide +kernel
theorem dX12_juror_67 : decode cX12_juror 67 = .ok (.i2l, 1) := by decide +kernel
theorem dX12_juror_68 : decode cX12_juror 68 = .ok (.invokestatic 62, 3) := by decide +kernel
theorem dX12_juror_71 : decode cX12_juror 71 = .ok (.ifCond .ne 5, 3) := by decide +kernel
theorem dX12_juror_74 : decode cX12_juror 74 = .ok (.iconst (-1), 1) := by decide +kernel
theorem dX12_juror_75 : decode cX12_juror 75 = .ok (.ireturn, 1) := by decide +kernel
theorem dX12_juror_76 : decode cX12_juror 76 = .ok (.aload_n 0, 1) := by decide +kernel
theorem dX12_juror_77 : decode cX12_juror 77 = .ok (.getfield 9, 3) := by decide +kernel
theorem dX12_juror_80 : decode cX12_juror 80 = .ok (.iconst 1, 1) := by decide +kernel
theorem dX12_juror_81 : decode cX12_juror 81 = .ok (.iaload, 1) := by decide +kernel
theorem dX12_juror_82 : decode cX12_juror 82 = .ok (.bipush 12, 2) := by decide +kernel
theorem dX12_juror_84 : decode cX12_juror 84 = .ok (.if_icmp .ne 6, 3) := by decide +kernel
theorem dX12_juror_87 : decode cX12_juror 87 = .ok (.bipush (-2), 2) := by decide +kernel
theorem dX12_juror_89 : decode cX12_juror 89 = .ok (.ireturn, 1) := by decide +kernel
theorem dX12_juror_90 : decode cX12_juror 90 = .ok (.bipush 19, 2) := by decide +kernel
theorem dX12_juror_92 : decode cX12_juror 92 = .ok (.bipush 7, 2) := by decide +kernel
theorem dX12_juror_94 : decode cX12_juror 94 = .ok (.aload_n 0, 1) := by decide +kernel
theorem dX12_juror_95 : decode cX12_juror 95 = .ok (.getfield 9, 3) := by decide +kernel
theorem dX12_juror_98 : decode cX12_juror 98 = .ok (.iconst 1, 1) := by decide +kernel
theorem dX12_juror_99 : decode cX12_juror 99 = .ok (.iaload, 1) := by decide +kernel
theorem dX12_juror_100 : decode cX12_juror 100 = .ok (.imul, 1) := by decide +kernel
theorem dX12_juror_101 : decode cX12_juror 101 = .ok (.iadd, 1) := by decide +kernel
theorem dX12_juror_102 : decode cX12_juror 102 = .ok (.istore 5, 2) := by decide +kernel
theorem dX12_juror_104 : decode cX12_juror 104 = .ok (.aload_n 0, 1) := by decide +kernel
theorem dX12_juror_105 : decode cX12_juror 105 = .ok (.getfield 9, 3) := by decide +kernel
theorem dX12_juror_108 : decode cX12_juror 108 = .ok (.iload 5, 2) := by decide +kernel
theorem dX12_juror_110 : decode cX12_juror 110 = .ok (.iload_n 1, 1) := by decide +kernel
theorem dX12_juror_111 : decode cX12_juror 111 = .ok (.sipush 1000, 3) := by decide +kernel
theorem dX12_juror_114 : decode cX12_juror 114 = .ok (.idiv, 1) := by decide +kernel
theorem dX12_juror_115 : decode cX12_juror 115 = .ok (.iastore, 1) := by decide +kernel
theorem dX12_juror_116 : decode cX12_juror 116 = .ok (.aload_n 0, 1) := by decide +kernel
theorem dX12_juror_117 : decode cX12_juror 117 = .ok (.getfield 9, 3) := by decide +kernel
theorem dX12_juror_120 : decode cX12_juror 120 = .ok (.iload 5, 2) := by decide +kernel
theorem dX12_juror_122 : decode cX12_juror 122 = .ok (.iconst 1, 1) := by decide +kernel
theorem dX12_juror_123 : decode cX12_juror 123 = .ok (.iadd, 1) := by decide +kernel
theorem dX12_juror_124 : decode cX12_juror 124 = .ok (.iload_n 1, 1) := by decide +kernel
theorem dX12_juror_125 : decode cX12_juror 125 = .ok (.bipush 100, 2) := by decide +kernel
theorem dX12_juror_127 : decode cX12_juror 127 = .ok (.idiv, 1) := by decide +kernel
theorem dX12_juror_128 : decode cX12_juror 128 = .ok (.bipush 10, 2) := by decide +kernel
theorem dX12_juror_130 : decode cX12_juror 130 = .ok (.irem, 1) := by decide +kernel
theorem dX12_juror_131 : decode cX12_juror 131 = .ok (.iastore, 1) := by decide +kernel
theorem dX12_juror_132 : decode cX12_juror 132 = .ok (.aload_n 0, 1) := by decide +kernel
theorem dX12_juror_133 : decode cX12_juror 133 = .ok (.getfield 9, 3) := by decide +kernel
theorem dX12_juror_136 : decode cX12_juror 136 = .ok (.iload 5, 2) := by decide +kernel
theorem dX12_juror_138 : decode cX12_juror 138 = .ok (.iconst 2, 1) := by decide +kernel
theorem dX12_juror_139 : decode cX12_juror 139 = .ok (.iadd, 1) := by decide +kernel
theorem dX12_juror_140 : decode cX12_juror 140 = .ok (.iload_n 1, 1) := by decide +kernel
theorem dX12_juror_141 : decode cX12_juror 141 = .ok (.bipush 100, 2) := by decide +kernel
theorem dX12_juror_143 : decode cX12_juror 143 = .ok (.irem, 1) := by decide +kernel
theorem dX12_juror_144 : decode cX12_juror 144 = .ok (.iastore, 1) := by decide +kernel
theorem dX12_juror_145 : decode cX12_juror 145 = .ok (.aload_n 0, 1) := by decide +kernel
theorem dX12_juror_146 : decode cX12_juror 146 = .ok (.getfield 9, 3) := by decide +kernel
theorem dX12_juror_149 : decode cX12_juror 149 = .ok (.iload 5, 2) := by decide +kernel
theorem dX12_juror_151 : decode cX12_juror 151 = .ok (.iconst 3, 1) := by decide +kernel
theorem dX12_juror_152 : decode cX12_juror 152 = .ok (.iadd, 1) := by decide +kernel
theorem dX12_juror_153 : decode cX12_juror 153 = .ok (.iload_n 2, 1) := by decide +kernel
theorem dX12_juror_154 : decode cX12_juror 154 = .ok (.iastore, 1) := by decide +kernel
theorem dX12_juror_155 : decode cX12_juror 155 = .ok (.aload_n 0, 1) := by decide +kernel
theorem dX12_juror_156 : decode cX12_juror 156 = .ok (.getfield 9, 3) := by decide +kernel
theorem dX12_juror_159 : decode cX12_juror 159 = .ok (.iload 5, 2) := by decide +kernel
theorem dX12_juror_161 : decode cX12_juror 161 = .ok (.iconst 4, 1) := by decide +kernel
theorem dX12_juror_162 : decode cX12_juror 162 = .ok (.iadd, 1) := by decide +kernel
theorem dX12_juror_163 : decode cX12_juror 163 = .ok (.iload_n 3, 1) := by decide +kernel
theorem dX12_juror_164 : decode cX12_juror 164 = .ok (.iastore, 1) := by decide +kernel
theorem dX12_juror_165 : decode cX12_juror 165 = .ok (.aload_n 0, 1) := by decide +kernel
theorem dX12_juror_166 : decode cX12_juror 166 = .ok (.getfield 9, 3) := by decide +kernel
theorem dX12_juror_169 : decode cX12_juror 169 = .ok (.iload 5, 2) := by decide +kernel
theorem dX12_juror_171 : decode cX12_juror 171 = .ok (.iconst 5, 1) := by decide +kernel
theorem dX12_juror_172 : decode cX12_juror 172 = .ok (.iadd, 1) := by decide +kernel
theorem dX12_juror_173 : decode cX12_juror 173 = .ok (.iload 4, 2) := by decide +kernel
theorem dX12_juror_175 : decode cX12_juror 175 = .ok (.iastore, 1) := by decide +kernel
theorem dX12_juror_176 : decode cX12_juror 176 = .ok (.aload_n 0, 1) := by decide +kernel
theorem dX12_juror_177 : decode cX12_juror 177 = .ok (.getfield 9, 3) := by decide +kernel
theorem dX12_juror_180 : decode cX12_juror 180 = .ok (.iload 5, 2) := by decide +kernel
theorem dX12_juror_182 : decode cX12_juror 182 = .ok (.bipush 6, 2) := by decide +kernel
theorem dX12_juror_184 : decode cX12_juror 184 = .ok (.iadd, 1) := by decide +kernel
theorem dX12_juror_185 : decode cX12_juror 185 = .ok (.iconst 0, 1) := by decide +kernel
theorem dX12_juror_186 : decode cX12_juror 186 = .ok (.iastore, 1) := by decide +kernel
theorem dX12_juror_187 : decode cX12_juror 187 = .ok (.aload_n 0, 1) := by decide +kernel
theorem dX12_juror_188 : decode cX12_juror 188 = .ok (.getfield 9, 3) := by decide +kernel
theorem dX12_juror_191 : decode cX12_juror 191 = .ok (.iconst 1, 1) := by decide +kernel
theorem dX12_juror_192 : decode cX12_juror 192 = .ok (.dup2, 1) := by decide +kernel
theorem dX12_juror_193 : decode cX12_juror 193 = .ok (.iaload, 1) := by decide +kernel
theorem dX12_juror_194 : decode cX12_juror 194 = .ok (.iconst 1, 1) := by decide +kernel
theorem dX12_juror_195 : decode cX12_juror 195 = .ok (.iadd, 1) := by decide +kernel
theorem dX12_juror_196 : decode cX12_juror 196 = .ok (.iastore, 1) := by decide +kernel
theorem dX12_juror_197 : decode cX12_juror 197 = .ok (.aload_n 0, 1) := by decide +kernel
theorem dX12_juror_198 : decode cX12_juror 198 = .ok (.getfield 22, 3) := by decide +kernel
theorem dX12_juror_201 : decode cX12_juror 201 = .ok (.bipush 6, 2) := by decide +kernel
theorem dX12_juror_203 : decode cX12_juror 203 = .ok (.iconst 0, 1) := by decide +kernel
theorem dX12_juror_204 : decode cX12_juror 204 = .ok (.iastore, 1) := by decide +kernel
theorem dX12_juror_205 : decode cX12_juror 205 = .ok (.aload_n 0, 1) := by decide +kernel
theorem dX12_juror_206 : decode cX12_juror 206 = .ok (.getfield 9, 3) := by decide +kernel
theorem dX12_juror_209 : decode cX12_juror 209 = .ok (.iconst 1, 1) := by decide +kernel
theorem dX12_juror_210 : decode cX12_juror 210 = .ok (.iaload, 1) := by decide +kernel
theorem dX12_juror_211 : decode cX12_juror 211 = .ok (.iconst 1, 1) := by decide +kernel
theorem dX12_juror_212 : decode cX12_juror 212 = .ok (.isub, 1) := by decide +kernel
theorem dX12_juror_213 : decode cX12_juror 213 = .ok (.ireturn, 1) := by decide +kernel
