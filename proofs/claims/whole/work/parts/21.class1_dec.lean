theorem dX4_init_0 : decode cX4_init 0 = .ok (.aload_n 0, 1) := by decide +kernel
theorem dX4_init_1 : decode cX4_init 1 = .ok (.iload_n 1, 1) := by decide +kernel
theorem dX4_init_2 : decode cX4_init 2 = .ok (.iload_n 2, 1) := by decide +kernel
theorem dX4_init_3 : decode cX4_init 3 = .ok (.iload_n 3, 1) := by decide +kernel
theorem dX4_init_4 : decode cX4_init 4 = .ok (.iload 4, 2) := by decide +kernel
theorem dX4_init_6 : decode cX4_init 6 = .ok (.iload 5, 2) := by decide +kernel
theorem dX4_init_8 : decode cX4_init 8 = .ok (.aload 6, 2) := by decide +kernel
theorem dX4_init_10 : decode cX4_init 10 = .ok (.invokespecial 1, 3) := by decide +kernel
theorem dX4_init_13 : decode cX4_init 13 = .ok (.return_, 1) := by decide +kernel
theorem dX6_init_0 : decode cX6_init 0 = .ok (.aload_n 0, 1) := by decide +kernel
theorem dX6_init_1 : decode cX6_init 1 = .ok (.iload_n 1, 1) := by decide +kernel
theorem dX6_init_2 : decode cX6_init 2 = .ok (.iload_n 2, 1) := by decide +kernel
theorem dX6_init_3 : decode cX6_init 3 = .ok (.iload_n 3, 1) := by decide +kernel
theorem dX6_init_4 : decode cX6_init 4 = .ok (.iload 4, 2) := by decide +kernel
theorem dX6_init_6 : decode cX6_init 6 = .ok (.iload 5, 2) := by decide +kernel
theorem dX6_init_8 : decode cX6_init 8 = .ok (.aload 6, 2) := by decide +kernel
theorem dX6_init_10 : decode cX6_init 10 = .ok (.invokespecial 1, 3) := by decide +kernel
theorem dX6_init_13 : decode cX6_init 13 = .ok (.return_, 1) := by decide +kernel
theorem dX7_init_0 : decode cX7_init 0 = .ok (.aload_n 0, 1) := by decide +kernel
theorem dX7_init_1 : decode cX7_init 1 = .ok (.iload_n 1, 1) := by decide +kernel
theorem dX7_init_2 : decode cX7_init 2 = .ok (.iload_n 2, 1) := by decide +kernel
theorem dX7_init_3 : decode cX7_init 3 = .ok (.iload_n 3, 1) := by decide +kernel
theorem dX7_init_4 : decode cX7_init 4 = .ok (.iload 4, 2) := by decide +kernel
theorem dX7_init_6 : decode cX7_init 6 = .ok (.iload 5, 2) := by decide +kernel
theorem dX7_init_8 : decode cX7_init 8 = .ok (.aload 6, 2) := by decide +kernel
theorem dX7_init_10 : decode cX7_init 10 = .ok (.invokespecial 3, 3) := by decide +kernel
theorem dX7_init_13 : decode cX7_init 13 = .ok (.return_, 1) := by decide +kernel
theorem dX11_newTurn_0 : decode cX11_newTurn 0 = .ok (.aload_n 0, 1) := by decide +kernel
theorem dX11_newTurn_1 : decode cX11_newTurn 1 = .ok (.getfield 10, 3) := by decide +kernel
theorem dX11_newTurn_4 : decode cX11_newTurn 4 = .ok (.iload 5, 2) := by decide +kernel
theorem dX11_newTurn_6 : decode cX11_newTurn 6 = .ok (.invokevirtual 279, 3) := by decide +kernel
theorem dX11_newTurn_9 : decode cX11_newTurn 9 = .ok (.astore 6, 2) := by decide +kernel
theorem dX11_newTurn_11 : decode cX11_newTurn 11 = .ok (.iload_n 2, 1) := by decide +kernel
theorem dX11_newTurn_12 : decode cX11_newTurn 12 = .ok (.sipush 1000, 3) := by decide +kernel
theorem dX11_newTurn_15 : decode cX11_newTurn 15 = .ok (.idiv, 1) := by decide +kernel
theorem dX11_newTurn_16 : decode cX11_newTurn 16 = .ok (.tableswitch 163 1 7 #[44, 61, 78, 95, 112, 129, 146], 44) := by decide +kernel
theorem dX11_newTurn_60 : decode cX11_newTurn 60 = .ok (.new 283, 3) := by decide +kernel
theorem dX11_newTurn_63 : decode cX11_newTurn 63 = .ok (.dup, 1) := by decide +kernel
theorem dX11_newTurn_64 : decode cX11_newTurn 64 = .ok (.iload_n 1, 1) := by decide +kernel
theorem dX11_newTurn_65 : decode cX11_newTurn 65 = .ok (.iload_n 2, 1) := by decide +kernel
theorem dX11_newTurn_66 : decode cX11_newTurn 66 = .ok (.iload_n 3, 1) := by decide +kernel
theorem dX11_newTurn_67 : decode cX11_newTurn 67 = .ok (.iload 4, 2) := by decide +kernel
theorem dX11_newTurn_69 : decode cX11_newTurn 69 = .ok (.iload 5, 2) := by decide +kernel
theorem dX11_newTurn_71 : decode cX11_newTurn 71 = .ok (.aload 6, 2) := by decide +kernel
theorem dX11_newTurn_73 : decode cX11_newTurn 73 = .ok (.invokespecial 285, 3) := by decide +kernel
theorem dX11_newTurn_76 : decode cX11_newTurn 76 = .ok (.areturn, 1) := by decide +kernel
theorem dX11_newTurn_77 : decode cX11_newTurn 77 = .ok (.new 288, 3) := by decide +kernel
theorem dX11_newTurn_80 : decode cX11_newTurn 80 = .ok (.dup, 1) := by decide +kernel
theorem dX11_newTurn_81 : decode cX11_newTurn 81 = .ok (.iload_n 1, 1) := by decide +kernel
theorem dX11_newTurn_82 : decode cX11_newTurn 82 = .ok (.iload_n 2, 1) := by decide +kernel
theorem dX11_newTurn_83 : decode cX11_newTurn 83 = .ok (.iload_n 3, 1) := by decide +kernel
theorem dX11_newTurn_84 : decode cX11_newTurn 84 = .ok (.iload 4, 2) := by decide +kernel
theorem dX11_newTurn_86 : decode cX11_newTurn 86 = .ok (.iload 5, 2) := by decide +kernel
theorem dX11_newTurn_88 : decode cX11_newTurn 88 = .ok (.aload 6, 2) := by decide +kernel
theorem dX11_newTurn_90 : decode cX11_newTurn 90 = .ok (.invokespecial 290, 3) := by decide +kernel
theorem dX11_newTurn_93 : decode cX11_newTurn 93 = .ok (.areturn, 1) := by decide +kernel
theorem dX11_newTurn_94 : decode cX11_newTurn 94 = .ok (.new 291, 3) := by decide +kernel
theorem dX11_newTurn_97 : decode cX11_newTurn 97 = .ok (.dup, 1) := by decide +kernel
theorem dX11_newTurn_98 : decode cX11_newTurn 98 = .ok (.iload_n 1, 1) := by decide +kernel
theorem dX11_newTurn_99 : decode cX11_newTurn 99 = .ok (.iload_n 2, 1) := by decide +kernel
theorem dX11_newTurn_100 : decode cX11_newTurn 100 = .ok (.iload_n 3, 1) := by decide +kernel
theorem dX11_newTurn_101 : decode cX11_newTurn 101 = .ok (.iload 4, 2) := by decide +kernel
theorem dX11_newTurn_103 : decode cX11_newTurn 103 = .ok (.iload 5, 2) := by decide +kernel
theorem dX11_newTurn_105 : decode cX11_newTurn 105 = .ok (.aload 6, 2) := by decide +kernel
theorem dX11_newTurn_107 : decode cX11_newTurn 107 = .ok (.invokespecial 293, 3) := by decide +kernel
theorem dX11_newTurn_110 : decode cX11_newTurn 110 = .ok (.areturn, 1) := by decide +kernel
theorem dX11_newTurn_111 : decode cX11_newTurn 111 = .ok (.new 294, 3) := by decide +kernel
theorem dX11_newTurn_114 : decode cX11_newTurn 114 = .ok (.dup, 1) := by decide +kernel
theorem dX11_newTurn_115 : decode cX11_newTurn 115 = .ok (.iload_n 1, 1) := by decide +kernel
theorem dX11_newTurn_116 : decode cX11_newTurn 116 = .ok (.iload_n 2, 1) := by decide +kernel
theorem dX11_newTurn_117 : decode cX11_newTurn 117 = .ok (.iload_n 3, 1) := by decide +kernel
theorem dX11_newTurn_118 : decode cX11_newTurn 118 = .ok (.iload 4, 2) := by decide +kernel
theorem dX11_newTurn_120 : decode cX11_newTurn 120 = .ok (.iload 5, 2) := by decide +kernel
theorem dX11_newTurn_122 : decode cX11_newTurn 122 = .ok (.aload 6, 2) := by decide +kernel
theorem dX11_newTurn_124 : decode cX11_newTurn 124 = .ok (.invokespecial 296, 3) := by decide +kernel
theorem dX11_newTurn_127 : decode cX11_newTurn 127 = .ok (.areturn, 1) := by decide +kernel
theorem dX11_newTurn_128 : decode cX11_newTurn 128 = .ok (.new 297, 3) := by decide +kernel
theorem dX11_newTurn_131 : decode cX11_newTurn 131 = .ok (.dup, 1) := by decide +kernel
theorem dX11_newTurn_132 : decode cX11_newTurn 132 = .ok (.iload_n 1, 1) := by decide +kernel
theorem dX11_newTurn_133 : decode cX11_newTurn 133 = .ok (.iload_n 2, 1) := by decide +kernel
theorem dX11_newTurn_134 : decode cX11_newTurn 134 = .ok (.iload_n 3, 1) := by decide +kernel
theorem dX11_newTurn_135 : decode cX11_newTurn 135 = .ok (.iload 4, 2) := by decide +kernel
theorem dX11_newTurn_137 : decode cX11_newTurn 137 = .ok (.iload 5, 2) := by decide +kernel
theorem dX11_newTurn_139 : decode cX11_newTurn 139 = .ok (.aload 6, 2) := by decide +kernel
theorem dX11_newTurn_141 : decode cX11_newTurn 141 = .ok (.invokespecial 299, 3) := by decide +kernel
theorem dX11_newTurn_144 : decode cX11_newTurn 144 = .ok (.areturn, 1) := by decide +kernel
theorem dX11_newTurn_145 : decode cX11_newTurn 145 = .ok (.new 300, 3) := by decide +kernel
theorem dX11_newTurn_148 : decode cX11_newTurn 148 = .ok (.dup, 1) := by decide +kernel
theorem dX11_newTurn_149 : decode cX11_newTurn 149 = .ok (.iload_n 1, 1) := by decide +kernel
theorem dX11_newTurn_150 : decode cX11_newTurn 150 = .ok (.iload_n 2, 1) := by decide +kernel
theorem dX11_newTurn_151 : decode cX11_newTurn 151 = .ok (.iload_n 3, 1) := by decide +kernel
theorem dX11_newTurn_152 : decode cX11_newTurn 152 = .ok (.iload 4, 2) := by decide +kernel
theorem dX11_newTurn_154 : decode cX11_newTurn 154 = .ok (.iload 5, 2) := by decide +kernel
theorem dX11_newTurn_156 : decode cX11_newTurn 156 = .ok (.aload 6, 2) := by decide +kernel
theorem dX11_newTurn_158 : decode cX11_newTurn 158 = .ok (.invokespecial 302, 3) := by decide +kernel
theorem dX11_newTurn_161 : decode cX11_newTurn 161 = .ok (.areturn, 1) := by decide +kernel
theorem dX11_newTurn_162 : decode cX11_newTurn 162 = .ok (.new 303, 3) := by decide +kernel
theorem dX11_newTurn_165 : decode cX11_newTurn 165 = .ok (.dup, 1) := by decide +kernel
theorem dX11_newTurn_166 : decode cX11_newTurn 166 = .ok (.iload_n 1, 1) := by decide +kernel
theorem dX11_newTurn_167 : decode cX11_newTurn 167 = .ok (.iload_n 2, 1) := by decide +kernel
theorem dX11_newTurn_168 : decode cX11_newTurn 168 = .ok (.iload_n 3, 1) := by decide +kernel
theorem dX11_newTurn_169 : decode cX11_newTurn 169 = .ok (.iload 4, 2) := by decide +kernel
theorem dX11_newTurn_171 : decode cX11_newTurn 171 = .ok (.iload 5, 2) := by decide +kernel
theorem dX11_newTurn_173 : decode cX11_newTurn 173 = .ok (.aload 6, 2) := by decide +kernel
theorem dX11_newTurn_175 : decode cX11_newTurn 175 = .ok (.invokespecial 305, 3) := by decide +kernel
theorem dX11_newTurn_178 : decode cX11_newTurn 178 = .ok (.areturn, 1) := by decide +kernel
theorem dX11_newTurn_179 : decode cX11_newTurn 179 = .ok (.new 82, 3) := by decide +kernel
theorem dX11_newTurn_182 : decode cX11_newTurn 182 = .ok (.dup, 1) := by decide +kernel
theorem dX11_newTurn_183 : decode cX11_newTurn 183 = .ok (.iload_n 1, 1) := by decide +kernel
theorem dX11_newTurn_184 : decode cX11_newTurn 184 = .ok (.iload_n 2, 1) := by decide +kernel
theorem dX11_newTurn_185 : decode cX11_newTurn 185 = .ok (.iload_n 3, 1) := by decide +kernel
theorem dX11_newTurn_186 : decode cX11_newTurn 186 = .ok (.iload 4, 2) := by decide +kernel
theorem dX11_newTurn_188 : decode cX11_newTurn 188 = .ok (.iload 5, 2) := by decide +kernel
theorem dX11_newTurn_190 : decode cX11_newTurn 190 = .ok (.aload 6, 2) := by decide +kernel
theorem dX11_newTurn_192 : decode cX11_newTurn 192 = .ok (.invokespecial 306, 3) := by decide +kernel
theorem dX11_newTurn_195 : decode cX11_newTurn 195 = .ok (.areturn, 1) := by decide +kernel
theorem dX3_sit_0 : decode cX3_sit 0 = .ok (.aload_n 0, 1) := by decide +kernel
theorem dX3_sit_1 : decode cX3_sit 1 = .ok (.getfield 45, 3) := by decide +kernel
theorem dX3_sit_4 : decode cX3_sit 4 = .ok (.ifCond .lt 47, 3) := by decide +kernel
theorem dX3_sit_7 : decode cX3_sit 7 = .ok (.aload_n 0, 1) := by decide +kernel
theorem dX3_sit_8 : decode cX3_sit 8 = .ok (.getfield 45, 3) := by decide +kernel
theorem dX3_sit_11 : decode cX3_sit 11 = .ok (.aload_n 0, 1) := by decide +kernel
theorem dX3_sit_12 : decode cX3_sit 12 = .ok (.getfield 17, 3) := by decide +kernel
theorem dX3_sit_15 : decode cX3_sit 15 = .ok (.arraylength, 1) := by decide +kernel
theorem dX3_sit_16 : decode cX3_sit 16 = .ok (.if_icmp .ge 35, 3) := by decide +kernel
theorem dX3_sit_19 : decode cX3_sit 19 = .ok (.aload_n 0, 1) := by decide +kernel
theorem dX3_sit_20 : decode cX3_sit 20 = .ok (.getfield 17, 3) := by decide +kernel
theorem dX3_sit_23 : decode cX3_sit 23 = .ok (.aload_n 0, 1) := by decide +kernel
theorem dX3_sit_24 : decode cX3_sit 24 = .ok (.getfield 45, 3) := by decide +kernel
theorem dX3_sit_27 : decode cX3_sit 27 = .ok (.aload_n 1, 1) := by decide +kernel
theorem dX3_sit_28 : decode cX3_sit 28 = .ok (.aastore, 1) := by decide +kernel
theorem dX3_sit_29 : decode cX3_sit 29 = .ok (.aload_n 0, 1) := by decide +kernel
theorem dX3_sit_30 : decode cX3_sit 30 = .ok (.getfield 21, 3) := by decide +kernel
theorem dX3_sit_33 : decode cX3_sit 33 = .ok (.aload_n 0, 1) := by decide +kernel
theorem dX3_sit_34 : decode cX3_sit 34 = .ok (.getfield 45, 3) := by decide +kernel
theorem dX3_sit_37 : decode cX3_sit 37 = .ok (.iload_n 2, 1) := by decide +kernel
theorem dX3_sit_38 : decode cX3_sit 38 = .ok (.invokestatic 56, 3) := by decide +kernel
theorem dX3_sit_41 : decode cX3_sit 41 = .ok (.aload_n 0, 1) := by decide +kernel
theorem dX3_sit_42 : decode cX3_sit 42 = .ok (.dup, 1) := by decide +kernel
theorem dX3_sit_43 : decode cX3_sit 43 = .ok (.getfield 45, 3) := by decide +kernel
theorem dX3_sit_46 : decode cX3_sit 46 = .ok (.iconst 1, 1) := by decide +kernel
theorem dX3_sit_47 : decode cX3_sit 47 = .ok (.iadd, 1) := by decide +kernel
theorem dX3_sit_48 : decode cX3_sit 48 = .ok (.putfield 45, 3) := by decide +kernel
theorem dX3_sit_51 : decode cX3_sit 51 = .ok (.return_, 1) := by decide +kernel
theorem dX11_at_0 : decode cX11_at 0 = .ok (.iload_n 1, 1) := by decide +kernel
theorem dX11_at_1 : decode cX11_at 1 = .ok (.ifCond .lt 15, 3) := by decide +kernel
theorem dX11_at_4 : decode cX11_at 4 = .ok (.iload_n 1, 1) := by decide +kernel
theorem dX11_at_5 : decode cX11_at 5 = .ok (.aload_n 0, 1) := by decide +kernel
theorem dX11_at_6 : decode cX11_at 6 = .ok (.arraylength, 1) := by decide +kernel
theorem dX11_at_7 : decode cX11_at 7 = .ok (.if_icmp .ge 9, 3) := by decide +kernel
theorem dX11_at_10 : decode cX11_at 10 = .ok (.aload_n 0, 1) := by decide +kernel
theorem dX11_at_11 : decode cX11_at 11 = .ok (.iload_n 1, 1) := by decide +kernel
theorem dX11_at_12 : decode cX11_at 12 = .ok (.iaload, 1) := by decide +kernel
theorem dX11_at_13 : decode cX11_at 13 = .ok (.goto 4, 3) := by decide +kernel
theorem dX11_at_16 : decode cX11_at 16 = .ok (.iconst 0, 1) := by decide +kernel
theorem dX11_at_17 : decode cX11_at 17 = .ok (.ireturn, 1) := by decide +kernel
theorem dX3_toldToAll_0 : decode cX3_toldToAll 0 = .ok (.iconst 1, 1) := by decide +kernel
theorem dX3_toldToAll_1 : decode cX3_toldToAll 1 = .ok (.aload_n 0, 1) := by decide +kernel
theorem dX3_toldToAll_2 : decode cX3_toldToAll 2 = .ok (.getfield 86, 3) := by decide +kernel
theorem dX3_toldToAll_5 : decode cX3_toldToAll 5 = .ok (.ishl, 1) := by decide +kernel
theorem dX3_toldToAll_6 : decode cX3_toldToAll 6 = .ok (.iconst 1, 1) := by decide +kernel
theorem dX3_toldToAll_7 : decode cX3_toldToAll 7 = .ok (.isub, 1) := by decide +kernel
theorem dX3_toldToAll_8 : decode cX3_toldToAll 8 = .ok (.istore_n 1, 1) := by decide +kernel
theorem dX3_toldToAll_9 : decode cX3_toldToAll 9 = .ok (.iconst 0, 1) := by decide +kernel
theorem dX3_toldToAll_10 : decode cX3_toldToAll 10 = .ok (.istore_n 2, 1) := by decide +kernel
theorem dX3_toldToAll_11 : decode cX3_toldToAll 11 = .ok (.iload_n 2, 1) := by decide +kernel
theorem dX3_toldToAll_12 : decode cX3_toldToAll 12 = .ok (.aload_n 0, 1) := by decide +kernel
theorem dX3_toldToAll_13 : decode cX3_toldToAll 13 = .ok (.getfield 45, 3) := by decide +kernel
theorem dX3_toldToAll_16 : decode cX3_toldToAll 16 = .ok (.if_icmp .ge 20, 3) := by decide +kernel
theorem dX3_toldToAll_19 : decode cX3_toldToAll 19 = .ok (.iload_n 1, 1) := by decide +kernel
theorem dX3_toldToAll_20 : decode cX3_toldToAll 20 = .ok (.aload_n 0, 1) := by decide +kernel
theorem dX3_toldToAll_21 : decode cX3_toldToAll 21 = .ok (.getfield 21, 3) := by decide +kernel
theorem dX3_toldToAll_24 : decode cX3_toldToAll 24 = .ok (.iload_n 2, 1) := by decide +kernel
theorem dX3_toldToAll_25 : decode cX3_toldToAll 25 = .ok (.invokestatic 60, 3) := by decide +kernel
theorem dX3_toldToAll_28 : decode cX3_toldToAll 28 = .ok (.iand, 1) := by decide +kernel
theorem dX3_toldToAll_29 : decode cX3_toldToAll 29 = .ok (.istore_n 1, 1) := by decide +kernel
theorem dX3_toldToAll_30 : decode cX3_toldToAll 30 = .ok (.iinc 2 1, 3) := by decide +kernel
theorem dX3_toldToAll_33 : decode cX3_toldToAll 33 = .ok (.goto (-22), 3) := by decide +kernel
theorem dX3_toldToAll_36 : decode cX3_toldToAll 36 = .ok (.iload_n 1, 1) := by decide +kernel
theorem dX3_toldToAll_37 : decode cX3_toldToAll 37 = .ok (.ireturn, 1) := by decide +kernel
theorem dX3_weigh_0 : decode cX3_weigh 0 = .ok (.iconst 0, 1) := by decide +kernel
theorem dX3_weigh_1 : decode cX3_weigh 1 = .ok (.istore_n 2, 1) := by decide +kernel
theorem dX3_weigh_2 : decode cX3_weigh 2 = .ok (.iconst 0, 1) := by decide +kernel
theorem dX3_weigh_3 : decode cX3_weigh 3 = .ok (.istore_n 3, 1) := by decide +kernel
theorem dX3_weigh_4 : decode cX3_weigh 4 = .ok (.iload_n 3, 1) := by decide +kernel
theorem dX3_weigh_5 : decode cX3_weigh 5 = .ok (.aload_n 0, 1) := by decide +kernel
theorem dX3_weigh_6 : decode cX3_weigh 6 = .ok (.getfield 86, 3) := by decide +kernel
theorem dX3_weigh_9 : decode cX3_weigh 9 = .ok (.if_icmp .ge 29, 3) := by decide +kernel
theorem dX3_weigh_12 : decode cX3_weigh 12 = .ok (.iload_n 1, 1) := by decide +kernel
theorem dX3_weigh_13 : decode cX3_weigh 13 = .ok (.iload_n 3, 1) := by decide +kernel
theorem dX3_weigh_14 : decode cX3_weigh 14 = .ok (.ishr, 1) := by decide +kernel
theorem dX3_weigh_15 : decode cX3_weigh 15 = .ok (.iconst 1, 1) := by decide +kernel
theorem dX3_weigh_16 : decode cX3_weigh 16 = .ok (.iand, 1) := by decide +kernel
theorem dX3_weigh_17 : decode cX3_weigh 17 = .ok (.iconst 1, 1) := by decide +kernel
theorem dX3_weigh_18 : decode cX3_weigh 18 = .ok (.if_icmp .ne 14, 3) := by decide +kernel
theorem dX3_weigh_21 : decode cX3_weigh 21 = .ok (.iload_n 2, 1) := by decide +kernel
theorem dX3_weigh_22 : decode cX3_weigh 22 = .ok (.aload_n 0, 1) := by decide +kernel
theorem dX3_weigh_23 : decode cX3_weigh 23 = .ok (.getfield 9, 3) := by decide +kernel
theorem dX3_weigh_26 : decode cX3_weigh 26 = .ok (.iload_n 3, 1) := by decide +kernel
theorem dX3_weigh_27 : decode cX3_weigh 27 = .ok (.invokestatic 60, 3) := by decide +kernel
theorem dX3_weigh_30 : decode cX3_weigh 30 = .ok (.iadd, 1) := by decide +kernel
theorem dX3_weigh_31 : decode cX3_weigh 31 = .ok (.istore_n 2, 1) := by decide +kernel
theorem dX3_weigh_32 : decode cX3_weigh 32 = .ok (.iinc 3 1, 3) := by decide +kernel
theorem dX3_weigh_35 : decode cX3_weigh 35 = .ok (.goto (-31), 3) := by decide +kernel
theorem dX3_weigh_38 : decode cX3_weigh 38 = .ok (.iload_n 2, 1) := by decide +kernel
theorem dX3_weigh_39 : decode cX3_weigh 39 = .ok (.ireturn, 1) := by decide +kernel
theorem dX3_standAsTold_0 : decode cX3_standAsTold 0 = .ok (.aload_n 0, 1) := by decide +kernel
theorem dX3_standAsTold_1 : decode cX3_standAsTold 1 = .ok (.iconst 0, 1) := by decide +kernel
theorem dX3_standAsTold_2 : decode cX3_standAsTold 2 = .ok (.putfield 97, 3) := by decide +kernel
theorem dX3_standAsTold_5 : decode cX3_standAsTold 5 = .ok (.aload_n 0, 1) := by decide +kernel
theorem dX3_standAsTold_6 : decode cX3_standAsTold 6 = .ok (.iconst 0, 1) := by decide +kernel
theorem dX3_standAsTold_7 : decode cX3_standAsTold 7 = .ok (.putfield 104, 3) := by decide +kernel
theorem dX3_standAsTold_10 : decode cX3_standAsTold 10 = .ok (.aload_n 0, 1) := by decide +kernel
theorem dX3_standAsTold_11 : decode cX3_standAsTold 11 = .ok (.iconst 0, 1) := by decide +kernel
theorem dX3_standAsTold_12 : decode cX3_standAsTold 12 = .ok (.putfield 70, 3) := by decide +kernel
theorem dX3_standAsTold_15 : decode cX3_standAsTold 15 = .ok (.aload_n 0, 1) := by decide +kernel
theorem dX3_standAsTold_16 : decode cX3_standAsTold 16 = .ok (.iconst 0, 1) := by decide +kernel
theorem dX3_standAsTold_17 : decode cX3_standAsTold 17 = .ok (.putfield 107, 3) := by decide +kernel
theorem dX3_standAsTold_20 : decode cX3_standAsTold 20 = .ok (.aload_n 0, 1) := by decide +kernel
theorem dX3_standAsTold_21 : decode cX3_standAsTold 21 = .ok (.aload_n 0, 1) := by decide +kernel
theorem dX3_standAsTold_22 : decode cX3_standAsTold 22 = .ok (.invokevirtual 110, 3) := by decide +kernel
theorem dX3_standAsTold_25 : decode cX3_standAsTold 25 = .ok (.putfield 83, 3) := by decide +kernel
theorem dX3_standAsTold_28 : decode cX3_standAsTold 28 = .ok (.iconst 0, 1) := by decide +kernel
theorem dX3_standAsTold_29 : decode cX3_standAsTold 29 = .ok (.istore_n 1, 1) := by decide +kernel
theorem dX3_standAsTold_30 : decode cX3_standAsTold 30 = .ok (.iload_n 1, 1) := by decide +kernel
theorem dX3_standAsTold_31 : decode cX3_standAsTold 31 = .ok (.aload_n 0, 1) := by decide +kernel
theorem dX3_standAsTold_32 : decode cX3_standAsTold 32 = .ok (.getfield 45, 3) := by decide +kernel
theorem dX3_standAsTold_35 : decode cX3_standAsTold 35 = .ok (.if_icmp .ge 63, 3) := by decide +kernel
theorem dX3_standAsTold_38 : decode cX3_standAsTold 38 = .ok (.aload_n 0, 1) := by decide +kernel
theorem dX3_standAsTold_39 : decode cX3_standAsTold 39 = .ok (.getfield 33, 3) := by decide +kernel
theorem dX3_standAsTold_42 : decode cX3_standAsTold 42 = .ok (.iload_n 1, 1) := by decide +kernel
theorem dX3_standAsTold_43 : decode cX3_standAsTold 43 = .ok (.aload_n 0, 1) := by decide +kernel
theorem dX3_standAsTold_44 : decode cX3_standAsTold 44 = .ok (.getfield 21, 3) := by decide +kernel
theorem dX3_standAsTold_47 : decode cX3_standAsTold 47 = .ok (.iload_n 1, 1) := by decide +kernel
theorem dX3_standAsTold_48 : decode cX3_standAsTold 48 = .ok (.invokestatic 60, 3) := by decide +kernel
theorem dX3_standAsTold_51 : decode cX3_standAsTold 51 = .ok (.invokestatic 56, 3) := by decide +kernel
theorem dX3_standAsTold_54 : decode cX3_standAsTold 54 = .ok (.aload_n 0, 1) := by decide +kernel
theorem dX3_standAsTold_55 : decode cX3_standAsTold 55 = .ok (.getfield 36, 3) := by decide +kernel
theorem dX3_standAsTold_58 : decode cX3_standAsTold 58 = .ok (.iload_n 1, 1) := by decide +kernel
theorem dX3_standAsTold_59 : decode cX3_standAsTold 59 = .ok (.aload_n 0, 1) := by decide +kernel
theorem dX3_standAsTold_60 : decode cX3_standAsTold 60 = .ok (.aload_n 0, 1) := by decide +kernel
theorem dX3_standAsTold_61 : decode cX3_standAsTold 61 = .ok (.getfield 21, 3) := by decide +kernel
theorem dX3_standAsTold_64 : decode cX3_standAsTold 64 = .ok (.iload_n 1, 1) := by decide +kernel
theorem dX3_standAsTold_65 : decode cX3_standAsTold 65 = .ok (.invokestatic 60, 3) := by decide +kernel
theorem dX3_standAsTold_68 : decode cX3_standAsTold 68 = .ok (.invokevirtual 113, 3) := by decide +kernel
theorem dX3_standAsTold_71 : decode cX3_standAsTold 71 = .ok (.invokestatic 56, 3) := by decide +kernel
theorem dX3_standAsTold_74 : decode cX3_standAsTold 74 = .ok (.aload_n 0, 1) := by decide +kernel
theorem dX3_standAsTold_75 : decode cX3_standAsTold 75 = .ok (.getfield 39, 3) := by decide +kernel
theorem dX3_standAsTold_78 : decode cX3_standAsTold 78 = .ok (.iload_n 1, 1) := by decide +kernel
theorem dX3_standAsTold_79 : decode cX3_standAsTold 79 = .ok (.iconst 0, 1) := by decide +kernel
theorem dX3_standAsTold_80 : decode cX3_standAsTold 80 = .ok (.invokestatic 56, 3) := by decide +kernel
theorem dX3_standAsTold_83 : decode cX3_standAsTold 83 = .ok (.aload_n 0, 1) := by decide +kernel
theorem dX3_standAsTold_84 : decode cX3_standAsTold 84 = .ok (.getfield 42, 3) := by decide +kernel
theorem dX3_standAsTold_87 : decode cX3_standAsTold 87 = .ok (.iload_n 1, 1) := by decide +kernel
theorem dX3_standAsTold_88 : decode cX3_standAsTold 88 = .ok (.iconst (-1), 1) := by decide +kernel
theorem dX3_standAsTold_89 : decode cX3_standAsTold 89 = .ok (.invokestatic 56, 3) := by decide +kernel
theorem dX3_standAsTold_92 : decode cX3_standAsTold 92 = .ok (.iinc 1 1, 3) := by decide +kernel
theorem dX3_standAsTold_95 : decode cX3_standAsTold 95 = .ok (.goto (-65), 3) := by decide +kernel
theorem dX3_standAsTold_98 : decode cX3_standAsTold 98 = .ok (.return_, 1) := by decide +kernel
