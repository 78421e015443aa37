theorem dX12_law_0 : decode cX12_law 0 = .ok (.iload_n 1, 1) := by decide +kernel
theorem dX12_law_1 : decode cX12_law 1 = .ok (.invokestatic 146, 3) := by decide +kernel
theorem dX12_law_4 : decode cX12_law 4 = .ok (.ifCond .ne 5, 3) := by decide +kernel
theorem dX12_law_7 : decode cX12_law 7 = .ok (.iconst (-1), 1) := by decide +kernel
theorem dX12_law_8 : decode cX12_law 8 = .ok (.ireturn, 1) := by decide +kernel
theorem dX12_law_9 : decode cX12_law 9 = .ok (.aload_n 0, 1) := by decide +kernel
theorem dX12_law_10 : decode cX12_law 10 = .ok (.getfield 9, 3) := by decide +kernel
theorem dX12_law_13 : decode cX12_law 13 = .ok (.iconst 2, 1) := by decide +kernel
theorem dX12_law_14 : decode cX12_law 14 = .ok (.iaload, 1) := by decide +kernel
theorem dX12_law_15 : decode cX12_law 15 = .ok (.bipush 6, 2) := by decide +kernel
theorem dX12_law_17 : decode cX12_law 17 = .ok (.if_icmp .ne 6, 3) := by decide +kernel
theorem dX12_law_20 : decode cX12_law 20 = .ok (.bipush (-2), 2) := by decide +kernel
theorem dX12_law_22 : decode cX12_law 22 = .ok (.ireturn, 1) := by decide +kernel
theorem dX12_law_23 : decode cX12_law 23 = .ok (.aload_n 0, 1) := by decide +kernel
theorem dX12_law_24 : decode cX12_law 24 = .ok (.iload_n 1, 1) := by decide +kernel
theorem dX12_law_25 : decode cX12_law 25 = .ok (.iconst 0, 1) := by decide +kernel
theorem dX12_law_26 : decode cX12_law 26 = .ok (.invokevirtual 149, 3) := by decide +kernel
theorem dX12_law_29 : decode cX12_law 29 = .ok (.istore_n 2, 1) := by decide +kernel
theorem dX12_law_30 : decode cX12_law 30 = .ok (.iload_n 2, 1) := by decide +kernel
theorem dX12_law_31 : decode cX12_law 31 = .ok (.ifCond .eq 5, 3) := by decide +kernel
theorem dX12_law_34 : decode cX12_law 34 = .ok (.iload_n 2, 1) := by decide +kernel
theorem dX12_law_35 : decode cX12_law 35 = .ok (.ireturn, 1) := by decide +kernel
theorem dX12_law_36 : decode cX12_law 36 = .ok (.aload_n 0, 1) := by decide +kernel
theorem dX12_law_37 : decode cX12_law 37 = .ok (.aload_n 0, 1) := by decide +kernel
theorem dX12_law_38 : decode cX12_law 38 = .ok (.getfield 40, 3) := by decide +kernel
theorem dX12_law_41 : decode cX12_law 41 = .ok (.putfield 49, 3) := by decide +kernel
theorem dX12_law_44 : decode cX12_law 44 = .ok (.aload_n 0, 1) := by decide +kernel
theorem dX12_law_45 : decode cX12_law 45 = .ok (.bipush 100, 2) := by decide +kernel
theorem dX12_law_47 : decode cX12_law 47 = .ok (.iload_n 1, 1) := by decide +kernel
theorem dX12_law_48 : decode cX12_law 48 = .ok (.imul, 1) := by decide +kernel
theorem dX12_law_49 : decode cX12_law 49 = .ok (.putfield 111, 3) := by decide +kernel
theorem dX12_law_52 : decode cX12_law 52 = .ok (.aload_n 0, 1) := by decide +kernel
theorem dX12_law_53 : decode cX12_law 53 = .ok (.aload_n 0, 1) := by decide +kernel
theorem dX12_law_54 : decode cX12_law 54 = .ok (.getfield 37, 3) := by decide +kernel
theorem dX12_law_57 : decode cX12_law 57 = .ok (.iload_n 1, 1) := by decide +kernel
theorem dX12_law_58 : decode cX12_law 58 = .ok (.iaload, 1) := by decide +kernel
theorem dX12_law_59 : decode cX12_law 59 = .ok (.putfield 108, 3) := by decide +kernel
theorem dX12_law_62 : decode cX12_law 62 = .ok (.aload_n 0, 1) := by decide +kernel
theorem dX12_law_63 : decode cX12_law 63 = .ok (.iconst 0, 1) := by decide +kernel
theorem dX12_law_64 : decode cX12_law 64 = .ok (.putfield 105, 3) := by decide +kernel
theorem dX12_law_67 : decode cX12_law 67 = .ok (.aload_n 0, 1) := by decide +kernel
theorem dX12_law_68 : decode cX12_law 68 = .ok (.iconst 0, 1) := by decide +kernel
theorem dX12_law_69 : decode cX12_law 69 = .ok (.putfield 134, 3) := by decide +kernel
theorem dX12_law_72 : decode cX12_law 72 = .ok (.aload_n 0, 1) := by decide +kernel
theorem dX12_law_73 : decode cX12_law 73 = .ok (.invokevirtual 137, 3) := by decide +kernel
theorem dX12_law_76 : decode cX12_law 76 = .ok (.ifCond .eq 14, 3) := by decide +kernel
theorem dX12_law_79 : decode cX12_law 79 = .ok (.aload_n 0, 1) := by decide +kernel
theorem dX12_law_80 : decode cX12_law 80 = .ok (.getfield 105, 3) := by decide +kernel
theorem dX12_law_83 : decode cX12_law 83 = .ok (.aload_n 0, 1) := by decide +kernel
theorem dX12_law_84 : decode cX12_law 84 = .ok (.getfield 108, 3) := by decide +kernel
theorem dX12_law_87 : decode cX12_law 87 = .ok (.if_icmp .eq 11, 3) := by decide +kernel
theorem dX12_law_90 : decode cX12_law 90 = .ok (.bipush (-100), 2) := by decide +kernel
theorem dX12_law_92 : decode cX12_law 92 = .ok (.aload_n 0, 1) := by decide +kernel
theorem dX12_law_93 : decode cX12_law 93 = .ok (.getfield 105, 3) := by decide +kernel
theorem dX12_law_96 : decode cX12_law 96 = .ok (.isub, 1) := by decide +kernel
theorem dX12_law_97 : decode cX12_law 97 = .ok (.ireturn, 1) := by decide +kernel
theorem dX12_law_98 : decode cX12_law 98 = .ok (.iconst 0, 1) := by decide +kernel
theorem dX12_law_99 : decode cX12_law 99 = .ok (.istore_n 3, 1) := by decide +kernel
theorem dX12_law_100 : decode cX12_law 100 = .ok (.iload_n 3, 1) := by decide +kernel
theorem dX12_law_101 : decode cX12_law 101 = .ok (.aload_n 0, 1) := by decide +kernel
theorem dX12_law_102 : decode cX12_law 102 = .ok (.getfield 108, 3) := by decide +kernel
theorem dX12_law_105 : decode cX12_law 105 = .ok (.if_icmp .ge 36, 3) := by decide +kernel
theorem dX12_law_108 : decode cX12_law 108 = .ok (.aload_n 0, 1) := by decide +kernel
theorem dX12_law_109 : decode cX12_law 109 = .ok (.getfield 16, 3) := by decide +kernel
theorem dX12_law_112 : decode cX12_law 112 = .ok (.bipush 100, 2) := by decide +kernel
theorem dX12_law_114 : decode cX12_law 114 = .ok (.aload_n 0, 1) := by decide +kernel
theorem dX12_law_115 : decode cX12_law 115 = .ok (.getfield 9, 3) := by decide +kernel
theorem dX12_law_118 : decode cX12_law 118 = .ok (.iconst 2, 1) := by decide +kernel
theorem dX12_law_119 : decode cX12_law 119 = .ok (.iaload, 1) := by decide +kernel
theorem dX12_law_120 : decode cX12_law 120 = .ok (.imul, 1) := by decide +kernel
theorem dX12_law_121 : decode cX12_law 121 = .ok (.iload_n 3, 1) := by decide +kernel
theorem dX12_law_122 : decode cX12_law 122 = .ok (.iadd, 1) := by decide +kernel
theorem dX12_law_123 : decode cX12_law 123 = .ok (.aload_n 0, 1) := by decide +kernel
theorem dX12_law_124 : decode cX12_law 124 = .ok (.getfield 40, 3) := by decide +kernel
theorem dX12_law_127 : decode cX12_law 127 = .ok (.aload_n 0, 1) := by decide +kernel
theorem dX12_law_128 : decode cX12_law 128 = .ok (.getfield 111, 3) := by decide +kernel
theorem dX12_law_131 : decode cX12_law 131 = .ok (.iload_n 3, 1) := by decide +kernel
theorem dX12_law_132 : decode cX12_law 132 = .ok (.iadd, 1) := by decide +kernel
theorem dX12_law_133 : decode cX12_law 133 = .ok (.iaload, 1) := by decide +kernel
theorem dX12_law_134 : decode cX12_law 134 = .ok (.iastore, 1) := by decide +kernel
theorem dX12_law_135 : decode cX12_law 135 = .ok (.iinc 3 1, 3) := by decide +kernel
theorem dX12_law_138 : decode cX12_law 138 = .ok (.goto (-38), 3) := by decide +kernel
theorem dX12_law_141 : decode cX12_law 141 = .ok (.aload_n 0, 1) := by decide +kernel
theorem dX12_law_142 : decode cX12_law 142 = .ok (.getfield 9, 3) := by decide +kernel
theorem dX12_law_145 : decode cX12_law 145 = .ok (.bipush 103, 2) := by decide +kernel
theorem dX12_law_147 : decode cX12_law 147 = .ok (.aload_n 0, 1) := by decide +kernel
theorem dX12_law_148 : decode cX12_law 148 = .ok (.getfield 9, 3) := by decide +kernel
theorem dX12_law_151 : decode cX12_law 151 = .ok (.iconst 2, 1) := by decide +kernel
theorem dX12_law_152 : decode cX12_law 152 = .ok (.iaload, 1) := by decide +kernel
theorem dX12_law_153 : decode cX12_law 153 = .ok (.iadd, 1) := by decide +kernel
theorem dX12_law_154 : decode cX12_law 154 = .ok (.aload_n 0, 1) := by decide +kernel
theorem dX12_law_155 : decode cX12_law 155 = .ok (.getfield 108, 3) := by decide +kernel
theorem dX12_law_158 : decode cX12_law 158 = .ok (.iastore, 1) := by decide +kernel
theorem dX12_law_159 : decode cX12_law 159 = .ok (.aload_n 0, 1) := by decide +kernel
theorem dX12_law_160 : decode cX12_law 160 = .ok (.getfield 9, 3) := by decide +kernel
theorem dX12_law_163 : decode cX12_law 163 = .ok (.iconst 2, 1) := by decide +kernel
theorem dX12_law_164 : decode cX12_law 164 = .ok (.dup2, 1) := by decide +kernel
theorem dX12_law_165 : decode cX12_law 165 = .ok (.iaload, 1) := by decide +kernel
theorem dX12_law_166 : decode cX12_law 166 = .ok (.iconst 1, 1) := by decide +kernel
theorem dX12_law_167 : decode cX12_law 167 = .ok (.iadd, 1) := by decide +kernel
theorem dX12_law_168 : decode cX12_law 168 = .ok (.iastore, 1) := by decide +kernel
theorem dX12_law_169 : decode cX12_law 169 = .ok (.aload_n 0, 1) := by decide +kernel
theorem dX12_law_170 : decode cX12_law 170 = .ok (.getfield 9, 3) := by decide +kernel
theorem dX12_law_173 : decode cX12_law 173 = .ok (.iconst 2, 1) := by decide +kernel
theorem dX12_law_174 : decode cX12_law 174 = .ok (.iaload, 1) := by decide +kernel
theorem dX12_law_175 : decode cX12_law 175 = .ok (.iconst 1, 1) := by decide +kernel
theorem dX12_law_176 : decode cX12_law 176 = .ok (.isub, 1) := by decide +kernel
theorem dX12_law_177 : decode cX12_law 177 = .ok (.ireturn, 1) := by decide +kernel
theorem dX12_atom_0 : decode cX12_atom 0 = .ok (.aload_n 0, 1) := by decide +kernel
theorem dX12_atom_1 : decode cX12_atom 1 = .ok (.invokevirtual 114, 3) := by decide +kernel
theorem dX12_atom_4 : decode cX12_atom 4 = .ok (.istore_n 1, 1) := by decide +kernel
theorem dX12_atom_5 : decode cX12_atom 5 = .ok (.iload_n 1, 1) := by decide +kernel
theorem dX12_atom_6 : decode cX12_atom 6 = .ok (.i2l, 1) := by decide +kernel
theorem dX12_atom_7 : decode cX12_atom 7 = .ok (.ldc2_w 118, 3) := by decide +kernel
theorem dX12_atom_10 : decode cX12_atom 10 = .ok (.ldc2_w 120, 3) := by decide +kernel
theorem dX12_atom_13 : decode cX12_atom 13 = .ok (.invokestatic 62, 3) := by decide +kernel
theorem dX12_atom_16 : decode cX12_atom 16 = .ok (.ifCond .eq 13, 3) := by decide +kernel
theorem dX12_atom_19 : decode cX12_atom 19 = .ok (.aload_n 0, 1) := by decide +kernel
theorem dX12_atom_20 : decode cX12_atom 20 = .ok (.invokevirtual 143, 3) := by decide +kernel
theorem dX12_atom_23 : decode cX12_atom 23 = .ok (.istore_n 2, 1) := by decide +kernel
theorem dX12_atom_24 : decode cX12_atom 24 = .ok (.aload_n 0, 1) := by decide +kernel
theorem dX12_atom_25 : decode cX12_atom 25 = .ok (.getfield 122, 3) := by decide +kernel
theorem dX12_atom_28 : decode cX12_atom 28 = .ok (.ireturn, 1) := by decide +kernel
theorem dX12_atom_29 : decode cX12_atom 29 = .ok (.aload_n 0, 1) := by decide +kernel
theorem dX12_atom_30 : decode cX12_atom 30 = .ok (.dup, 1) := by decide +kernel
theorem dX12_atom_31 : decode cX12_atom 31 = .ok (.getfield 105, 3) := by decide +kernel
theorem dX12_atom_34 : decode cX12_atom 34 = .ok (.iconst 1, 1) := by decide +kernel
theorem dX12_atom_35 : decode cX12_atom 35 = .ok (.iadd, 1) := by decide +kernel
theorem dX12_atom_36 : decode cX12_atom 36 = .ok (.putfield 105, 3) := by decide +kernel
theorem dX12_atom_39 : decode cX12_atom 39 = .ok (.iload_n 1, 1) := by decide +kernel
theorem dX12_atom_40 : decode cX12_atom 40 = .ok (.bipush 40, 2) := by decide +kernel
theorem dX12_atom_42 : decode cX12_atom 42 = .ok (.if_icmp .eq 9, 3) := by decide +kernel
theorem dX12_atom_45 : decode cX12_atom 45 = .ok (.iload_n 1, 1) := by decide +kernel
theorem dX12_atom_46 : decode cX12_atom 46 = .ok (.bipush 91, 2) := by decide +kernel
theorem dX12_atom_48 : decode cX12_atom 48 = .ok (.if_icmp .ne 52, 3) := by decide +kernel
theorem dX12_atom_51 : decode cX12_atom 51 = .ok (.aload_n 0, 1) := by decide +kernel
theorem dX12_atom_52 : decode cX12_atom 52 = .ok (.invokevirtual 158, 3) := by decide +kernel
theorem dX12_atom_55 : decode cX12_atom 55 = .ok (.istore_n 2, 1) := by decide +kernel
theorem dX12_atom_56 : decode cX12_atom 56 = .ok (.aload_n 0, 1) := by decide +kernel
theorem dX12_atom_57 : decode cX12_atom 57 = .ok (.dup, 1) := by decide +kernel
theorem dX12_atom_58 : decode cX12_atom 58 = .ok (.getfield 105, 3) := by decide +kernel
theorem dX12_atom_61 : decode cX12_atom 61 = .ok (.iconst 1, 1) := by decide +kernel
theorem dX12_atom_62 : decode cX12_atom 62 = .ok (.iadd, 1) := by decide +kernel
theorem dX12_atom_63 : decode cX12_atom 63 = .ok (.putfield 105, 3) := by decide +kernel
theorem dX12_atom_66 : decode cX12_atom 66 = .ok (.iload_n 1, 1) := by decide +kernel
theorem dX12_atom_67 : decode cX12_atom 67 = .ok (.bipush 40, 2) := by decide +kernel
theorem dX12_atom_69 : decode cX12_atom 69 = .ok (.if_icmp .ne 5, 3) := by decide +kernel
theorem dX12_atom_72 : decode cX12_atom 72 = .ok (.iload_n 2, 1) := by decide +kernel
theorem dX12_atom_73 : decode cX12_atom 73 = .ok (.ireturn, 1) := by decide +kernel
theorem dX12_atom_74 : decode cX12_atom 74 = .ok (.aload_n 0, 1) := by decide +kernel
theorem dX12_atom_75 : decode cX12_atom 75 = .ok (.invokevirtual 158, 3) := by decide +kernel
theorem dX12_atom_78 : decode cX12_atom 78 = .ok (.istore_n 3, 1) := by decide +kernel
theorem dX12_atom_79 : decode cX12_atom 79 = .ok (.aload_n 0, 1) := by decide +kernel
theorem dX12_atom_80 : decode cX12_atom 80 = .ok (.dup, 1) := by decide +kernel
theorem dX12_atom_81 : decode cX12_atom 81 = .ok (.getfield 105, 3) := by decide +kernel
theorem dX12_atom_84 : decode cX12_atom 84 = .ok (.iconst 1, 1) := by decide +kernel
theorem dX12_atom_85 : decode cX12_atom 85 = .ok (.iadd, 1) := by decide +kernel
theorem dX12_atom_86 : decode cX12_atom 86 = .ok (.putfield 105, 3) := by decide +kernel
theorem dX12_atom_89 : decode cX12_atom 89 = .ok (.iload_n 2, 1) := by decide +kernel
theorem dX12_atom_90 : decode cX12_atom 90 = .ok (.iload_n 3, 1) := by decide +kernel
theorem dX12_atom_91 : decode cX12_atom 91 = .ok (.if_icmp .le 7, 3) := by decide +kernel
theorem dX12_atom_94 : decode cX12_atom 94 = .ok (.iload_n 2, 1) := by decide +kernel
theorem dX12_atom_95 : decode cX12_atom 95 = .ok (.goto 4, 3) := by decide +kernel
theorem dX12_atom_98 : decode cX12_atom 98 = .ok (.iload_n 3, 1) := by decide +kernel
theorem dX12_atom_99 : decode cX12_atom 99 = .ok (.ireturn, 1) := by decide +kernel
theorem dX12_atom_100 : decode cX12_atom 100 = .ok (.iload_n 1, 1) := by decide +kernel
theorem dX12_atom_101 : decode cX12_atom 101 = .ok (.bipush 116, 2) := by decide +kernel
theorem dX12_atom_103 : decode cX12_atom 103 = .ok (.if_icmp .ne 10, 3) := by decide +kernel
theorem dX12_atom_106 : decode cX12_atom 106 = .ok (.aload_n 0, 1) := by decide +kernel
theorem dX12_atom_107 : decode cX12_atom 107 = .ok (.getfield 161, 3) := by decide +kernel
theorem dX12_atom_110 : decode cX12_atom 110 = .ok (.goto 46, 3) := by decide +kernel
theorem dX12_atom_113 : decode cX12_atom 113 = .ok (.iload_n 1, 1) := by decide +kernel
theorem dX12_atom_114 : decode cX12_atom 114 = .ok (.bipush 112, 2) := by decide +kernel
theorem dX12_atom_116 : decode cX12_atom 116 = .ok (.if_icmp .ne 10, 3) := by decide +kernel
theorem dX12_atom_119 : decode cX12_atom 119 = .ok (.aload_n 0, 1) := by decide +kernel
theorem dX12_atom_120 : decode cX12_atom 120 = .ok (.getfield 164, 3) := by decide +kernel
theorem dX12_atom_123 : decode cX12_atom 123 = .ok (.goto 33, 3) := by decide +kernel
theorem dX12_atom_126 : decode cX12_atom 126 = .ok (.iload_n 1, 1) := by decide +kernel
theorem dX12_atom_127 : decode cX12_atom 127 = .ok (.bipush 121, 2) := by decide +kernel
theorem dX12_atom_129 : decode cX12_atom 129 = .ok (.if_icmp .ne 10, 3) := by decide +kernel
theorem dX12_atom_132 : decode cX12_atom 132 = .ok (.aload_n 0, 1) := by decide +kernel
theorem dX12_atom_133 : decode cX12_atom 133 = .ok (.getfield 167, 3) := by decide +kernel
theorem dX12_atom_136 : decode cX12_atom 136 = .ok (.goto 20, 3) := by decide +kernel
theorem dX12_atom_139 : decode cX12_atom 139 = .ok (.iload_n 1, 1) := by decide +kernel
theorem dX12_atom_140 : decode cX12_atom 140 = .ok (.bipush 110, 2) := by decide +kernel
theorem dX12_atom_142 : decode cX12_atom 142 = .ok (.if_icmp .ne 10, 3) := by decide +kernel
theorem dX12_atom_145 : decode cX12_atom 145 = .ok (.aload_n 0, 1) := by decide +kernel
theorem dX12_atom_146 : decode cX12_atom 146 = .ok (.getfield 170, 3) := by decide +kernel
theorem dX12_atom_149 : decode cX12_atom 149 = .ok (.goto 7, 3) := by decide +kernel
theorem dX12_atom_152 : decode cX12_atom 152 = .ok (.aload_n 0, 1) := by decide +kernel
theorem dX12_atom_153 : decode cX12_atom 153 = .ok (.getfield 173, 3) := by decide +kernel
theorem dX12_atom_156 : decode cX12_atom 156 = .ok (.ireturn, 1) := by decide +kernel
theorem dX12_product_0 : decode cX12_product 0 = .ok (.aload_n 0, 1) := by decide +kernel
theorem dX12_product_1 : decode cX12_product 1 = .ok (.invokevirtual 155, 3) := by decide +kernel
theorem dX12_product_4 : decode cX12_product 4 = .ok (.istore_n 1, 1) := by decide +kernel
theorem dX12_product_5 : decode cX12_product 5 = .ok (.aload_n 0, 1) := by decide +kernel
theorem dX12_product_6 : decode cX12_product 6 = .ok (.invokevirtual 114, 3) := by decide +kernel
theorem dX12_product_9 : decode cX12_product 9 = .ok (.bipush 42, 2) := by decide +kernel
theorem dX12_product_11 : decode cX12_product 11 = .ok (.if_icmp .eq 12, 3) := by decide +kernel
theorem dX12_product_14 : decode cX12_product 14 = .ok (.aload_n 0, 1) := by decide +kernel
theorem dX12_product_15 : decode cX12_product 15 = .ok (.invokevirtual 114, 3) := by decide +kernel
theorem dX12_product_18 : decode cX12_product 18 = .ok (.bipush 47, 2) := by decide +kernel
theorem dX12_product_20 : decode cX12_product 20 = .ok (.if_icmp .ne 50, 3) := by decide +kernel
theorem dX12_product_23 : decode cX12_product 23 = .ok (.aload_n 0, 1) := by decide +kernel
theorem dX12_product_24 : decode cX12_product 24 = .ok (.invokevirtual 114, 3) := by decide +kernel
theorem dX12_product_27 : decode cX12_product 27 = .ok (.istore_n 2, 1) := by decide +kernel
theorem dX12_product_28 : decode cX12_product 28 = .ok (.aload_n 0, 1) := by decide +kernel
theorem dX12_product_29 : decode cX12_product 29 = .ok (.dup, 1) := by decide +kernel
theorem dX12_product_30 : decode cX12_product 30 = .ok (.getfield 105, 3) := by decide +kernel
theorem dX12_product_33 : decode cX12_product 33 = .ok (.iconst 1, 1) := by decide +kernel
theorem dX12_product_34 : decode cX12_product 34 = .ok (.iadd, 1) := by decide +kernel
theorem dX12_product_35 : decode cX12_product 35 = .ok (.putfield 105, 3) := by decide +kernel
theorem dX12_product_38 : decode cX12_product 38 = .ok (.aload_n 0, 1) := by decide +kernel
theorem dX12_product_39 : decode cX12_product 39 = .ok (.invokevirtual 155, 3) := by decide +kernel
theorem dX12_product_42 : decode cX12_product 42 = .ok (.istore_n 3, 1) := by decide +kernel
theorem dX12_product_43 : decode cX12_product 43 = .ok (.iload_n 2, 1) := by decide +kernel
theorem dX12_product_44 : decode cX12_product 44 = .ok (.bipush 42, 2) := by decide +kernel
theorem dX12_product_46 : decode cX12_product 46 = .ok (.if_icmp .ne 9, 3) := by decide +kernel
theorem dX12_product_49 : decode cX12_product 49 = .ok (.iload_n 1, 1) := by decide +kernel
theorem dX12_product_50 : decode cX12_product 50 = .ok (.iload_n 3, 1) := by decide +kernel
theorem dX12_product_51 : decode cX12_product 51 = .ok (.imul, 1) := by decide +kernel
theorem dX12_product_52 : decode cX12_product 52 = .ok (.goto 14, 3) := by decide +kernel
theorem dX12_product_55 : decode cX12_product 55 = .ok (.iload_n 3, 1) := by decide +kernel
theorem dX12_product_56 : decode cX12_product 56 = .ok (.ifCond .ne 7, 3) := by decide +kernel
theorem dX12_product_59 : decode cX12_product 59 = .ok (.iconst 0, 1) := by decide +kernel
theorem dX12_product_60 : decode cX12_product 60 = .ok (.goto 6, 3) := by decide +kernel
theorem dX12_product_63 : decode cX12_product 63 = .ok (.iload_n 1, 1) := by decide +kernel
theorem dX12_product_64 : decode cX12_product 64 = .ok (.iload_n 3, 1) := by decide +kernel
theorem dX12_product_65 : decode cX12_product 65 = .ok (.idiv, 1) := by decide +kernel
theorem dX12_product_66 : decode cX12_product 66 = .ok (.istore_n 1, 1) := by decide +kernel
theorem dX12_product_67 : decode cX12_product 67 = .ok (.goto (-62), 3) := by decide +kernel
theorem dX12_product_70 : decode cX12_product 70 = .ok (.iload_n 1, 1) := by decide +kernel
theorem dX12_product_71 : decode cX12_product 71 = .ok (.ireturn, 1) := by decide +kernel
