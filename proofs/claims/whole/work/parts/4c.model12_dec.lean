theorem dX12_worlds_0 : decode cX12_worlds 0 = .ok (.iload_n 1, 1) := by decide +kernel
theorem dX12_worlds_1 : decode cX12_worlds 1 = .ok (.i2l, 1) := by decide +kernel
theorem dX12_worlds_2 : decode cX12_worlds 2 = .ok (.lconst 1, 1) := by decide +kernel
theorem dX12_worlds_3 : decode cX12_worlds 3 = .ok (.ldc2_w 74, 3) := by decide +kernel
theorem dX12_worlds_6 : decode cX12_worlds 6 = .ok (.invokestatic 62, 3) := by decide +kernel
theorem dX12_worlds_9 : decode cX12_worlds 9 = .ok (.ifCond .eq 28, 3) := by decide +kernel
theorem dX12_worlds_12 : decode cX12_worlds 12 = .ok (.iload_n 3, 1) := by decide +kernel
theorem dX12_worlds_13 : decode cX12_worlds 13 = .ok (.i2l, 1) := by decide +kernel
theorem dX12_worlds_14 : decode cX12_worlds 14 = .ok (.lconst 0, 1) := by decide +kernel
theorem dX12_worlds_15 : decode cX12_worlds 15 = .ok (.ldc2_w 289, 3) := by decide +kernel
theorem dX12_worlds_18 : decode cX12_worlds 18 = .ok (.invokestatic 62, 3) := by decide +kernel
theorem dX12_worlds_21 : decode cX12_worlds 21 = .ok (.ifCond .eq 16, 3) := by decide +kernel
theorem dX12_worlds_24 : decode cX12_worlds 24 = .ok (.iload 4, 2) := by decide +kernel
theorem dX12_worlds_26 : decode cX12_worlds 26 = .ok (.i2l, 1) := by decide +kernel
theorem dX12_worlds_27 : decode cX12_worlds 27 = .ok (.lconst 0, 1) := by decide +kernel
theorem dX12_worlds_28 : decode cX12_worlds 28 = .ok (.ldc2_w 281, 3) := by decide +kernel
theorem dX12_worlds_31 : decode cX12_worlds 31 = .ok (.invokestatic 62, 3) := by decide +kernel
theorem dX12_worlds_34 : decode cX12_worlds 34 = .ok (.ifCond .ne 5, 3) := by decide +kernel
theorem dX12_worlds_37 : decode cX12_worlds 37 = .ok (.iconst (-1), 1) := by decide +kernel
theorem dX12_worlds_38 : decode cX12_worlds 38 = .ok (.ireturn, 1) := by decide +kernel
theorem dX12_worlds_39 : decode cX12_worlds 39 = .ok (.aload_n 0, 1) := by decide +kernel
theorem dX12_worlds_40 : decode cX12_worlds 40 = .ok (.getfield 9, 3) := by decide +kernel
theorem dX12_worlds_43 : decode cX12_worlds 43 = .ok (.iconst 1, 1) := by decide +kernel
theorem dX12_worlds_44 : decode cX12_worlds 44 = .ok (.iaload, 1) := by decide +kernel
theorem dX12_worlds_45 : decode cX12_worlds 45 = .ok (.ifCond .ne 6, 3) := by decide +kernel
theorem dX12_worlds_48 : decode cX12_worlds 48 = .ok (.bipush (-3), 2) := by decide +kernel
theorem dX12_worlds_50 : decode cX12_worlds 50 = .ok (.ireturn, 1) := by decide +kernel
theorem dX12_worlds_51 : decode cX12_worlds 51 = .ok (.iload_n 2, 1) := by decide +kernel
theorem dX12_worlds_52 : decode cX12_worlds 52 = .ok (.istore 5, 2) := by decide +kernel
theorem dX12_worlds_54 : decode cX12_worlds 54 = .ok (.iconst 0, 1) := by decide +kernel
theorem dX12_worlds_55 : decode cX12_worlds 55 = .ok (.istore 6, 2) := by decide +kernel
theorem dX12_worlds_57 : decode cX12_worlds 57 = .ok (.iconst 0, 1) := by decide +kernel
theorem dX12_worlds_58 : decode cX12_worlds 58 = .ok (.istore 7, 2) := by decide +kernel
theorem dX12_worlds_60 : decode cX12_worlds 60 = .ok (.iload 7, 2) := by decide +kernel
theorem dX12_worlds_62 : decode cX12_worlds 62 = .ok (.iload_n 1, 1) := by decide +kernel
theorem dX12_worlds_63 : decode cX12_worlds 63 = .ok (.if_icmp .ge 250, 3) := by decide +kernel
theorem dX12_worlds_66 : decode cX12_worlds 66 = .ok (.aload_n 0, 1) := by decide +kernel
theorem dX12_worlds_67 : decode cX12_worlds 67 = .ok (.aload_n 0, 1) := by decide +kernel
theorem dX12_worlds_68 : decode cX12_worlds 68 = .ok (.getfield 25, 3) := by decide +kernel
theorem dX12_worlds_71 : decode cX12_worlds 71 = .ok (.invokevirtual 235, 3) := by decide +kernel
theorem dX12_worlds_74 : decode cX12_worlds 74 = .ok (.iconst 0, 1) := by decide +kernel
theorem dX12_worlds_75 : decode cX12_worlds 75 = .ok (.istore 8, 2) := by decide +kernel
theorem dX12_worlds_77 : decode cX12_worlds 77 = .ok (.iload 8, 2) := by decide +kernel
theorem dX12_worlds_79 : decode cX12_worlds 79 = .ok (.aload_n 0, 1) := by decide +kernel
theorem dX12_worlds_80 : decode cX12_worlds 80 = .ok (.getfield 9, 3) := by decide +kernel
theorem dX12_worlds_83 : decode cX12_worlds 83 = .ok (.iconst 1, 1) := by decide +kernel
theorem dX12_worlds_84 : decode cX12_worlds 84 = .ok (.iaload, 1) := by decide +kernel
theorem dX12_worlds_85 : decode cX12_worlds 85 = .ok (.if_icmp .ge 90, 3) := by decide +kernel
theorem dX12_worlds_88 : decode cX12_worlds 88 = .ok (.aload_n 0, 1) := by decide +kernel
theorem dX12_worlds_89 : decode cX12_worlds 89 = .ok (.getfield 25, 3) := by decide +kernel
theorem dX12_worlds_92 : decode cX12_worlds 92 = .ok (.bipush 19, 2) := by decide +kernel
theorem dX12_worlds_94 : decode cX12_worlds 94 = .ok (.iload 8, 2) := by decide +kernel
theorem dX12_worlds_96 : decode cX12_worlds 96 = .ok (.iadd, 1) := by decide +kernel
theorem dX12_worlds_97 : decode cX12_worlds 97 = .ok (.iconst 0, 1) := by decide +kernel
theorem dX12_worlds_98 : decode cX12_worlds 98 = .ok (.iastore, 1) := by decide +kernel
theorem dX12_worlds_99 : decode cX12_worlds 99 = .ok (.iconst 0, 1) := by decide +kernel
theorem dX12_worlds_100 : decode cX12_worlds 100 = .ok (.istore 9, 2) := by decide +kernel
theorem dX12_worlds_102 : decode cX12_worlds 102 = .ok (.iload 9, 2) := by decide +kernel
theorem dX12_worlds_104 : decode cX12_worlds 104 = .ok (.aload_n 0, 1) := by decide +kernel
theorem dX12_worlds_105 : decode cX12_worlds 105 = .ok (.getfield 9, 3) := by decide +kernel
theorem dX12_worlds_108 : decode cX12_worlds 108 = .ok (.iconst 0, 1) := by decide +kernel
theorem dX12_worlds_109 : decode cX12_worlds 109 = .ok (.iaload, 1) := by decide +kernel
theorem dX12_worlds_110 : decode cX12_worlds 110 = .ok (.if_icmp .ge 59, 3) := by decide +kernel
theorem dX12_worlds_113 : decode cX12_worlds 113 = .ok (.iload 5, 2) := by decide +kernel
theorem dX12_worlds_115 : decode cX12_worlds 115 = .ok (.ldc_w 291, 3) := by decide +kernel
theorem dX12_worlds_118 : decode cX12_worlds 118 = .ok (.imul, 1) := by decide +kernel
theorem dX12_worlds_119 : decode cX12_worlds 119 = .ok (.sipush 12345, 3) := by decide +kernel
theorem dX12_worlds_122 : decode cX12_worlds 122 = .ok (.iadd, 1) := by decide +kernel
theorem dX12_worlds_123 : decode cX12_worlds 123 = .ok (.istore 5, 2) := by decide +kernel
theorem dX12_worlds_125 : decode cX12_worlds 125 = .ok (.aload_n 0, 1) := by decide +kernel
theorem dX12_worlds_126 : decode cX12_worlds 126 = .ok (.getfield 25, 3) := by decide +kernel
theorem dX12_worlds_129 : decode cX12_worlds 129 = .ok (.bipush 19, 2) := by decide +kernel
theorem dX12_worlds_131 : decode cX12_worlds 131 = .ok (.iload 8, 2) := by decide +kernel
theorem dX12_worlds_133 : decode cX12_worlds 133 = .ok (.iadd, 1) := by decide +kernel
theorem dX12_worlds_134 : decode cX12_worlds 134 = .ok (.dup2, 1) := by decide +kernel
theorem dX12_worlds_135 : decode cX12_worlds 135 = .ok (.iaload, 1) := by decide +kernel
theorem dX12_worlds_136 : decode cX12_worlds 136 = .ok (.iload 5, 2) := by decide +kernel
theorem dX12_worlds_138 : decode cX12_worlds 138 = .ok (.ldc_w 292, 3) := by decide +kernel
theorem dX12_worlds_141 : decode cX12_worlds 141 = .ok (.iand, 1) := by decide +kernel
theorem dX12_worlds_142 : decode cX12_worlds 142 = .ok (.ldc_w 293, 3) := by decide +kernel
theorem dX12_worlds_145 : decode cX12_worlds 145 = .ok (.idiv, 1) := by decide +kernel
theorem dX12_worlds_146 : decode cX12_worlds 146 = .ok (.bipush 100, 2) := by decide +kernel
theorem dX12_worlds_148 : decode cX12_worlds 148 = .ok (.irem, 1) := by decide +kernel
theorem dX12_worlds_149 : decode cX12_worlds 149 = .ok (.iload_n 3, 1) := by decide +kernel
theorem dX12_worlds_150 : decode cX12_worlds 150 = .ok (.if_icmp .ge 10, 3) := by decide +kernel
theorem dX12_worlds_153 : decode cX12_worlds 153 = .ok (.iconst 1, 1) := by decide +kernel
theorem dX12_worlds_154 : decode cX12_worlds 154 = .ok (.iload 9, 2) := by decide +kernel
theorem dX12_worlds_156 : decode cX12_worlds 156 = .ok (.ishl, 1) := by decide +kernel
theorem dX12_worlds_157 : decode cX12_worlds 157 = .ok (.goto 4, 3) := by decide +kernel
theorem dX12_worlds_160 : decode cX12_worlds 160 = .ok (.iconst 0, 1) := by decide +kernel
theorem dX12_worlds_161 : decode cX12_worlds 161 = .ok (.ior, 1) := by decide +kernel
theorem dX12_worlds_162 : decode cX12_worlds 162 = .ok (.iastore, 1) := by decide +kernel
theorem dX12_worlds_163 : decode cX12_worlds 163 = .ok (.iinc 9 1, 3) := by decide +kernel
theorem dX12_worlds_166 : decode cX12_worlds 166 = .ok (.goto (-64), 3) := by decide +kernel
theorem dX12_worlds_169 : decode cX12_worlds 169 = .ok (.iinc 8 1, 3) := by decide +kernel
theorem dX12_worlds_172 : decode cX12_worlds 172 = .ok (.goto (-95), 3) := by decide +kernel
theorem dX12_worlds_175 : decode cX12_worlds 175 = .ok (.aload_n 0, 1) := by decide +kernel
theorem dX12_worlds_176 : decode cX12_worlds 176 = .ok (.aload_n 0, 1) := by decide +kernel
theorem dX12_worlds_177 : decode cX12_worlds 177 = .ok (.aload_n 0, 1) := by decide +kernel
theorem dX12_worlds_178 : decode cX12_worlds 178 = .ok (.getfield 9, 3) := by decide +kernel
theorem dX12_worlds_181 : decode cX12_worlds 181 = .ok (.iconst 1, 1) := by decide +kernel
theorem dX12_worlds_182 : decode cX12_worlds 182 = .ok (.iaload, 1) := by decide +kernel
theorem dX12_worlds_183 : decode cX12_worlds 183 = .ok (.invokevirtual 238, 3) := by decide +kernel
theorem dX12_worlds_186 : decode cX12_worlds 186 = .ok (.aload_n 0, 1) := by decide +kernel
theorem dX12_worlds_187 : decode cX12_worlds 187 = .ok (.invokevirtual 247, 3) := by decide +kernel
theorem dX12_worlds_190 : decode cX12_worlds 190 = .ok (.aload_n 0, 1) := by decide +kernel
theorem dX12_worlds_191 : decode cX12_worlds 191 = .ok (.getfield 9, 3) := by decide +kernel
theorem dX12_worlds_194 : decode cX12_worlds 194 = .ok (.iconst 5, 1) := by decide +kernel
theorem dX12_worlds_195 : decode cX12_worlds 195 = .ok (.iaload, 1) := by decide +kernel
theorem dX12_worlds_196 : decode cX12_worlds 196 = .ok (.iconst 1, 1) := by decide +kernel
theorem dX12_worlds_197 : decode cX12_worlds 197 = .ok (.if_icmp .ne 7, 3) := by decide +kernel
theorem dX12_worlds_200 : decode cX12_worlds 200 = .ok (.iconst 1, 1) := by decide +kernel
theorem dX12_worlds_201 : decode cX12_worlds 201 = .ok (.goto 4, 3) := by decide +kernel
theorem dX12_worlds_204 : decode cX12_worlds 204 = .ok (.iconst 0, 1) := by decide +kernel
theorem dX12_worlds_205 : decode cX12_worlds 205 = .ok (.invokevirtual 269, 3) := by decide +kernel
theorem dX12_worlds_208 : decode cX12_worlds 208 = .ok (.istore 8, 2) := by decide +kernel
theorem dX12_worlds_210 : decode cX12_worlds 210 = .ok (.iconst 2, 1) := by decide +kernel
theorem dX12_worlds_211 : decode cX12_worlds 211 = .ok (.aload_n 0, 1) := by decide +kernel
theorem dX12_worlds_212 : decode cX12_worlds 212 = .ok (.getfield 256, 3) := by decide +kernel
theorem dX12_worlds_215 : decode cX12_worlds 215 = .ok (.imul, 1) := by decide +kernel
theorem dX12_worlds_216 : decode cX12_worlds 216 = .ok (.aload_n 0, 1) := by decide +kernel
theorem dX12_worlds_217 : decode cX12_worlds 217 = .ok (.getfield 9, 3) := by decide +kernel
theorem dX12_worlds_220 : decode cX12_worlds 220 = .ok (.iconst 1, 1) := by decide +kernel
theorem dX12_worlds_221 : decode cX12_worlds 221 = .ok (.iaload, 1) := by decide +kernel
theorem dX12_worlds_222 : decode cX12_worlds 222 = .ok (.isub, 1) := by decide +kernel
theorem dX12_worlds_223 : decode cX12_worlds 223 = .ok (.istore 9, 2) := by decide +kernel
theorem dX12_worlds_225 : decode cX12_worlds 225 = .ok (.iload 4, 2) := by decide +kernel
theorem dX12_worlds_227 : decode cX12_worlds 227 = .ok (.ifCond .ne 32, 3) := by decide +kernel
theorem dX12_worlds_230 : decode cX12_worlds 230 = .ok (.iload 9, 2) := by decide +kernel
theorem dX12_worlds_232 : decode cX12_worlds 232 = .ok (.ifCond .le 9, 3) := by decide +kernel
theorem dX12_worlds_235 : decode cX12_worlds 235 = .ok (.iload 8, 2) := by decide +kernel
theorem dX12_worlds_237 : decode cX12_worlds 237 = .ok (.iconst 1, 1) := by decide +kernel
theorem dX12_worlds_238 : decode cX12_worlds 238 = .ok (.if_icmp .eq 13, 3) := by decide +kernel
theorem dX12_worlds_241 : decode cX12_worlds 241 = .ok (.iload 9, 2) := by decide +kernel
theorem dX12_worlds_243 : decode cX12_worlds 243 = .ok (.ifCond .ge 12, 3) := by decide +kernel
theorem dX12_worlds_246 : decode cX12_worlds 246 = .ok (.iload 8, 2) := by decide +kernel
theorem dX12_worlds_248 : decode cX12_worlds 248 = .ok (.ifCond .ne 7, 3) := by decide +kernel
theorem dX12_worlds_251 : decode cX12_worlds 251 = .ok (.iconst 1, 1) := by decide +kernel
theorem dX12_worlds_252 : decode cX12_worlds 252 = .ok (.goto 38, 3) := by decide +kernel
theorem dX12_worlds_255 : decode cX12_worlds 255 = .ok (.iconst 0, 1) := by decide +kernel
theorem dX12_worlds_256 : decode cX12_worlds 256 = .ok (.goto 34, 3) := by decide +kernel
theorem dX12_worlds_259 : decode cX12_worlds 259 = .ok (.iload 4, 2) := by decide +kernel
theorem dX12_worlds_261 : decode cX12_worlds 261 = .ok (.iconst 1, 1) := by decide +kernel
theorem dX12_worlds_262 : decode cX12_worlds 262 = .ok (.if_icmp .ne 17, 3) := by decide +kernel
theorem dX12_worlds_265 : decode cX12_worlds 265 = .ok (.iload 8, 2) := by decide +kernel
theorem dX12_worlds_267 : decode cX12_worlds 267 = .ok (.iconst 1, 1) := by decide +kernel
theorem dX12_worlds_268 : decode cX12_worlds 268 = .ok (.if_icmp .ne 7, 3) := by decide +kernel
theorem dX12_worlds_271 : decode cX12_worlds 271 = .ok (.iconst 1, 1) := by decide +kernel
theorem dX12_worlds_272 : decode cX12_worlds 272 = .ok (.goto 18, 3) := by decide +kernel
theorem dX12_worlds_275 : decode cX12_worlds 275 = .ok (.iconst 0, 1) := by decide +kernel
theorem dX12_worlds_276 : decode cX12_worlds 276 = .ok (.goto 14, 3) := by decide +kernel
theorem dX12_worlds_279 : decode cX12_worlds 279 = .ok (.iload 8, 2) := by decide +kernel
theorem dX12_worlds_281 : decode cX12_worlds 281 = .ok (.iconst 2, 1) := by decide +kernel
theorem dX12_worlds_282 : decode cX12_worlds 282 = .ok (.if_icmp .ne 7, 3) := by decide +kernel
theorem dX12_worlds_285 : decode cX12_worlds 285 = .ok (.iconst 1, 1) := by decide +kernel
theorem dX12_worlds_286 : decode cX12_worlds 286 = .ok (.goto 4, 3) := by decide +kernel
theorem dX12_worlds_289 : decode cX12_worlds 289 = .ok (.iconst 0, 1) := by decide +kernel
theorem dX12_worlds_290 : decode cX12_worlds 290 = .ok (.istore 10, 2) := by decide +kernel
theorem dX12_worlds_292 : decode cX12_worlds 292 = .ok (.iload 6, 2) := by decide +kernel
theorem dX12_worlds_294 : decode cX12_worlds 294 = .ok (.iload 10, 2) := by decide +kernel
theorem dX12_worlds_296 : decode cX12_worlds 296 = .ok (.ifCond .eq 7, 3) := by decide +kernel
theorem dX12_worlds_299 : decode cX12_worlds 299 = .ok (.iconst 1, 1) := by decide +kernel
theorem dX12_worlds_300 : decode cX12_worlds 300 = .ok (.goto 4, 3) := by decide +kernel
theorem dX12_worlds_303 : decode cX12_worlds 303 = .ok (.iconst 0, 1) := by decide +kernel
theorem dX12_worlds_304 : decode cX12_worlds 304 = .ok (.iadd, 1) := by decide +kernel
theorem dX12_worlds_305 : decode cX12_worlds 305 = .ok (.istore 6, 2) := by decide +kernel
theorem dX12_worlds_307 : decode cX12_worlds 307 = .ok (.iinc 7 1, 3) := by decide +kernel
theorem dX12_worlds_310 : decode cX12_worlds 310 = .ok (.goto (-250), 3) := by decide +kernel
theorem dX12_worlds_313 : decode cX12_worlds 313 = .ok (.iload 6, 2) := by decide +kernel
theorem dX12_worlds_315 : decode cX12_worlds 315 = .ok (.ireturn, 1) := by decide +kernel
theorem dX12_image_0 : decode cX12_image 0 = .ok (.iconst 0, 1) := by decide +kernel
theorem dX12_image_1 : decode cX12_image 1 = .ok (.istore_n 1, 1) := by decide +kernel
theorem dX12_image_2 : decode cX12_image 2 = .ok (.iload_n 1, 1) := by decide +kernel
theorem dX12_image_3 : decode cX12_image 3 = .ok (.bipush 109, 2) := by decide +kernel
theorem dX12_image_5 : decode cX12_image 5 = .ok (.if_icmp .ge 21, 3) := by decide +kernel
theorem dX12_image_8 : decode cX12_image 8 = .ok (.aload_n 0, 1) := by decide +kernel
theorem dX12_image_9 : decode cX12_image 9 = .ok (.getfield 13, 3) := by decide +kernel
theorem dX12_image_12 : decode cX12_image 12 = .ok (.iload_n 1, 1) := by decide +kernel
theorem dX12_image_13 : decode cX12_image 13 = .ok (.aload_n 0, 1) := by decide +kernel
theorem dX12_image_14 : decode cX12_image 14 = .ok (.getfield 9, 3) := by decide +kernel
theorem dX12_image_17 : decode cX12_image 17 = .ok (.iload_n 1, 1) := by decide +kernel
theorem dX12_image_18 : decode cX12_image 18 = .ok (.iaload, 1) := by decide +kernel
theorem dX12_image_19 : decode cX12_image 19 = .ok (.iastore, 1) := by decide +kernel
theorem dX12_image_20 : decode cX12_image 20 = .ok (.iinc 1 1, 3) := by decide +kernel
theorem dX12_image_23 : decode cX12_image 23 = .ok (.goto (-21), 3) := by decide +kernel
theorem dX12_image_26 : decode cX12_image 26 = .ok (.iconst 0, 1) := by decide +kernel
theorem dX12_image_27 : decode cX12_image 27 = .ok (.istore_n 1, 1) := by decide +kernel
theorem dX12_image_28 : decode cX12_image 28 = .ok (.iload_n 1, 1) := by decide +kernel
theorem dX12_image_29 : decode cX12_image 29 = .ok (.bipush 67, 2) := by decide +kernel
theorem dX12_image_31 : decode cX12_image 31 = .ok (.if_icmp .ge 21, 3) := by decide +kernel
theorem dX12_image_34 : decode cX12_image 34 = .ok (.aload_n 0, 1) := by decide +kernel
theorem dX12_image_35 : decode cX12_image 35 = .ok (.getfield 28, 3) := by decide +kernel
theorem dX12_image_38 : decode cX12_image 38 = .ok (.iload_n 1, 1) := by decide +kernel
theorem dX12_image_39 : decode cX12_image 39 = .ok (.aload_n 0, 1) := by decide +kernel
theorem dX12_image_40 : decode cX12_image 40 = .ok (.getfield 22, 3) := by decide +kernel
theorem dX12_image_43 : decode cX12_image 43 = .ok (.iload_n 1, 1) := by decide +kernel
theorem dX12_image_44 : decode cX12_image 44 = .ok (.iaload, 1) := by decide +kernel
theorem dX12_image_45 : decode cX12_image 45 = .ok (.iastore, 1) := by decide +kernel
theorem dX12_image_46 : decode cX12_image 46 = .ok (.iinc 1 1, 3) := by decide +kernel
theorem dX12_image_49 : decode cX12_image 49 = .ok (.goto (-21), 3) := by decide +kernel
theorem dX12_image_52 : decode cX12_image 52 = .ok (.iconst 0, 1) := by decide +kernel
theorem dX12_image_53 : decode cX12_image 53 = .ok (.istore_n 1, 1) := by decide +kernel
theorem dX12_image_54 : decode cX12_image 54 = .ok (.iload_n 1, 1) := by decide +kernel
theorem dX12_image_55 : decode cX12_image 55 = .ok (.sipush 600, 3) := by decide +kernel
theorem dX12_image_58 : decode cX12_image 58 = .ok (.if_icmp .ge 21, 3) := by decide +kernel
theorem dX12_image_61 : decode cX12_image 61 = .ok (.aload_n 0, 1) := by decide +kernel
theorem dX12_image_62 : decode cX12_image 62 = .ok (.getfield 19, 3) := by decide +kernel
theorem dX12_image_65 : decode cX12_image 65 = .ok (.iload_n 1, 1) := by decide +kernel
theorem dX12_image_66 : decode cX12_image 66 = .ok (.aload_n 0, 1) := by decide +kernel
theorem dX12_image_67 : decode cX12_image 67 = .ok (.getfield 16, 3) := by decide +kernel
theorem dX12_image_70 : decode cX12_image 70 = .ok (.iload_n 1, 1) := by decide +kernel
theorem dX12_image_71 : decode cX12_image 71 = .ok (.iaload, 1) := by decide +kernel
theorem dX12_image_72 : decode cX12_image 72 = .ok (.iastore, 1) := by decide +kernel
theorem dX12_image_73 : decode cX12_image 73 = .ok (.iinc 1 1, 3) := by decide +kernel
theorem dX12_image_76 : decode cX12_image 76 = .ok (.goto (-22), 3) := by decide +kernel
theorem dX12_image_79 : decode cX12_image 79 = .ok (.aload_n 0, 1) := by decide +kernel
theorem dX12_image_80 : decode cX12_image 80 = .ok (.iconst 1, 1) := by decide +kernel
theorem dX12_image_81 : decode cX12_image 81 = .ok (.putfield 294, 3) := by decide +kernel
theorem dX12_image_84 : decode cX12_image 84 = .ok (.aload_n 0, 1) := by decide +kernel
theorem dX12_image_85 : decode cX12_image 85 = .ok (.getfield 9, 3) := by decide +kernel
theorem dX12_image_88 : decode cX12_image 88 = .ok (.iconst 1, 1) := by decide +kernel
theorem dX12_image_89 : decode cX12_image 89 = .ok (.iaload, 1) := by decide +kernel
theorem dX12_image_90 : decode cX12_image 90 = .ok (.ireturn, 1) := by decide +kernel
