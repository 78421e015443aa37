theorem dX11_worlds_0 : decode cX11_worlds 0 = .ok (.iload_n 1, 1) := by decide +kernel
theorem dX11_worlds_1 : decode cX11_worlds 1 = .ok (.iconst 1, 1) := by decide +kernel
theorem dX11_worlds_2 : decode cX11_worlds 2 = .ok (.if_icmp .lt 30, 3) := by decide +kernel
theorem dX11_worlds_5 : decode cX11_worlds 5 = .ok (.iload_n 1, 1) := by decide +kernel
theorem dX11_worlds_6 : decode cX11_worlds 6 = .ok (.bipush 30, 2) := by decide +kernel
theorem dX11_worlds_8 : decode cX11_worlds 8 = .ok (.if_icmp .gt 24, 3) := by decide +kernel
theorem dX11_worlds_11 : decode cX11_worlds 11 = .ok (.iload_n 3, 1) := by decide +kernel
theorem dX11_worlds_12 : decode cX11_worlds 12 = .ok (.ifCond .lt 20, 3) := by decide +kernel
theorem dX11_worlds_15 : decode cX11_worlds 15 = .ok (.iload_n 3, 1) := by decide +kernel
theorem dX11_worlds_16 : decode cX11_worlds 16 = .ok (.bipush 100, 2) := by decide +kernel
theorem dX11_worlds_18 : decode cX11_worlds 18 = .ok (.if_icmp .gt 14, 3) := by decide +kernel
theorem dX11_worlds_21 : decode cX11_worlds 21 = .ok (.iload 4, 2) := by decide +kernel
theorem dX11_worlds_23 : decode cX11_worlds 23 = .ok (.ifCond .lt 9, 3) := by decide +kernel
theorem dX11_worlds_26 : decode cX11_worlds 26 = .ok (.iload 4, 2) := by decide +kernel
theorem dX11_worlds_28 : decode cX11_worlds 28 = .ok (.iconst 2, 1) := by decide +kernel
theorem dX11_worlds_29 : decode cX11_worlds 29 = .ok (.if_icmp .le 5, 3) := by decide +kernel
theorem dX11_worlds_32 : decode cX11_worlds 32 = .ok (.iconst (-1), 1) := by decide +kernel
theorem dX11_worlds_33 : decode cX11_worlds 33 = .ok (.ireturn, 1) := by decide +kernel
theorem dX11_worlds_34 : decode cX11_worlds 34 = .ok (.aload_n 0, 1) := by decide +kernel
theorem dX11_worlds_35 : decode cX11_worlds 35 = .ok (.getfield 10, 3) := by decide +kernel
theorem dX11_worlds_38 : decode cX11_worlds 38 = .ok (.getfield 48, 3) := by decide +kernel
theorem dX11_worlds_41 : decode cX11_worlds 41 = .ok (.ifCond .ne 6, 3) := by decide +kernel
theorem dX11_worlds_44 : decode cX11_worlds 44 = .ok (.bipush (-3), 2) := by decide +kernel
theorem dX11_worlds_46 : decode cX11_worlds 46 = .ok (.ireturn, 1) := by decide +kernel
theorem dX11_worlds_47 : decode cX11_worlds 47 = .ok (.aload_n 0, 1) := by decide +kernel
theorem dX11_worlds_48 : decode cX11_worlds 48 = .ok (.getfield 16, 3) := by decide +kernel
theorem dX11_worlds_51 : decode cX11_worlds 51 = .ok (.aload_n 0, 1) := by decide +kernel
theorem dX11_worlds_52 : decode cX11_worlds 52 = .ok (.getfield 10, 3) := by decide +kernel
theorem dX11_worlds_55 : decode cX11_worlds 55 = .ok (.iconst 0, 1) := by decide +kernel
theorem dX11_worlds_56 : decode cX11_worlds 56 = .ok (.invokevirtual 195, 3) := by decide +kernel
theorem dX11_worlds_59 : decode cX11_worlds 59 = .ok (.iload_n 2, 1) := by decide +kernel
theorem dX11_worlds_60 : decode cX11_worlds 60 = .ok (.istore 5, 2) := by decide +kernel
theorem dX11_worlds_62 : decode cX11_worlds 62 = .ok (.iconst 0, 1) := by decide +kernel
theorem dX11_worlds_63 : decode cX11_worlds 63 = .ok (.istore 6, 2) := by decide +kernel
theorem dX11_worlds_65 : decode cX11_worlds 65 = .ok (.iconst 0, 1) := by decide +kernel
theorem dX11_worlds_66 : decode cX11_worlds 66 = .ok (.istore 7, 2) := by decide +kernel
theorem dX11_worlds_68 : decode cX11_worlds 68 = .ok (.iload 7, 2) := by decide +kernel
theorem dX11_worlds_70 : decode cX11_worlds 70 = .ok (.iload_n 1, 1) := by decide +kernel
theorem dX11_worlds_71 : decode cX11_worlds 71 = .ok (.if_icmp .ge 58, 3) := by decide +kernel
theorem dX11_worlds_74 : decode cX11_worlds 74 = .ok (.aload_n 0, 1) := by decide +kernel
theorem dX11_worlds_75 : decode cX11_worlds 75 = .ok (.getfield 16, 3) := by decide +kernel
theorem dX11_worlds_78 : decode cX11_worlds 78 = .ok (.iload 5, 2) := by decide +kernel
theorem dX11_worlds_80 : decode cX11_worlds 80 = .ok (.iload_n 3, 1) := by decide +kernel
theorem dX11_worlds_81 : decode cX11_worlds 81 = .ok (.invokevirtual 215, 3) := by decide +kernel
theorem dX11_worlds_84 : decode cX11_worlds 84 = .ok (.istore 5, 2) := by decide +kernel
theorem dX11_worlds_86 : decode cX11_worlds 86 = .ok (.aload_n 0, 1) := by decide +kernel
theorem dX11_worlds_87 : decode cX11_worlds 87 = .ok (.getfield 16, 3) := by decide +kernel
theorem dX11_worlds_90 : decode cX11_worlds 90 = .ok (.invokevirtual 202, 3) := by decide +kernel
theorem dX11_worlds_93 : decode cX11_worlds 93 = .ok (.istore 8, 2) := by decide +kernel
theorem dX11_worlds_95 : decode cX11_worlds 95 = .ok (.iload 4, 2) := by decide +kernel
theorem dX11_worlds_97 : decode cX11_worlds 97 = .ok (.ifCond .ne 16, 3) := by decide +kernel
theorem dX11_worlds_100 : decode cX11_worlds 100 = .ok (.aload_n 0, 1) := by decide +kernel
theorem dX11_worlds_101 : decode cX11_worlds 101 = .ok (.getfield 16, 3) := by decide +kernel
theorem dX11_worlds_104 : decode cX11_worlds 104 = .ok (.invokevirtual 218, 3) := by decide +kernel
theorem dX11_worlds_107 : decode cX11_worlds 107 = .ok (.ifCond .eq 16, 3) := by decide +kernel
theorem dX11_worlds_110 : decode cX11_worlds 110 = .ok (.goto 10, 3) := by decide +kernel
theorem dX11_worlds_113 : decode cX11_worlds 113 = .ok (.iload 8, 2) := by decide +kernel
theorem dX11_worlds_115 : decode cX11_worlds 115 = .ok (.iload 4, 2) := by decide +kernel
theorem dX11_worlds_117 : decode cX11_worlds 117 = .ok (.if_icmp .ne 6, 3) := by decide +kernel
theorem dX11_worlds_120 : decode cX11_worlds 120 = .ok (.iinc 6 1, 3) := by decide +kernel
theorem dX11_worlds_123 : decode cX11_worlds 123 = .ok (.iinc 7 1, 3) := by decide +kernel
theorem dX11_worlds_126 : decode cX11_worlds 126 = .ok (.goto (-58), 3) := by decide +kernel
theorem dX11_worlds_129 : decode cX11_worlds 129 = .ok (.iload 6, 2) := by decide +kernel
theorem dX11_worlds_131 : decode cX11_worlds 131 = .ok (.ireturn, 1) := by decide +kernel
theorem dX3_becomeLike_0 : decode cX3_becomeLike 0 = .ok (.aload_n 0, 1) := by decide +kernel
theorem dX3_becomeLike_1 : decode cX3_becomeLike 1 = .ok (.aload_n 1, 1) := by decide +kernel
theorem dX3_becomeLike_2 : decode cX3_becomeLike 2 = .ok (.iconst 0, 1) := by decide +kernel
theorem dX3_becomeLike_3 : decode cX3_becomeLike 3 = .ok (.invokevirtual 184, 3) := by decide +kernel
theorem dX3_becomeLike_6 : decode cX3_becomeLike 6 = .ok (.aload_n 1, 1) := by decide +kernel
theorem dX3_becomeLike_7 : decode cX3_becomeLike 7 = .ok (.getfield 30, 3) := by decide +kernel
theorem dX3_becomeLike_10 : decode cX3_becomeLike 10 = .ok (.aload_n 0, 1) := by decide +kernel
theorem dX3_becomeLike_11 : decode cX3_becomeLike 11 = .ok (.getfield 30, 3) := by decide +kernel
theorem dX3_becomeLike_14 : decode cX3_becomeLike 14 = .ok (.invokestatic 176, 3) := by decide +kernel
theorem dX3_becomeLike_17 : decode cX3_becomeLike 17 = .ok (.aload_n 0, 1) := by decide +kernel
theorem dX3_becomeLike_18 : decode cX3_becomeLike 18 = .ok (.aload_n 1, 1) := by decide +kernel
theorem dX3_becomeLike_19 : decode cX3_becomeLike 19 = .ok (.getfield 53, 3) := by decide +kernel
theorem dX3_becomeLike_22 : decode cX3_becomeLike 22 = .ok (.putfield 53, 3) := by decide +kernel
theorem dX3_becomeLike_25 : decode cX3_becomeLike 25 = .ok (.iconst 0, 1) := by decide +kernel
theorem dX3_becomeLike_26 : decode cX3_becomeLike 26 = .ok (.istore_n 2, 1) := by decide +kernel
theorem dX3_becomeLike_27 : decode cX3_becomeLike 27 = .ok (.iload_n 2, 1) := by decide +kernel
theorem dX3_becomeLike_28 : decode cX3_becomeLike 28 = .ok (.aload_n 0, 1) := by decide +kernel
theorem dX3_becomeLike_29 : decode cX3_becomeLike 29 = .ok (.getfield 26, 3) := by decide +kernel
theorem dX3_becomeLike_32 : decode cX3_becomeLike 32 = .ok (.arraylength, 1) := by decide +kernel
theorem dX3_becomeLike_33 : decode cX3_becomeLike 33 = .ok (.if_icmp .ge 20, 3) := by decide +kernel
theorem dX3_becomeLike_36 : decode cX3_becomeLike 36 = .ok (.aload_n 0, 1) := by decide +kernel
theorem dX3_becomeLike_37 : decode cX3_becomeLike 37 = .ok (.getfield 26, 3) := by decide +kernel
theorem dX3_becomeLike_40 : decode cX3_becomeLike 40 = .ok (.iload_n 2, 1) := by decide +kernel
theorem dX3_becomeLike_41 : decode cX3_becomeLike 41 = .ok (.aload_n 1, 1) := by decide +kernel
theorem dX3_becomeLike_42 : decode cX3_becomeLike 42 = .ok (.iload_n 2, 1) := by decide +kernel
theorem dX3_becomeLike_43 : decode cX3_becomeLike 43 = .ok (.invokevirtual 187, 3) := by decide +kernel
theorem dX3_becomeLike_46 : decode cX3_becomeLike 46 = .ok (.aastore, 1) := by decide +kernel
theorem dX3_becomeLike_47 : decode cX3_becomeLike 47 = .ok (.iinc 2 1, 3) := by decide +kernel
theorem dX3_becomeLike_50 : decode cX3_becomeLike 50 = .ok (.goto (-23), 3) := by decide +kernel
theorem dX3_becomeLike_53 : decode cX3_becomeLike 53 = .ok (.aload_n 0, 1) := by decide +kernel
theorem dX3_becomeLike_54 : decode cX3_becomeLike 54 = .ok (.aload_n 1, 1) := by decide +kernel
theorem dX3_becomeLike_55 : decode cX3_becomeLike 55 = .ok (.getfield 119, 3) := by decide +kernel
theorem dX3_becomeLike_58 : decode cX3_becomeLike 58 = .ok (.putfield 119, 3) := by decide +kernel
theorem dX3_becomeLike_61 : decode cX3_becomeLike 61 = .ok (.aload_n 0, 1) := by decide +kernel
theorem dX3_becomeLike_62 : decode cX3_becomeLike 62 = .ok (.aload_n 1, 1) := by decide +kernel
theorem dX3_becomeLike_63 : decode cX3_becomeLike 63 = .ok (.getfield 126, 3) := by decide +kernel
theorem dX3_becomeLike_66 : decode cX3_becomeLike 66 = .ok (.putfield 126, 3) := by decide +kernel
theorem dX3_becomeLike_69 : decode cX3_becomeLike 69 = .ok (.aload_n 0, 1) := by decide +kernel
theorem dX3_becomeLike_70 : decode cX3_becomeLike 70 = .ok (.aload_n 1, 1) := by decide +kernel
theorem dX3_becomeLike_71 : decode cX3_becomeLike 71 = .ok (.getfield 97, 3) := by decide +kernel
theorem dX3_becomeLike_74 : decode cX3_becomeLike 74 = .ok (.putfield 97, 3) := by decide +kernel
theorem dX3_becomeLike_77 : decode cX3_becomeLike 77 = .ok (.aload_n 0, 1) := by decide +kernel
theorem dX3_becomeLike_78 : decode cX3_becomeLike 78 = .ok (.aload_n 1, 1) := by decide +kernel
theorem dX3_becomeLike_79 : decode cX3_becomeLike 79 = .ok (.getfield 104, 3) := by decide +kernel
theorem dX3_becomeLike_82 : decode cX3_becomeLike 82 = .ok (.putfield 104, 3) := by decide +kernel
theorem dX3_becomeLike_85 : decode cX3_becomeLike 85 = .ok (.aload_n 0, 1) := by decide +kernel
theorem dX3_becomeLike_86 : decode cX3_becomeLike 86 = .ok (.aload_n 1, 1) := by decide +kernel
theorem dX3_becomeLike_87 : decode cX3_becomeLike 87 = .ok (.getfield 70, 3) := by decide +kernel
theorem dX3_becomeLike_90 : decode cX3_becomeLike 90 = .ok (.putfield 70, 3) := by decide +kernel
theorem dX3_becomeLike_93 : decode cX3_becomeLike 93 = .ok (.aload_n 0, 1) := by decide +kernel
theorem dX3_becomeLike_94 : decode cX3_becomeLike 94 = .ok (.aload_n 1, 1) := by decide +kernel
theorem dX3_becomeLike_95 : decode cX3_becomeLike 95 = .ok (.getfield 107, 3) := by decide +kernel
theorem dX3_becomeLike_98 : decode cX3_becomeLike 98 = .ok (.putfield 107, 3) := by decide +kernel
theorem dX3_becomeLike_101 : decode cX3_becomeLike 101 = .ok (.aload_n 0, 1) := by decide +kernel
theorem dX3_becomeLike_102 : decode cX3_becomeLike 102 = .ok (.aload_n 1, 1) := by decide +kernel
theorem dX3_becomeLike_103 : decode cX3_becomeLike 103 = .ok (.getfield 83, 3) := by decide +kernel
theorem dX3_becomeLike_106 : decode cX3_becomeLike 106 = .ok (.putfield 83, 3) := by decide +kernel
theorem dX3_becomeLike_109 : decode cX3_becomeLike 109 = .ok (.aload_n 1, 1) := by decide +kernel
theorem dX3_becomeLike_110 : decode cX3_becomeLike 110 = .ok (.getfield 33, 3) := by decide +kernel
theorem dX3_becomeLike_113 : decode cX3_becomeLike 113 = .ok (.aload_n 0, 1) := by decide +kernel
theorem dX3_becomeLike_114 : decode cX3_becomeLike 114 = .ok (.getfield 33, 3) := by decide +kernel
theorem dX3_becomeLike_117 : decode cX3_becomeLike 117 = .ok (.invokestatic 176, 3) := by decide +kernel
theorem dX3_becomeLike_120 : decode cX3_becomeLike 120 = .ok (.aload_n 1, 1) := by decide +kernel
theorem dX3_becomeLike_121 : decode cX3_becomeLike 121 = .ok (.getfield 36, 3) := by decide +kernel
theorem dX3_becomeLike_124 : decode cX3_becomeLike 124 = .ok (.aload_n 0, 1) := by decide +kernel
theorem dX3_becomeLike_125 : decode cX3_becomeLike 125 = .ok (.getfield 36, 3) := by decide +kernel
theorem dX3_becomeLike_128 : decode cX3_becomeLike 128 = .ok (.invokestatic 176, 3) := by decide +kernel
theorem dX3_becomeLike_131 : decode cX3_becomeLike 131 = .ok (.aload_n 1, 1) := by decide +kernel
theorem dX3_becomeLike_132 : decode cX3_becomeLike 132 = .ok (.getfield 39, 3) := by decide +kernel
theorem dX3_becomeLike_135 : decode cX3_becomeLike 135 = .ok (.aload_n 0, 1) := by decide +kernel
theorem dX3_becomeLike_136 : decode cX3_becomeLike 136 = .ok (.getfield 39, 3) := by decide +kernel
theorem dX3_becomeLike_139 : decode cX3_becomeLike 139 = .ok (.invokestatic 176, 3) := by decide +kernel
theorem dX3_becomeLike_142 : decode cX3_becomeLike 142 = .ok (.aload_n 1, 1) := by decide +kernel
theorem dX3_becomeLike_143 : decode cX3_becomeLike 143 = .ok (.getfield 42, 3) := by decide +kernel
theorem dX3_becomeLike_146 : decode cX3_becomeLike 146 = .ok (.aload_n 0, 1) := by decide +kernel
theorem dX3_becomeLike_147 : decode cX3_becomeLike 147 = .ok (.getfield 42, 3) := by decide +kernel
theorem dX3_becomeLike_150 : decode cX3_becomeLike 150 = .ok (.invokestatic 176, 3) := by decide +kernel
theorem dX3_becomeLike_153 : decode cX3_becomeLike 153 = .ok (.return_, 1) := by decide +kernel
theorem dX11_image_0 : decode cX11_image 0 = .ok (.aload_n 0, 1) := by decide +kernel
theorem dX11_image_1 : decode cX11_image 1 = .ok (.getfield 19, 3) := by decide +kernel
theorem dX11_image_4 : decode cX11_image 4 = .ok (.aload_n 0, 1) := by decide +kernel
theorem dX11_image_5 : decode cX11_image 5 = .ok (.getfield 10, 3) := by decide +kernel
theorem dX11_image_8 : decode cX11_image 8 = .ok (.invokevirtual 221, 3) := by decide +kernel
theorem dX11_image_11 : decode cX11_image 11 = .ok (.aload_n 0, 1) := by decide +kernel
theorem dX11_image_12 : decode cX11_image 12 = .ok (.iconst 1, 1) := by decide +kernel
theorem dX11_image_13 : decode cX11_image 13 = .ok (.putfield 225, 3) := by decide +kernel
theorem dX11_image_16 : decode cX11_image 16 = .ok (.aload_n 0, 1) := by decide +kernel
theorem dX11_image_17 : decode cX11_image 17 = .ok (.getfield 10, 3) := by decide +kernel
theorem dX11_image_20 : decode cX11_image 20 = .ok (.getfield 48, 3) := by decide +kernel
theorem dX11_image_23 : decode cX11_image 23 = .ok (.ireturn, 1) := by decide +kernel
theorem dX11_restore_0 : decode cX11_restore 0 = .ok (.aload_n 0, 1) := by decide +kernel
theorem dX11_restore_1 : decode cX11_restore 1 = .ok (.getfield 225, 3) := by decide +kernel
theorem dX11_restore_4 : decode cX11_restore 4 = .ok (.ifCond .ne 6, 3) := by decide +kernel
theorem dX11_restore_7 : decode cX11_restore 7 = .ok (.bipush (-3), 2) := by decide +kernel
theorem dX11_restore_9 : decode cX11_restore 9 = .ok (.ireturn, 1) := by decide +kernel
theorem dX11_restore_10 : decode cX11_restore 10 = .ok (.aload_n 0, 1) := by decide +kernel
theorem dX11_restore_11 : decode cX11_restore 11 = .ok (.getfield 10, 3) := by decide +kernel
theorem dX11_restore_14 : decode cX11_restore 14 = .ok (.aload_n 0, 1) := by decide +kernel
theorem dX11_restore_15 : decode cX11_restore 15 = .ok (.getfield 19, 3) := by decide +kernel
theorem dX11_restore_18 : decode cX11_restore 18 = .ok (.invokevirtual 221, 3) := by decide +kernel
theorem dX11_restore_21 : decode cX11_restore 21 = .ok (.aload_n 0, 1) := by decide +kernel
theorem dX11_restore_22 : decode cX11_restore 22 = .ok (.getfield 10, 3) := by decide +kernel
theorem dX11_restore_25 : decode cX11_restore 25 = .ok (.getfield 48, 3) := by decide +kernel
theorem dX11_restore_28 : decode cX11_restore 28 = .ok (.ireturn, 1) := by decide +kernel
theorem dX11_count_0 : decode cX11_count 0 = .ok (.iload_n 1, 1) := by decide +kernel
theorem dX11_count_1 : decode cX11_count 1 = .ok (.tableswitch 76 0 4 #[35, 43, 51, 59, 68], 35) := by decide +kernel
theorem dX11_count_36 : decode cX11_count 36 = .ok (.aload_n 0, 1) := by decide +kernel
theorem dX11_count_37 : decode cX11_count 37 = .ok (.getfield 10, 3) := by decide +kernel
theorem dX11_count_40 : decode cX11_count 40 = .ok (.getfield 29, 3) := by decide +kernel
theorem dX11_count_43 : decode cX11_count 43 = .ok (.ireturn, 1) := by decide +kernel
theorem dX11_count_44 : decode cX11_count 44 = .ok (.aload_n 0, 1) := by decide +kernel
theorem dX11_count_45 : decode cX11_count 45 = .ok (.getfield 10, 3) := by decide +kernel
theorem dX11_count_48 : decode cX11_count 48 = .ok (.getfield 48, 3) := by decide +kernel
theorem dX11_count_51 : decode cX11_count 51 = .ok (.ireturn, 1) := by decide +kernel
theorem dX11_count_52 : decode cX11_count 52 = .ok (.aload_n 0, 1) := by decide +kernel
theorem dX11_count_53 : decode cX11_count 53 = .ok (.getfield 10, 3) := by decide +kernel
theorem dX11_count_56 : decode cX11_count 56 = .ok (.getfield 45, 3) := by decide +kernel
theorem dX11_count_59 : decode cX11_count 59 = .ok (.ireturn, 1) := by decide +kernel
theorem dX11_count_60 : decode cX11_count 60 = .ok (.aload_n 0, 1) := by decide +kernel
theorem dX11_count_61 : decode cX11_count 61 = .ok (.getfield 10, 3) := by decide +kernel
theorem dX11_count_64 : decode cX11_count 64 = .ok (.iconst (-1), 1) := by decide +kernel
theorem dX11_count_65 : decode cX11_count 65 = .ok (.invokevirtual 228, 3) := by decide +kernel
theorem dX11_count_68 : decode cX11_count 68 = .ok (.ireturn, 1) := by decide +kernel
theorem dX11_count_69 : decode cX11_count 69 = .ok (.aload_n 0, 1) := by decide +kernel
theorem dX11_count_70 : decode cX11_count 70 = .ok (.getfield 10, 3) := by decide +kernel
theorem dX11_count_73 : decode cX11_count 73 = .ok (.invokevirtual 231, 3) := by decide +kernel
theorem dX11_count_76 : decode cX11_count 76 = .ok (.ireturn, 1) := by decide +kernel
theorem dX11_count_77 : decode cX11_count 77 = .ok (.ldc 80, 2) := by decide +kernel
theorem dX11_count_79 : decode cX11_count 79 = .ok (.ireturn, 1) := by decide +kernel
theorem dX5_hold_0 : decode cX5_hold 0 = .ok (.aload_n 0, 1) := by decide +kernel
theorem dX5_hold_1 : decode cX5_hold 1 = .ok (.aload_n 1, 1) := by decide +kernel
theorem dX5_hold_2 : decode cX5_hold 2 = .ok (.putfield 19, 3) := by decide +kernel
theorem dX5_hold_5 : decode cX5_hold 5 = .ok (.aload_n 0, 1) := by decide +kernel
theorem dX5_hold_6 : decode cX5_hold 6 = .ok (.iload_n 2, 1) := by decide +kernel
theorem dX5_hold_7 : decode cX5_hold 7 = .ok (.putfield 27, 3) := by decide +kernel
theorem dX5_hold_10 : decode cX5_hold 10 = .ok (.aload_n 0, 1) := by decide +kernel
theorem dX5_hold_11 : decode cX5_hold 11 = .ok (.iconst (-1), 1) := by decide +kernel
theorem dX5_hold_12 : decode cX5_hold 12 = .ok (.putfield 11, 3) := by decide +kernel
theorem dX5_hold_15 : decode cX5_hold 15 = .ok (.return_, 1) := by decide +kernel
theorem dX11_keep_0 : decode cX11_keep 0 = .ok (.aload_n 0, 1) := by decide +kernel
theorem dX11_keep_1 : decode cX11_keep 1 = .ok (.iload_n 1, 1) := by decide +kernel
theorem dX11_keep_2 : decode cX11_keep 2 = .ok (.invokevirtual 124, 3) := by decide +kernel
theorem dX11_keep_5 : decode cX11_keep 5 = .ok (.astore 4, 2) := by decide +kernel
theorem dX11_keep_7 : decode cX11_keep 7 = .ok (.iload_n 2, 1) := by decide +kernel
theorem dX11_keep_8 : decode cX11_keep 8 = .ok (.iconst 1, 1) := by decide +kernel
theorem dX11_keep_9 : decode cX11_keep 9 = .ok (.if_icmp .ne 14, 3) := by decide +kernel
theorem dX11_keep_12 : decode cX11_keep 12 = .ok (.aload_n 0, 1) := by decide +kernel
theorem dX11_keep_13 : decode cX11_keep 13 = .ok (.getfield 10, 3) := by decide +kernel
theorem dX11_keep_16 : decode cX11_keep 16 = .ok (.iload_n 3, 1) := by decide +kernel
theorem dX11_keep_17 : decode cX11_keep 17 = .ok (.invokevirtual 76, 3) := by decide +kernel
theorem dX11_keep_20 : decode cX11_keep 20 = .ok (.goto 4, 3) := by decide +kernel
theorem dX11_keep_23 : decode cX11_keep 23 = .ok (.aconst_null, 1) := by decide +kernel
theorem dX11_keep_24 : decode cX11_keep 24 = .ok (.astore 5, 2) := by decide +kernel
theorem dX11_keep_26 : decode cX11_keep 26 = .ok (.aload 4, 2) := by decide +kernel
theorem dX11_keep_28 : decode cX11_keep 28 = .ok (.ifnull 22, 3) := by decide +kernel
theorem dX11_keep_31 : decode cX11_keep 31 = .ok (.iload_n 2, 1) := by decide +kernel
theorem dX11_keep_32 : decode cX11_keep 32 = .ok (.ifCond .lt 18, 3) := by decide +kernel
theorem dX11_keep_35 : decode cX11_keep 35 = .ok (.iload_n 2, 1) := by decide +kernel
theorem dX11_keep_36 : decode cX11_keep 36 = .ok (.iconst 1, 1) := by decide +kernel
theorem dX11_keep_37 : decode cX11_keep 37 = .ok (.if_icmp .gt 13, 3) := by decide +kernel
theorem dX11_keep_40 : decode cX11_keep 40 = .ok (.iload_n 2, 1) := by decide +kernel
theorem dX11_keep_41 : decode cX11_keep 41 = .ok (.iconst 1, 1) := by decide +kernel
theorem dX11_keep_42 : decode cX11_keep 42 = .ok (.if_icmp .ne 10, 3) := by decide +kernel
theorem dX11_keep_45 : decode cX11_keep 45 = .ok (.aload 5, 2) := by decide +kernel
theorem dX11_keep_47 : decode cX11_keep 47 = .ok (.ifnonnull 5, 3) := by decide +kernel
theorem dX11_keep_50 : decode cX11_keep 50 = .ok (.iconst (-1), 1) := by decide +kernel
theorem dX11_keep_51 : decode cX11_keep 51 = .ok (.ireturn, 1) := by decide +kernel
theorem dX11_keep_52 : decode cX11_keep 52 = .ok (.aload 4, 2) := by decide +kernel
theorem dX11_keep_54 : decode cX11_keep 54 = .ok (.aload 5, 2) := by decide +kernel
theorem dX11_keep_56 : decode cX11_keep 56 = .ok (.aload_n 0, 1) := by decide +kernel
theorem dX11_keep_57 : decode cX11_keep 57 = .ok (.getfield 10, 3) := by decide +kernel
theorem dX11_keep_60 : decode cX11_keep 60 = .ok (.getfield 69, 3) := by decide +kernel
theorem dX11_keep_63 : decode cX11_keep 63 = .ok (.iload_n 3, 1) := by decide +kernel
theorem dX11_keep_64 : decode cX11_keep 64 = .ok (.invokestatic 72, 3) := by decide +kernel
theorem dX11_keep_67 : decode cX11_keep 67 = .ok (.invokevirtual 234, 3) := by decide +kernel
theorem dX11_keep_70 : decode cX11_keep 70 = .ok (.iconst 0, 1) := by decide +kernel
theorem dX11_keep_71 : decode cX11_keep 71 = .ok (.ireturn, 1) := by decide +kernel
