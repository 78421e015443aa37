theorem dX3_becomeLike_0 : decode cX3_becomeLike 0 = .ok (.aload_n 0, 1) := by decide +kernel
theorem dX3_becomeLike_1 : decode cX3_becomeLike 1 = .ok (.aload_n 1, 1) := by decide +kernel
theorem dX3_becomeLike_2 : decode cX3_becomeLike 2 = .ok (.iconst 0, 1) := by decide +kernel
theorem dX3_becomeLike_3 : decode cX3_becomeLike 3 = .ok (.invokevirtual 184, 3) := by decide +kernel
theorem dX3_becomeLike_6 : decode cX3_becomeLike 6 = .ok (.aload_n 1, 1) := by decide +kernel
theorem dX3_becomeLike_7 : decode cX3_becomeLike 7 = .ok (.getfield 30, 3) := by decide +kernel
theorem dX3_becomeLike_10 : decode cX3_becomeLike 10 = .ok (.aload_n 0, 1) := by decide +kernel
theorem dX3_becomeLike_11 : decode cX3_becomeLike 11 = .ok (.getfield 30, 3) := by decide +kernel
theorem dX3_becomeLike_14 : decode cX3_becomeLike 14 = .ok (.invokestatic 176, 3) := by decide +kernel
theorem dX3_becomeLike_17 : decode cX3_becomeLike 17 = .ok (.aload_n 0, 1) := by decide +kernel
theorem dX3_becomeLike_18 : decode cX3_becomeLike 18 = .ok (.aload_n 1, 1) := by decide +kernel
theorem dX3_becomeLike_19 : decode cX3_becomeLike 19 = .ok (.getfield 53, 3) := by decide +kernel
theorem dX3_becomeLike_22 : decode cX3_becomeLike 22 = .ok (.putfield 53, 3) := by decide +kernel
theorem dX3_becomeLike_25 : decode cX3_becomeLike 25 = .ok (.iconst 0, 1) := by decide +kernel
theorem dX3_becomeLike_26 : decode cX3_becomeLike 26 = .ok (.istore_n 2, 1) := by decide +kernel
theorem dX3_becomeLike_27 : decode cX3_becomeLike 27 = .ok (.iload_n 2, 1) := by decide +kernel
theorem dX3_becomeLike_28 : decode cX3_becomeLike 28 = .ok (.aload_n 0, 1) := by decide +kernel
theorem dX3_becomeLike_29 : decode cX3_becomeLike 29 = .ok (.getfield 26, 3) := by decide +kernel
theorem dX3_becomeLike_32 : decode cX3_becomeLike 32 = .ok (.arraylength, 1) := by decide +kernel
theorem dX3_becomeLike_33 : decode cX3_becomeLike 33 = .ok (.if_icmp .ge 20, 3) := by decide +kernel
theorem dX3_becomeLike_36 : decode cX3_becomeLike 36 = .ok (.aload_n 0, 1) := by decide +kernel
theorem dX3_becomeLike_37 : decode cX3_becomeLike 37 = .ok (.getfield 26, 3) := by decide +kernel
theorem dX3_becomeLike_40 : decode cX3_becomeLike 40 = .ok (.iload_n 2, 1) := by decide +kernel
theorem dX3_becomeLike_41 : decode cX3_becomeLike 41 = .ok (.aload_n 1, 1) := by decide +kernel
theorem dX3_becomeLike_42 : decode cX3_becomeLike 42 = .ok (.iload_n 2, 1) := by decide +kernel
theorem dX3_becomeLike_43 : decode cX3_becomeLike 43 = .ok (.invokevirtual 187, 3) := by decide +kernel
theorem dX3_becomeLike_46 : decode cX3_becomeLike 46 = .ok (.aastore, 1) := by decide +kernel
theorem dX3_becomeLike_47 : decode cX3_becomeLike 47 = .ok (.iinc 2 1, 3) := by decide +kernel
theorem dX3_becomeLike_50 : decode cX3_becomeLike 50 = .ok (.goto (-23), 3) := by decide +kernel
theorem dX3_becomeLike_53 : decode cX3_becomeLike 53 = .ok (.aload_n 0, 1) := by decide +kernel
theorem dX3_becomeLike_54 : decode cX3_becomeLike 54 = .ok (.aload_n 1, 1) := by decide +kernel
theorem dX3_becomeLike_55 : decode cX3_becomeLike 55 = .ok (.getfield 119, 3) := by decide +kernel
theorem dX3_becomeLike_58 : decode cX3_becomeLike 58 = .ok (.putfield 119, 3) := by decide +kernel
theorem dX3_becomeLike_61 : decode cX3_becomeLike 61 = .ok (.aload_n 0, 1) := by decide +kernel
theorem dX3_becomeLike_62 : decode cX3_becomeLike 62 = .ok (.aload_n 1, 1) := by decide +kernel
theorem dX3_becomeLike_63 : decode cX3_becomeLike 63 = .ok (.getfield 126, 3) := by decide +kernel
theorem dX3_becomeLike_66 : decode cX3_becomeLike 66 = .ok (.putfield 126, 3) := by decide +kernel
theorem dX3_becomeLike_69 : decode cX3_becomeLike 69 = .ok (.aload_n 0, 1) := by decide +kernel
theorem dX3_becomeLike_70 : decode cX3_becomeLike 70 = .ok (.aload_n 1, 1) := by decide +kernel
theorem dX3_becomeLike_71 : decode cX3_becomeLike 71 = .ok (.getfield 97, 3) := by decide +kernel
theorem dX3_becomeLike_74 : decode cX3_becomeLike 74 = .ok (.putfield 97, 3) := by decide +kernel
theorem dX3_becomeLike_77 : decode cX3_becomeLike 77 = .ok (.aload_n 0, 1) := by decide +kernel
theorem dX3_becomeLike_78 : decode cX3_becomeLike 78 = .ok (.aload_n 1, 1) := by decide +kernel
theorem dX3_becomeLike_79 : decode cX3_becomeLike 79 = .ok (.getfield 104, 3) := by decide +kernel
theorem dX3_becomeLike_82 : decode cX3_becomeLike 82 = .ok (.putfield 104, 3) := by decide +kernel
theorem dX3_becomeLike_85 : decode cX3_becomeLike 85 = .ok (.aload_n 0, 1) := by decide +kernel
theorem dX3_becomeLike_86 : decode cX3_becomeLike 86 = .ok (.aload_n 1, 1) := by decide +kernel
theorem dX3_becomeLike_87 : decode cX3_becomeLike 87 = .ok (.getfield 70, 3) := by decide +kernel
theorem dX3_becomeLike_90 : decode cX3_becomeLike 90 = .ok (.putfield 70, 3) := by decide +kernel
theorem dX3_becomeLike_93 : decode cX3_becomeLike 93 = .ok (.aload_n 0, 1) := by decide +kernel
theorem dX3_becomeLike_94 : decode cX3_becomeLike 94 = .ok (.aload_n 1, 1) := by decide +kernel
theorem dX3_becomeLike_95 : decode cX3_becomeLike 95 = .ok (.getfield 107, 3) := by decide +kernel
theorem dX3_becomeLike_98 : decode cX3_becomeLike 98 = .ok (.putfield 107, 3) := by decide +kernel
theorem dX3_becomeLike_101 : decode cX3_becomeLike 101 = .ok (.aload_n 0, 1) := by decide +kernel
theorem dX3_becomeLike_102 : decode cX3_becomeLike 102 = .ok (.aload_n 1, 1) := by decide +kernel
theorem dX3_becomeLike_103 : decode cX3_becomeLike 103 = .ok (.getfield 83, 3) := by decide +kernel
theorem dX3_becomeLike_106 : decode cX3_becomeLike 106 = .ok (.putfield 83, 3) := by decide +kernel
theorem dX3_becomeLike_109 : decode cX3_becomeLike 109 = .ok (.aload_n 1, 1) := by decide +kernel
theorem dX3_becomeLike_110 : decode cX3_becomeLike 110 = .ok (.getfield 33, 3) := by decide +kernel
theorem dX3_becomeLike_113 : decode cX3_becomeLike 113 = .ok (.aload_n 0, 1) := by decide +kernel
theorem dX3_becomeLike_114 : decode cX3_becomeLike 114 = .ok (.getfield 33, 3) := by decide +kernel
theorem dX3_becomeLike_117 : decode cX3_becomeLike 117 = .ok (.invokestatic 176, 3) := by decide +kernel
theorem dX3_becomeLike_120 : decode cX3_becomeLike 120 = .ok (.aload_n 1, 1) := by decide +kernel
theorem dX3_becomeLike_121 : decode cX3_becomeLike 121 = .ok (.getfield 36, 3) := by decide +kernel
theorem dX3_becomeLike_124 : decode cX3_becomeLike 124 = .ok (.aload_n 0, 1) := by decide +kernel
theorem dX3_becomeLike_125 : decode cX3_becomeLike 125 = .ok (.getfield 36, 3) := by decide +kernel
theorem dX3_becomeLike_128 : decode cX3_becomeLike 128 = .ok (.invokestatic 176, 3) := by decide +kernel
theorem dX3_becomeLike_131 : decode cX3_becomeLike 131 = .ok (.aload_n 1, 1) := by decide +kernel
theorem dX3_becomeLike_132 : decode cX3_becomeLike 132 = .ok (.getfield 39, 3) := by decide +kernel
theorem dX3_becomeLike_135 : decode cX3_becomeLike 135 = .ok (.aload_n 0, 1) := by decide +kernel
theorem dX3_becomeLike_136 : decode cX3_becomeLike 136 = .ok (.getfield 39, 3) := by decide +kernel
theorem dX3_becomeLike_139 : decode cX3_becomeLike 139 = .ok (.invokestatic 176, 3) := by decide +kernel
theorem dX3_becomeLike_142 : decode cX3_becomeLike 142 = .ok (.aload_n 1, 1) := by decide +kernel
theorem dX3_becomeLike_143 : decode cX3_becomeLike 143 = .ok (.getfield 42, 3) := by decide +kernel
theorem dX3_becomeLike_146 : decode cX3_becomeLike 146 = .ok (.aload_n 0, 1) := by decide +kernel
theorem dX3_becomeLike_147 : decode cX3_becomeLike 147 = .ok (.getfield 42, 3) := by decide +kernel
theorem dX3_becomeLike_150 : decode cX3_becomeLike 150 = .ok (.invokestatic 176, 3) := by decide +kernel
theorem dX3_becomeLike_153 : decode cX3_becomeLike 153 = .ok (.return_, 1) := by decide +kernel
theorem dX11_image_0 : decode cX11_image 0 = .ok (.aload_n 0, 1) := by decide +kernel
theorem dX11_image_1 : decode cX11_image 1 = .ok (.getfield 19, 3) := by decide +kernel
theorem dX11_image_4 : decode cX11_image 4 = .ok (.aload_n 0, 1) := by decide +kernel
theorem dX11_image_5 : decode cX11_image 5 = .ok (.getfield 10, 3) := by decide +kernel
theorem dX11_image_8 : decode cX11_image 8 = .ok (.invokevirtual 221, 3) := by decide +kernel
theorem dX11_image_11 : decode cX11_image 11 = .ok (.aload_n 0, 1) := by decide +kernel
theorem dX11_image_12 : decode cX11_image 12 = .ok (.iconst 1, 1) := by decide +kernel
theorem dX11_image_13 : decode cX11_image 13 = .ok (.putfield 225, 3) := by decide +kernel
theorem dX11_image_16 : decode cX11_image 16 = .ok (.aload_n 0, 1) := by decide +kernel
theorem dX11_image_17 : decode cX11_image 17 = .ok (.getfield 10, 3) := by decide +kernel
theorem dX11_image_20 : decode cX11_image 20 = .ok (.getfield 48, 3) := by decide +kernel
theorem dX11_image_23 : decode cX11_image 23 = .ok (.ireturn, 1) := by decide +kernel
theorem dX11_restore_0 : decode cX11_restore 0 = .ok (.aload_n 0, 1) := by decide +kernel
theorem dX11_restore_1 : decode cX11_restore 1 = .ok (.getfield 225, 3) := by decide +kernel
theorem dX11_restore_4 : decode cX11_restore 4 = .ok (.ifCond .ne 6, 3) := by decide +kernel
theorem dX11_restore_7 : decode cX11_restore 7 = .ok (.bipush (-3), 2) := by decide +kernel
theorem dX11_restore_9 : decode cX11_restore 9 = .ok (.ireturn, 1) := by decide +kernel
theorem dX11_restore_10 : decode cX11_restore 10 = .ok (.aload_n 0, 1) := by decide +kernel
theorem dX11_restore_11 : decode cX11_restore 11 = .ok (.getfield 10, 3) := by decide +kernel
theorem dX11_restore_14 : decode cX11_restore 14 = .ok (.aload_n 0, 1) := by decide +kernel
theorem dX11_restore_15 : decode cX11_restore 15 = .ok (.getfield 19, 3) := by decide +kernel
theorem dX11_restore_18 : decode cX11_restore 18 = .ok (.invokevirtual 221, 3) := by decide +kernel
theorem dX11_restore_21 : decode cX11_restore 21 = .ok (.aload_n 0, 1) := by decide +kernel
theorem dX11_restore_22 : decode cX11_restore 22 = .ok (.getfield 10, 3) := by decide +kernel
theorem dX11_restore_25 : decode cX11_restore 25 = .ok (.getfield 48, 3) := by decide +kernel
theorem dX11_restore_28 : decode cX11_restore 28 = .ok (.ireturn, 1) := by decide +kernel
theorem dX11_count_0 : decode cX11_count 0 = .ok (.iload_n 1, 1) := by decide +kernel
theorem dX11_count_1 : decode cX11_count 1 = .ok (.tableswitch 76 0 4 #[35, 43, 51, 59, 68], 35) := by decide +kernel
theorem dX11_count_36 : decode cX11_count 36 = .ok (.aload_n 0, 1) := by decide +kernel
theorem dX11_count_37 : decode cX11_count 37 = .ok (.getfield 10, 3) := by decide +kernel
theorem dX11_count_40 : decode cX11_count 40 = .ok (.getfield 29, 3) := by decide +kernel
theorem dX11_count_43 : decode cX11_count 43 = .ok (.ireturn, 1) := by decide +kernel
theorem dX11_count_44 : decode cX11_count 44 = .ok (.aload_n 0, 1) := by decide +kernel
theorem dX11_count_45 : decode cX11_count 45 = .ok (.getfield 10, 3) := by decide +kernel
theorem dX11_count_48 : decode cX11_count 48 = .ok (.getfield 48, 3) := by decide +kernel
theorem dX11_count_51 : decode cX11_count 51 = .ok (.ireturn, 1) := by decide +kernel
theorem dX11_count_52 : decode cX11_count 52 = .ok (.aload_n 0, 1) := by decide +kernel
theorem dX11_count_53 : decode cX11_count 53 = .ok (.getfield 10, 3) := by decide +kernel
theorem dX11_count_56 : decode cX11_count 56 = .ok (.getfield 45, 3) := by decide +kernel
theorem dX11_count_59 : decode cX11_count 59 = .ok (.ireturn, 1) := by decide +kernel
theorem dX11_count_60 : decode cX11_count 60 = .ok (.aload_n 0, 1) := by decide +kernel
theorem dX11_count_61 : decode cX11_count 61 = .ok (.getfield 10, 3) := by decide +kernel
theorem dX11_count_64 : decode cX11_count 64 = .ok (.iconst (-1), 1) := by decide +kernel
theorem dX11_count_65 : decode cX11_count 65 = .ok (.invokevirtual 228, 3) := by decide +kernel
theorem dX11_count_68 : decode cX11_count 68 = .ok (.ireturn, 1) := by decide +kernel
theorem dX11_count_69 : decode cX11_count 69 = .ok (.aload_n 0, 1) := by decide +kernel
theorem dX11_count_70 : decode cX11_count 70 = .ok (.getfield 10, 3) := by decide +kernel
theorem dX11_count_73 : decode cX11_count 73 = .ok (.invokevirtual 231, 3) := by decide +kernel
theorem dX11_count_76 : decode cX11_count 76 = .ok (.ireturn, 1) := by decide +kernel
theorem dX11_count_77 : decode cX11_count 77 = .ok (.ldc 80, 2) := by decide +kernel
theorem dX11_count_79 : decode cX11_count 79 = .ok (.ireturn, 1) := by decide +kernel
theorem dX5_hold_0 : decode cX5_hold 0 = .ok (.aload_n 0, 1) := by decide +kernel
theorem dX5_hold_1 : decode cX5_hold 1 = .ok (.aload_n 1, 1) := by decide +kernel
theorem dX5_hold_2 : decode cX5_hold 2 = .ok (.putfield 19, 3) := by decide +kernel
theorem dX5_hold_5 : decode cX5_hold 5 = .ok (.aload_n 0, 1) := by decide +kernel
theorem dX5_hold_6 : decode cX5_hold 6 = .ok (.iload_n 2, 1) := by decide +kernel
theorem dX5_hold_7 : decode cX5_hold 7 = .ok (.putfield 27, 3) := by decide +kernel
theorem dX5_hold_10 : decode cX5_hold 10 = .ok (.aload_n 0, 1) := by decide +kernel
theorem dX5_hold_11 : decode cX5_hold 11 = .ok (.iconst (-1), 1) := by decide +kernel
theorem dX5_hold_12 : decode cX5_hold 12 = .ok (.putfield 11, 3) := by decide +kernel
theorem dX5_hold_15 : decode cX5_hold 15 = .ok (.return_, 1) := by decide +kernel
theorem dX11_keep_0 : decode cX11_keep 0 = .ok (.aload_n 0, 1) := by decide +kernel
theorem dX11_keep_1 : decode cX11_keep 1 = .ok (.iload_n 1, 1) := by decide +kernel
theorem dX11_keep_2 : decode cX11_keep 2 = .ok (.invokevirtual 124, 3) := by decide +kernel
theorem dX11_keep_5 : decode cX11_keep 5 = .ok (.astore 4, 2) := by decide +kernel
theorem dX11_keep_7 : decode cX11_keep 7 = .ok (.iload_n 2, 1) := by decide +kernel
theorem dX11_keep_8 : decode cX11_keep 8 = .ok (.iconst 1, 1) := by decide +kernel
theorem dX11_keep_9 : decode cX11_keep 9 = .ok (.if_icmp .ne 14, 3) := by decide +kernel
theorem dX11_keep_12 : decode cX11_keep 12 = .ok (.aload_n 0, 1) := by decide +kernel
theorem dX11_keep_13 : decode cX11_keep 13 = .ok (.getfield 10, 3) := by decide +kernel
theorem dX11_keep_16 : decode cX11_keep 16 = .ok (.iload_n 3, 1) := by decide +kernel
theorem dX11_keep_17 : decode cX11_keep 17 = .ok (.invokevirtual 76, 3) := by decide +kernel
theorem dX11_keep_20 : decode cX11_keep 20 = .ok (.goto 4, 3) := by decide +kernel
theorem dX11_keep_23 : decode cX11_keep 23 = .ok (.aconst_null, 1) := by decide +kernel
theorem dX11_keep_24 : decode cX11_keep 24 = .ok (.astore 5, 2) := by decide +kernel
theorem dX11_keep_26 : decode cX11_keep 26 = .ok (.aload 4, 2) := by decide +kernel
theorem dX11_keep_28 : decode cX11_keep 28 = .ok (.ifnull 22, 3) := by decide +kernel
theorem dX11_keep_31 : decode cX11_keep 31 = .ok (.iload_n 2, 1) := by decide +kernel
theorem dX11_keep_32 : decode cX11_keep 32 = .ok (.ifCond .lt 18, 3) := by decide +kernel
theorem dX11_keep_35 : decode cX11_keep 35 = .ok (.iload_n 2, 1) := by decide +kernel
theorem dX11_keep_36 : decode cX11_keep 36 = .ok (.iconst 1, 1) := by decide +kernel
theorem dX11_keep_37 : decode cX11_keep 37 = .ok (.if_icmp .gt 13, 3) := by decide +kernel
theorem dX11_keep_40 : decode cX11_keep 40 = .ok (.iload_n 2, 1) := by decide +kernel
theorem dX11_keep_41 : decode cX11_keep 41 = .ok (.iconst 1, 1) := by decide +kernel
theorem dX11_keep_42 : decode cX11_keep 42 = .ok (.if_icmp .ne 10, 3) := by decide +kernel
theorem dX11_keep_45 : decode cX11_keep 45 = .ok (.aload 5, 2) := by decide +kernel
theorem dX11_keep_47 : decode cX11_keep 47 = .ok (.ifnonnull 5, 3) := by decide +kernel
theorem dX11_keep_50 : decode cX11_keep 50 = .ok (.iconst (-1), 1) := by decide +kernel
theorem dX11_keep_51 : decode cX11_keep 51 = .ok (.ireturn, 1) := by decide +kernel
theorem dX11_keep_52 : decode cX11_keep 52 = .ok (.aload 4, 2) := by decide +kernel
theorem dX11_keep_54 : decode cX11_keep 54 = .ok (.aload 5, 2) := by decide +kernel
theorem dX11_keep_56 : decode cX11_keep 56 = .ok (.aload_n 0, 1) := by decide +kernel
theorem dX11_keep_57 : decode cX11_keep 57 = .ok (.getfield 10, 3) := by decide +kernel
theorem dX11_keep_60 : decode cX11_keep 60 = .ok (.getfield 69, 3) := by decide +kernel
theorem dX11_keep_63 : decode cX11_keep 63 = .ok (.iload_n 3, 1) := by decide +kernel
theorem dX11_keep_64 : decode cX11_keep 64 = .ok (.invokestatic 72, 3) := by decide +kernel
theorem dX11_keep_67 : decode cX11_keep 67 = .ok (.invokevirtual 234, 3) := by decide +kernel
theorem dX11_keep_70 : decode cX11_keep 70 = .ok (.iconst 0, 1) := by decide +kernel
theorem dX11_keep_71 : decode cX11_keep 71 = .ok (.ireturn, 1) := by decide +kernel
theorem dX5_holdRow_0 : decode cX5_holdRow 0 = .ok (.aload_n 0, 1) := by decide +kernel
theorem dX5_holdRow_1 : decode cX5_holdRow 1 = .ok (.aconst_null, 1) := by decide +kernel
theorem dX5_holdRow_2 : decode cX5_holdRow 2 = .ok (.putfield 19, 3) := by decide +kernel
theorem dX5_holdRow_5 : decode cX5_holdRow 5 = .ok (.aload_n 0, 1) := by decide +kernel
theorem dX5_holdRow_6 : decode cX5_holdRow 6 = .ok (.iload_n 1, 1) := by decide +kernel
theorem dX5_holdRow_7 : decode cX5_holdRow 7 = .ok (.putfield 11, 3) := by decide +kernel
theorem dX5_holdRow_10 : decode cX5_holdRow 10 = .ok (.aload_n 0, 1) := by decide +kernel
theorem dX5_holdRow_11 : decode cX5_holdRow 11 = .ok (.iload_n 2, 1) := by decide +kernel
theorem dX5_holdRow_12 : decode cX5_holdRow 12 = .ok (.putfield 30, 3) := by decide +kernel
theorem dX5_holdRow_15 : decode cX5_holdRow 15 = .ok (.iconst 0, 1) := by decide +kernel
theorem dX5_holdRow_16 : decode cX5_holdRow 16 = .ok (.istore_n 3, 1) := by decide +kernel
theorem dX5_holdRow_17 : decode cX5_holdRow 17 = .ok (.iload_n 3, 1) := by decide +kernel
theorem dX5_holdRow_18 : decode cX5_holdRow 18 = .ok (.aload_n 0, 1) := by decide +kernel
theorem dX5_holdRow_19 : decode cX5_holdRow 19 = .ok (.getfield 15, 3) := by decide +kernel
theorem dX5_holdRow_22 : decode cX5_holdRow 22 = .ok (.arraylength, 1) := by decide +kernel
theorem dX5_holdRow_23 : decode cX5_holdRow 23 = .ok (.if_icmp .ge 16, 3) := by decide +kernel
theorem dX5_holdRow_26 : decode cX5_holdRow 26 = .ok (.aload_n 0, 1) := by decide +kernel
theorem dX5_holdRow_27 : decode cX5_holdRow 27 = .ok (.getfield 15, 3) := by decide +kernel
theorem dX5_holdRow_30 : decode cX5_holdRow 30 = .ok (.iload_n 3, 1) := by decide +kernel
theorem dX5_holdRow_31 : decode cX5_holdRow 31 = .ok (.iconst 0, 1) := by decide +kernel
theorem dX5_holdRow_32 : decode cX5_holdRow 32 = .ok (.iastore, 1) := by decide +kernel
theorem dX5_holdRow_33 : decode cX5_holdRow 33 = .ok (.iinc 3 1, 3) := by decide +kernel
theorem dX5_holdRow_36 : decode cX5_holdRow 36 = .ok (.goto (-19), 3) := by decide +kernel
theorem dX5_holdRow_39 : decode cX5_holdRow 39 = .ok (.return_, 1) := by decide +kernel
theorem dX11_row_0 : decode cX11_row 0 = .ok (.aload_n 0, 1) := by decide +kernel
theorem dX11_row_1 : decode cX11_row 1 = .ok (.iload_n 1, 1) := by decide +kernel
theorem dX11_row_2 : decode cX11_row 2 = .ok (.invokevirtual 124, 3) := by decide +kernel
theorem dX11_row_5 : decode cX11_row 5 = .ok (.astore 4, 2) := by decide +kernel
theorem dX11_row_7 : decode cX11_row 7 = .ok (.aload 4, 2) := by decide +kernel
theorem dX11_row_9 : decode cX11_row 9 = .ok (.ifnull 18, 3) := by decide +kernel
theorem dX11_row_12 : decode cX11_row 12 = .ok (.iload_n 2, 1) := by decide +kernel
theorem dX11_row_13 : decode cX11_row 13 = .ok (.ifCond .lt 14, 3) := by decide +kernel
theorem dX11_row_16 : decode cX11_row 16 = .ok (.iload_n 2, 1) := by decide +kernel
theorem dX11_row_17 : decode cX11_row 17 = .ok (.iconst 2, 1) := by decide +kernel
theorem dX11_row_18 : decode cX11_row 18 = .ok (.if_icmp .gt 9, 3) := by decide +kernel
theorem dX11_row_21 : decode cX11_row 21 = .ok (.iload_n 3, 1) := by decide +kernel
theorem dX11_row_22 : decode cX11_row 22 = .ok (.bipush 100, 2) := by decide +kernel
theorem dX11_row_24 : decode cX11_row 24 = .ok (.if_icmp .le 5, 3) := by decide +kernel
theorem dX11_row_27 : decode cX11_row 27 = .ok (.iconst (-1), 1) := by decide +kernel
theorem dX11_row_28 : decode cX11_row 28 = .ok (.ireturn, 1) := by decide +kernel
theorem dX11_row_29 : decode cX11_row 29 = .ok (.iload_n 3, 1) := by decide +kernel
theorem dX11_row_30 : decode cX11_row 30 = .ok (.ifCond .ge 6, 3) := by decide +kernel
theorem dX11_row_33 : decode cX11_row 33 = .ok (.bipush (-14), 2) := by decide +kernel
theorem dX11_row_35 : decode cX11_row 35 = .ok (.ireturn, 1) := by decide +kernel
theorem dX11_row_36 : decode cX11_row 36 = .ok (.aload 4, 2) := by decide +kernel
theorem dX11_row_38 : decode cX11_row 38 = .ok (.iload_n 2, 1) := by decide +kernel
theorem dX11_row_39 : decode cX11_row 39 = .ok (.iload_n 3, 1) := by decide +kernel
theorem dX11_row_40 : decode cX11_row 40 = .ok (.invokevirtual 237, 3) := by decide +kernel
theorem dX11_row_43 : decode cX11_row 43 = .ok (.iconst 0, 1) := by decide +kernel
theorem dX11_row_44 : decode cX11_row 44 = .ok (.ireturn, 1) := by decide +kernel
theorem dX5_hasPlaces_0 : decode cX5_hasPlaces 0 = .ok (.iload_n 1, 1) := by decide +kernel
theorem dX5_hasPlaces_1 : decode cX5_hasPlaces 1 = .ok (.ifCond .lt 29, 3) := by decide +kernel
theorem dX5_hasPlaces_4 : decode cX5_hasPlaces 4 = .ok (.iload_n 2, 1) := by decide +kernel
theorem dX5_hasPlaces_5 : decode cX5_hasPlaces 5 = .ok (.ifCond .lt 25, 3) := by decide +kernel
theorem dX5_hasPlaces_8 : decode cX5_hasPlaces 8 = .ok (.iload_n 2, 1) := by decide +kernel
theorem dX5_hasPlaces_9 : decode cX5_hasPlaces 9 = .ok (.aload_n 0, 1) := by decide +kernel
theorem dX5_hasPlaces_10 : decode cX5_hasPlaces 10 = .ok (.getfield 30, 3) := by decide +kernel
theorem dX5_hasPlaces_13 : decode cX5_hasPlaces 13 = .ok (.if_icmp .gt 17, 3) := by decide +kernel
theorem dX5_hasPlaces_16 : decode cX5_hasPlaces 16 = .ok (.iload_n 1, 1) := by decide +kernel
theorem dX5_hasPlaces_17 : decode cX5_hasPlaces 17 = .ok (.aload_n 0, 1) := by decide +kernel
theorem dX5_hasPlaces_18 : decode cX5_hasPlaces 18 = .ok (.getfield 30, 3) := by decide +kernel
theorem dX5_hasPlaces_21 : decode cX5_hasPlaces 21 = .ok (.iload_n 2, 1) := by decide +kernel
theorem dX5_hasPlaces_22 : decode cX5_hasPlaces 22 = .ok (.isub, 1) := by decide +kernel
theorem dX5_hasPlaces_23 : decode cX5_hasPlaces 23 = .ok (.if_icmp .gt 7, 3) := by decide +kernel
theorem dX5_hasPlaces_26 : decode cX5_hasPlaces 26 = .ok (.iconst 1, 1) := by decide +kernel
theorem dX5_hasPlaces_27 : decode cX5_hasPlaces 27 = .ok (.goto 4, 3) := by decide +kernel
theorem dX5_hasPlaces_30 : decode cX5_hasPlaces 30 = .ok (.iconst 0, 1) := by decide +kernel
theorem dX5_hasPlaces_31 : decode cX5_hasPlaces 31 = .ok (.ireturn, 1) := by decide +kernel
theorem dX5_lowestBits_0 : decode cX5_lowestBits 0 = .ok (.aload_n 0, 1) := by decide +kernel
theorem dX5_lowestBits_1 : decode cX5_lowestBits 1 = .ok (.getfield 11, 3) := by decide +kernel
theorem dX5_lowestBits_4 : decode cX5_lowestBits 4 = .ok (.lookupswitch 34 #[(0, 28), (1, 31)], 28) := by decide +kernel
theorem dX5_lowestBits_32 : decode cX5_lowestBits 32 = .ok (.iload_n 1, 1) := by decide +kernel
theorem dX5_lowestBits_33 : decode cX5_lowestBits 33 = .ok (.i2b, 1) := by decide +kernel
theorem dX5_lowestBits_34 : decode cX5_lowestBits 34 = .ok (.ireturn, 1) := by decide +kernel
theorem dX5_lowestBits_35 : decode cX5_lowestBits 35 = .ok (.iload_n 1, 1) := by decide +kernel
theorem dX5_lowestBits_36 : decode cX5_lowestBits 36 = .ok (.i2s, 1) := by decide +kernel
theorem dX5_lowestBits_37 : decode cX5_lowestBits 37 = .ok (.ireturn, 1) := by decide +kernel
theorem dX5_lowestBits_38 : decode cX5_lowestBits 38 = .ok (.iload_n 1, 1) := by decide +kernel
theorem dX5_lowestBits_39 : decode cX5_lowestBits 39 = .ok (.ireturn, 1) := by decide +kernel
