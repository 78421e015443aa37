theorem dX12_sum_0 : decode cX12_sum 0 = .ok (.aload_n 0, 1) := by decide +kernel
theorem dX12_sum_1 : decode cX12_sum 1 = .ok (.invokevirtual 152, 3) := by decide +kernel
theorem dX12_sum_4 : decode cX12_sum 4 = .ok (.istore_n 1, 1) := by decide +kernel
theorem dX12_sum_5 : decode cX12_sum 5 = .ok (.aload_n 0, 1) := by decide +kernel
theorem dX12_sum_6 : decode cX12_sum 6 = .ok (.invokevirtual 114, 3) := by decide +kernel
theorem dX12_sum_9 : decode cX12_sum 9 = .ok (.bipush 43, 2) := by decide +kernel
theorem dX12_sum_11 : decode cX12_sum 11 = .ok (.if_icmp .eq 12, 3) := by decide +kernel
theorem dX12_sum_14 : decode cX12_sum 14 = .ok (.aload_n 0, 1) := by decide +kernel
theorem dX12_sum_15 : decode cX12_sum 15 = .ok (.invokevirtual 114, 3) := by decide +kernel
theorem dX12_sum_18 : decode cX12_sum 18 = .ok (.bipush 45, 2) := by decide +kernel
theorem dX12_sum_20 : decode cX12_sum 20 = .ok (.if_icmp .ne 42, 3) := by decide +kernel
theorem dX12_sum_23 : decode cX12_sum 23 = .ok (.aload_n 0, 1) := by decide +kernel
theorem dX12_sum_24 : decode cX12_sum 24 = .ok (.invokevirtual 114, 3) := by decide +kernel
theorem dX12_sum_27 : decode cX12_sum 27 = .ok (.istore_n 2, 1) := by decide +kernel
theorem dX12_sum_28 : decode cX12_sum 28 = .ok (.aload_n 0, 1) := by decide +kernel
theorem dX12_sum_29 : decode cX12_sum 29 = .ok (.dup, 1) := by decide +kernel
theorem dX12_sum_30 : decode cX12_sum 30 = .ok (.getfield 105, 3) := by decide +kernel
theorem dX12_sum_33 : decode cX12_sum 33 = .ok (.iconst 1, 1) := by decide +kernel
theorem dX12_sum_34 : decode cX12_sum 34 = .ok (.iadd, 1) := by decide +kernel
theorem dX12_sum_35 : decode cX12_sum 35 = .ok (.putfield 105, 3) := by decide +kernel
theorem dX12_sum_38 : decode cX12_sum 38 = .ok (.aload_n 0, 1) := by decide +kernel
theorem dX12_sum_39 : decode cX12_sum 39 = .ok (.invokevirtual 152, 3) := by decide +kernel
theorem dX12_sum_42 : decode cX12_sum 42 = .ok (.istore_n 3, 1) := by decide +kernel
theorem dX12_sum_43 : decode cX12_sum 43 = .ok (.iload_n 2, 1) := by decide +kernel
theorem dX12_sum_44 : decode cX12_sum 44 = .ok (.bipush 43, 2) := by decide +kernel
theorem dX12_sum_46 : decode cX12_sum 46 = .ok (.if_icmp .ne 9, 3) := by decide +kernel
theorem dX12_sum_49 : decode cX12_sum 49 = .ok (.iload_n 1, 1) := by decide +kernel
theorem dX12_sum_50 : decode cX12_sum 50 = .ok (.iload_n 3, 1) := by decide +kernel
theorem dX12_sum_51 : decode cX12_sum 51 = .ok (.iadd, 1) := by decide +kernel
theorem dX12_sum_52 : decode cX12_sum 52 = .ok (.goto 6, 3) := by decide +kernel
theorem dX12_sum_55 : decode cX12_sum 55 = .ok (.iload_n 1, 1) := by decide +kernel
theorem dX12_sum_56 : decode cX12_sum 56 = .ok (.iload_n 3, 1) := by decide +kernel
theorem dX12_sum_57 : decode cX12_sum 57 = .ok (.isub, 1) := by decide +kernel
theorem dX12_sum_58 : decode cX12_sum 58 = .ok (.istore_n 1, 1) := by decide +kernel
theorem dX12_sum_59 : decode cX12_sum 59 = .ok (.goto (-54), 3) := by decide +kernel
theorem dX12_sum_62 : decode cX12_sum 62 = .ok (.iload_n 1, 1) := by decide +kernel
theorem dX12_sum_63 : decode cX12_sum 63 = .ok (.ireturn, 1) := by decide +kernel
theorem dX12_speaksOf_0 : decode cX12_speaksOf 0 = .ok (.iconst 0, 1) := by decide +kernel
theorem dX12_speaksOf_1 : decode cX12_speaksOf 1 = .ok (.istore_n 2, 1) := by decide +kernel
theorem dX12_speaksOf_2 : decode cX12_speaksOf 2 = .ok (.iconst 0, 1) := by decide +kernel
theorem dX12_speaksOf_3 : decode cX12_speaksOf 3 = .ok (.istore_n 3, 1) := by decide +kernel
theorem dX12_speaksOf_4 : decode cX12_speaksOf 4 = .ok (.iload_n 3, 1) := by decide +kernel
theorem dX12_speaksOf_5 : decode cX12_speaksOf 5 = .ok (.aload_n 0, 1) := by decide +kernel
theorem dX12_speaksOf_6 : decode cX12_speaksOf 6 = .ok (.getfield 9, 3) := by decide +kernel
theorem dX12_speaksOf_9 : decode cX12_speaksOf 9 = .ok (.iconst 0, 1) := by decide +kernel
theorem dX12_speaksOf_10 : decode cX12_speaksOf 10 = .ok (.iaload, 1) := by decide +kernel
theorem dX12_speaksOf_11 : decode cX12_speaksOf 11 = .ok (.if_icmp .ge 27, 3) := by decide +kernel
theorem dX12_speaksOf_14 : decode cX12_speaksOf 14 = .ok (.iload_n 2, 1) := by decide +kernel
theorem dX12_speaksOf_15 : decode cX12_speaksOf 15 = .ok (.iload_n 1, 1) := by decide +kernel
theorem dX12_speaksOf_16 : decode cX12_speaksOf 16 = .ok (.iload_n 3, 1) := by decide +kernel
theorem dX12_speaksOf_17 : decode cX12_speaksOf 17 = .ok (.ishr, 1) := by decide +kernel
theorem dX12_speaksOf_18 : decode cX12_speaksOf 18 = .ok (.iconst 1, 1) := by decide +kernel
theorem dX12_speaksOf_19 : decode cX12_speaksOf 19 = .ok (.iand, 1) := by decide +kernel
theorem dX12_speaksOf_20 : decode cX12_speaksOf 20 = .ok (.aload_n 0, 1) := by decide +kernel
theorem dX12_speaksOf_21 : decode cX12_speaksOf 21 = .ok (.getfield 9, 3) := by decide +kernel
theorem dX12_speaksOf_24 : decode cX12_speaksOf 24 = .ok (.bipush 7, 2) := by decide +kernel
theorem dX12_speaksOf_26 : decode cX12_speaksOf 26 = .ok (.iload_n 3, 1) := by decide +kernel
theorem dX12_speaksOf_27 : decode cX12_speaksOf 27 = .ok (.iadd, 1) := by decide +kernel
theorem dX12_speaksOf_28 : decode cX12_speaksOf 28 = .ok (.iaload, 1) := by decide +kernel
theorem dX12_speaksOf_29 : decode cX12_speaksOf 29 = .ok (.imul, 1) := by decide +kernel
theorem dX12_speaksOf_30 : decode cX12_speaksOf 30 = .ok (.iadd, 1) := by decide +kernel
theorem dX12_speaksOf_31 : decode cX12_speaksOf 31 = .ok (.istore_n 2, 1) := by decide +kernel
theorem dX12_speaksOf_32 : decode cX12_speaksOf 32 = .ok (.iinc 3 1, 3) := by decide +kernel
theorem dX12_speaksOf_35 : decode cX12_speaksOf 35 = .ok (.goto (-31), 3) := by decide +kernel
theorem dX12_speaksOf_38 : decode cX12_speaksOf 38 = .ok (.iload_n 2, 1) := by decide +kernel
theorem dX12_speaksOf_39 : decode cX12_speaksOf 39 = .ok (.ireturn, 1) := by decide +kernel
theorem dX12_leansBy_0 : decode cX12_leansBy 0 = .ok (.aload_n 0, 1) := by decide +kernel
theorem dX12_leansBy_1 : decode cX12_leansBy 1 = .ok (.aload_n 0, 1) := by decide +kernel
theorem dX12_leansBy_2 : decode cX12_leansBy 2 = .ok (.iload_n 2, 1) := by decide +kernel
theorem dX12_leansBy_3 : decode cX12_leansBy 3 = .ok (.invokevirtual 176, 3) := by decide +kernel
theorem dX12_leansBy_6 : decode cX12_leansBy 6 = .ok (.putfield 161, 3) := by decide +kernel
theorem dX12_leansBy_9 : decode cX12_leansBy 9 = .ok (.aload_n 0, 1) := by decide +kernel
theorem dX12_leansBy_10 : decode cX12_leansBy 10 = .ok (.iload_n 3, 1) := by decide +kernel
theorem dX12_leansBy_11 : decode cX12_leansBy 11 = .ok (.putfield 164, 3) := by decide +kernel
theorem dX12_leansBy_14 : decode cX12_leansBy 14 = .ok (.aload_n 0, 1) := by decide +kernel
theorem dX12_leansBy_15 : decode cX12_leansBy 15 = .ok (.iload_n 1, 1) := by decide +kernel
theorem dX12_leansBy_16 : decode cX12_leansBy 16 = .ok (.iconst 5, 1) := by decide +kernel
theorem dX12_leansBy_17 : decode cX12_leansBy 17 = .ok (.invokevirtual 98, 3) := by decide +kernel
theorem dX12_leansBy_20 : decode cX12_leansBy 20 = .ok (.istore 4, 2) := by decide +kernel
theorem dX12_leansBy_22 : decode cX12_leansBy 22 = .ok (.iload 4, 2) := by decide +kernel
theorem dX12_leansBy_24 : decode cX12_leansBy 24 = .ok (.ifCond .ge 13, 3) := by decide +kernel
theorem dX12_leansBy_27 : decode cX12_leansBy 27 = .ok (.aload_n 0, 1) := by decide +kernel
theorem dX12_leansBy_28 : decode cX12_leansBy 28 = .ok (.getfield 161, 3) := by decide +kernel
theorem dX12_leansBy_31 : decode cX12_leansBy 31 = .ok (.aload_n 0, 1) := by decide +kernel
theorem dX12_leansBy_32 : decode cX12_leansBy 32 = .ok (.getfield 164, 3) := by decide +kernel
theorem dX12_leansBy_35 : decode cX12_leansBy 35 = .ok (.iadd, 1) := by decide +kernel
theorem dX12_leansBy_36 : decode cX12_leansBy 36 = .ok (.ireturn, 1) := by decide +kernel
theorem dX12_leansBy_37 : decode cX12_leansBy 37 = .ok (.aload_n 0, 1) := by decide +kernel
theorem dX12_leansBy_38 : decode cX12_leansBy 38 = .ok (.aload_n 0, 1) := by decide +kernel
theorem dX12_leansBy_39 : decode cX12_leansBy 39 = .ok (.getfield 16, 3) := by decide +kernel
theorem dX12_leansBy_42 : decode cX12_leansBy 42 = .ok (.putfield 49, 3) := by decide +kernel
theorem dX12_leansBy_45 : decode cX12_leansBy 45 = .ok (.aload_n 0, 1) := by decide +kernel
theorem dX12_leansBy_46 : decode cX12_leansBy 46 = .ok (.bipush 100, 2) := by decide +kernel
theorem dX12_leansBy_48 : decode cX12_leansBy 48 = .ok (.iload 4, 2) := by decide +kernel
theorem dX12_leansBy_50 : decode cX12_leansBy 50 = .ok (.imul, 1) := by decide +kernel
theorem dX12_leansBy_51 : decode cX12_leansBy 51 = .ok (.putfield 111, 3) := by decide +kernel
theorem dX12_leansBy_54 : decode cX12_leansBy 54 = .ok (.aload_n 0, 1) := by decide +kernel
theorem dX12_leansBy_55 : decode cX12_leansBy 55 = .ok (.aload_n 0, 1) := by decide +kernel
theorem dX12_leansBy_56 : decode cX12_leansBy 56 = .ok (.getfield 9, 3) := by decide +kernel
theorem dX12_leansBy_59 : decode cX12_leansBy 59 = .ok (.bipush 103, 2) := by decide +kernel
theorem dX12_leansBy_61 : decode cX12_leansBy 61 = .ok (.iload 4, 2) := by decide +kernel
theorem dX12_leansBy_63 : decode cX12_leansBy 63 = .ok (.iadd, 1) := by decide +kernel
theorem dX12_leansBy_64 : decode cX12_leansBy 64 = .ok (.iaload, 1) := by decide +kernel
theorem dX12_leansBy_65 : decode cX12_leansBy 65 = .ok (.putfield 108, 3) := by decide +kernel
theorem dX12_leansBy_68 : decode cX12_leansBy 68 = .ok (.aload_n 0, 1) := by decide +kernel
theorem dX12_leansBy_69 : decode cX12_leansBy 69 = .ok (.iconst 0, 1) := by decide +kernel
theorem dX12_leansBy_70 : decode cX12_leansBy 70 = .ok (.putfield 105, 3) := by decide +kernel
theorem dX12_leansBy_73 : decode cX12_leansBy 73 = .ok (.aload_n 0, 1) := by decide +kernel
theorem dX12_leansBy_74 : decode cX12_leansBy 74 = .ok (.invokevirtual 158, 3) := by decide +kernel
theorem dX12_leansBy_77 : decode cX12_leansBy 77 = .ok (.ireturn, 1) := by decide +kernel
theorem dX12_sees_0 : decode cX12_sees 0 = .ok (.aload_n 0, 1) := by decide +kernel
theorem dX12_sees_1 : decode cX12_sees 1 = .ok (.iload_n 1, 1) := by decide +kernel
theorem dX12_sees_2 : decode cX12_sees 2 = .ok (.putfield 167, 3) := by decide +kernel
theorem dX12_sees_5 : decode cX12_sees 5 = .ok (.aload_n 0, 1) := by decide +kernel
theorem dX12_sees_6 : decode cX12_sees 6 = .ok (.iload_n 2, 1) := by decide +kernel
theorem dX12_sees_7 : decode cX12_sees 7 = .ok (.putfield 170, 3) := by decide +kernel
theorem dX12_sees_10 : decode cX12_sees 10 = .ok (.aload_n 0, 1) := by decide +kernel
theorem dX12_sees_11 : decode cX12_sees 11 = .ok (.iload_n 3, 1) := by decide +kernel
theorem dX12_sees_12 : decode cX12_sees 12 = .ok (.putfield 173, 3) := by decide +kernel
theorem dX12_sees_15 : decode cX12_sees 15 = .ok (.return_, 1) := by decide +kernel
theorem dX12_leans_0 : decode cX12_leans 0 = .ok (.aload_n 0, 1) := by decide +kernel
theorem dX12_leans_1 : decode cX12_leans 1 = .ok (.iload_n 1, 1) := by decide +kernel
theorem dX12_leans_2 : decode cX12_leans 2 = .ok (.invokevirtual 84, 3) := by decide +kernel
theorem dX12_leans_5 : decode cX12_leans 5 = .ok (.ifCond .ne 6, 3) := by decide +kernel
theorem dX12_leans_8 : decode cX12_leans 8 = .ok (.ldc 97, 2) := by decide +kernel
theorem dX12_leans_10 : decode cX12_leans 10 = .ok (.ireturn, 1) := by decide +kernel
theorem dX12_leans_11 : decode cX12_leans 11 = .ok (.aload_n 0, 1) := by decide +kernel
theorem dX12_leans_12 : decode cX12_leans 12 = .ok (.invokevirtual 101, 3) := by decide +kernel
theorem dX12_leans_15 : decode cX12_leans 15 = .ok (.ifCond .ne 24, 3) := by decide +kernel
theorem dX12_leans_18 : decode cX12_leans 18 = .ok (.aload_n 0, 1) := by decide +kernel
theorem dX12_leans_19 : decode cX12_leans 19 = .ok (.iconst 0, 1) := by decide +kernel
theorem dX12_leans_20 : decode cX12_leans 20 = .ok (.iconst 0, 1) := by decide +kernel
theorem dX12_leans_21 : decode cX12_leans 21 = .ok (.iconst 0, 1) := by decide +kernel
theorem dX12_leans_22 : decode cX12_leans 22 = .ok (.invokevirtual 180, 3) := by decide +kernel
theorem dX12_leans_25 : decode cX12_leans 25 = .ok (.aload_n 0, 1) := by decide +kernel
theorem dX12_leans_26 : decode cX12_leans 26 = .ok (.iload_n 1, 1) := by decide +kernel
theorem dX12_leans_27 : decode cX12_leans 27 = .ok (.aload_n 0, 1) := by decide +kernel
theorem dX12_leans_28 : decode cX12_leans 28 = .ok (.iload_n 1, 1) := by decide +kernel
theorem dX12_leans_29 : decode cX12_leans 29 = .ok (.bipush 6, 2) := by decide +kernel
theorem dX12_leans_31 : decode cX12_leans 31 = .ok (.invokevirtual 98, 3) := by decide +kernel
theorem dX12_leans_34 : decode cX12_leans 34 = .ok (.iconst 0, 1) := by decide +kernel
theorem dX12_leans_35 : decode cX12_leans 35 = .ok (.invokevirtual 184, 3) := by decide +kernel
theorem dX12_leans_38 : decode cX12_leans 38 = .ok (.ireturn, 1) := by decide +kernel
theorem dX12_leans_39 : decode cX12_leans 39 = .ok (.aload_n 0, 1) := by decide +kernel
theorem dX12_leans_40 : decode cX12_leans 40 = .ok (.aload_n 0, 1) := by decide +kernel
theorem dX12_leans_41 : decode cX12_leans 41 = .ok (.getfield 22, 3) := by decide +kernel
theorem dX12_leans_44 : decode cX12_leans 44 = .ok (.iconst 1, 1) := by decide +kernel
theorem dX12_leans_45 : decode cX12_leans 45 = .ok (.iaload, 1) := by decide +kernel
theorem dX12_leans_46 : decode cX12_leans 46 = .ok (.aload_n 0, 1) := by decide +kernel
theorem dX12_leans_47 : decode cX12_leans 47 = .ok (.getfield 22, 3) := by decide +kernel
theorem dX12_leans_50 : decode cX12_leans 50 = .ok (.iconst 2, 1) := by decide +kernel
theorem dX12_leans_51 : decode cX12_leans 51 = .ok (.iaload, 1) := by decide +kernel
theorem dX12_leans_52 : decode cX12_leans 52 = .ok (.aload_n 0, 1) := by decide +kernel
theorem dX12_leans_53 : decode cX12_leans 53 = .ok (.getfield 22, 3) := by decide +kernel
theorem dX12_leans_56 : decode cX12_leans 56 = .ok (.iconst 0, 1) := by decide +kernel
theorem dX12_leans_57 : decode cX12_leans 57 = .ok (.iaload, 1) := by decide +kernel
theorem dX12_leans_58 : decode cX12_leans 58 = .ok (.invokevirtual 180, 3) := by decide +kernel
theorem dX12_leans_61 : decode cX12_leans 61 = .ok (.aload_n 0, 1) := by decide +kernel
theorem dX12_leans_62 : decode cX12_leans 62 = .ok (.iload_n 1, 1) := by decide +kernel
theorem dX12_leans_63 : decode cX12_leans 63 = .ok (.aload_n 0, 1) := by decide +kernel
theorem dX12_leans_64 : decode cX12_leans 64 = .ok (.getfield 22, 3) := by decide +kernel
theorem dX12_leans_67 : decode cX12_leans 67 = .ok (.bipush 19, 2) := by decide +kernel
theorem dX12_leans_69 : decode cX12_leans 69 = .ok (.iload_n 1, 1) := by decide +kernel
theorem dX12_leans_70 : decode cX12_leans 70 = .ok (.iadd, 1) := by decide +kernel
theorem dX12_leans_71 : decode cX12_leans 71 = .ok (.iaload, 1) := by decide +kernel
theorem dX12_leans_72 : decode cX12_leans 72 = .ok (.aload_n 0, 1) := by decide +kernel
theorem dX12_leans_73 : decode cX12_leans 73 = .ok (.getfield 22, 3) := by decide +kernel
theorem dX12_leans_76 : decode cX12_leans 76 = .ok (.bipush 31, 2) := by decide +kernel
theorem dX12_leans_78 : decode cX12_leans 78 = .ok (.iload_n 1, 1) := by decide +kernel
theorem dX12_leans_79 : decode cX12_leans 79 = .ok (.iadd, 1) := by decide +kernel
theorem dX12_leans_80 : decode cX12_leans 80 = .ok (.iaload, 1) := by decide +kernel
theorem dX12_leans_81 : decode cX12_leans 81 = .ok (.invokevirtual 184, 3) := by decide +kernel
theorem dX12_leans_84 : decode cX12_leans 84 = .ok (.ireturn, 1) := by decide +kernel
theorem dX12_set_0 : decode cX12_set 0 = .ok (.iload_n 1, 1) := by decide +kernel
theorem dX12_set_1 : decode cX12_set 1 = .ok (.i2l, 1) := by decide +kernel
theorem dX12_set_2 : decode cX12_set 2 = .ok (.lconst 0, 1) := by decide +kernel
theorem dX12_set_3 : decode cX12_set 3 = .ok (.ldc2_w 188, 3) := by decide +kernel
theorem dX12_set_6 : decode cX12_set 6 = .ok (.invokestatic 62, 3) := by decide +kernel
theorem dX12_set_9 : decode cX12_set 9 = .ok (.ifCond .eq 69, 3) := by decide +kernel
theorem dX12_set_12 : decode cX12_set 12 = .ok (.iload_n 2, 1) := by decide +kernel
theorem dX12_set_13 : decode cX12_set 13 = .ok (.i2l, 1) := by decide +kernel
theorem dX12_set_14 : decode cX12_set 14 = .ok (.iload_n 1, 1) := by decide +kernel
theorem dX12_set_15 : decode cX12_set 15 = .ok (.ifCond .eq 8, 3) := by decide +kernel
theorem dX12_set_18 : decode cX12_set 18 = .ok (.iload_n 1, 1) := by decide +kernel
theorem dX12_set_19 : decode cX12_set 19 = .ok (.iconst 3, 1) := by decide +kernel
theorem dX12_set_20 : decode cX12_set 20 = .ok (.if_icmp .ne 7, 3) := by decide +kernel
theorem dX12_set_23 : decode cX12_set 23 = .ok (.lconst 1, 1) := by decide +kernel
theorem dX12_set_24 : decode cX12_set 24 = .ok (.goto 4, 3) := by decide +kernel
theorem dX12_set_27 : decode cX12_set 27 = .ok (.lconst 0, 1) := by decide +kernel
theorem dX12_set_28 : decode cX12_set 28 = .ok (.iload_n 1, 1) := by decide +kernel
theorem dX12_set_29 : decode cX12_set 29 = .ok (.ifCond .ne 9, 3) := by decide +kernel
theorem dX12_set_32 : decode cX12_set 32 = .ok (.ldc2_w 190, 3) := by decide +kernel
theorem dX12_set_35 : decode cX12_set 35 = .ok (.goto 26, 3) := by decide +kernel
theorem dX12_set_38 : decode cX12_set 38 = .ok (.iload_n 1, 1) := by decide +kernel
theorem dX12_set_39 : decode cX12_set 39 = .ok (.iconst 1, 1) := by decide +kernel
theorem dX12_set_40 : decode cX12_set 40 = .ok (.if_icmp .ne 9, 3) := by decide +kernel
theorem dX12_set_43 : decode cX12_set 43 = .ok (.ldc2_w 192, 3) := by decide +kernel
theorem dX12_set_46 : decode cX12_set 46 = .ok (.goto 15, 3) := by decide +kernel
theorem dX12_set_49 : decode cX12_set 49 = .ok (.iload_n 1, 1) := by decide +kernel
theorem dX12_set_50 : decode cX12_set 50 = .ok (.iconst 2, 1) := by decide +kernel
theorem dX12_set_51 : decode cX12_set 51 = .ok (.if_icmp .ne 7, 3) := by decide +kernel
theorem dX12_set_54 : decode cX12_set 54 = .ok (.lconst 1, 1) := by decide +kernel
theorem dX12_set_55 : decode cX12_set 55 = .ok (.goto 6, 3) := by decide +kernel
theorem dX12_set_58 : decode cX12_set 58 = .ok (.ldc2_w 194, 3) := by decide +kernel
theorem dX12_set_61 : decode cX12_set 61 = .ok (.invokestatic 62, 3) := by decide +kernel
theorem dX12_set_64 : decode cX12_set 64 = .ok (.ifCond .eq 14, 3) := by decide +kernel
theorem dX12_set_67 : decode cX12_set 67 = .ok (.aload_n 0, 1) := by decide +kernel
theorem dX12_set_68 : decode cX12_set 68 = .ok (.iconst 3, 1) := by decide +kernel
theorem dX12_set_69 : decode cX12_set 69 = .ok (.iload_n 1, 1) := by decide +kernel
theorem dX12_set_70 : decode cX12_set 70 = .ok (.iadd, 1) := by decide +kernel
theorem dX12_set_71 : decode cX12_set 71 = .ok (.iload_n 2, 1) := by decide +kernel
theorem dX12_set_72 : decode cX12_set 72 = .ok (.invokevirtual 91, 3) := by decide +kernel
theorem dX12_set_75 : decode cX12_set 75 = .ok (.goto 4, 3) := by decide +kernel
theorem dX12_set_78 : decode cX12_set 78 = .ok (.iconst (-1), 1) := by decide +kernel
theorem dX12_set_79 : decode cX12_set 79 = .ok (.ireturn, 1) := by decide +kernel
theorem dX12_counts_0 : decode cX12_counts 0 = .ok (.aload_n 1, 1) := by decide +kernel
theorem dX12_counts_1 : decode cX12_counts 1 = .ok (.iconst 1, 1) := by decide +kernel
theorem dX12_counts_2 : decode cX12_counts 2 = .ok (.iconst 0, 1) := by decide +kernel
theorem dX12_counts_3 : decode cX12_counts 3 = .ok (.iastore, 1) := by decide +kernel
theorem dX12_counts_4 : decode cX12_counts 4 = .ok (.aload_n 1, 1) := by decide +kernel
theorem dX12_counts_5 : decode cX12_counts 5 = .ok (.iconst 2, 1) := by decide +kernel
theorem dX12_counts_6 : decode cX12_counts 6 = .ok (.iconst 0, 1) := by decide +kernel
theorem dX12_counts_7 : decode cX12_counts 7 = .ok (.iastore, 1) := by decide +kernel
theorem dX12_counts_8 : decode cX12_counts 8 = .ok (.iconst 0, 1) := by decide +kernel
theorem dX12_counts_9 : decode cX12_counts 9 = .ok (.istore_n 2, 1) := by decide +kernel
theorem dX12_counts_10 : decode cX12_counts 10 = .ok (.iload_n 2, 1) := by decide +kernel
theorem dX12_counts_11 : decode cX12_counts 11 = .ok (.aload_n 1, 1) := by decide +kernel
theorem dX12_counts_12 : decode cX12_counts 12 = .ok (.iconst 5, 1) := by decide +kernel
theorem dX12_counts_13 : decode cX12_counts 13 = .ok (.iaload, 1) := by decide +kernel
theorem dX12_counts_14 : decode cX12_counts 14 = .ok (.if_icmp .ge 36, 3) := by decide +kernel
theorem dX12_counts_17 : decode cX12_counts 17 = .ok (.aload_n 1, 1) := by decide +kernel
theorem dX12_counts_18 : decode cX12_counts 18 = .ok (.bipush 43, 2) := by decide +kernel
theorem dX12_counts_20 : decode cX12_counts 20 = .ok (.iload_n 2, 1) := by decide +kernel
theorem dX12_counts_21 : decode cX12_counts 21 = .ok (.iadd, 1) := by decide +kernel
theorem dX12_counts_22 : decode cX12_counts 22 = .ok (.iaload, 1) := by decide +kernel
theorem dX12_counts_23 : decode cX12_counts 23 = .ok (.iconst 1, 1) := by decide +kernel
theorem dX12_counts_24 : decode cX12_counts 24 = .ok (.if_icmp .ne 13, 3) := by decide +kernel
theorem dX12_counts_27 : decode cX12_counts 27 = .ok (.aload_n 1, 1) := by decide +kernel
theorem dX12_counts_28 : decode cX12_counts 28 = .ok (.iconst 1, 1) := by decide +kernel
theorem dX12_counts_29 : decode cX12_counts 29 = .ok (.dup2, 1) := by decide +kernel
theorem dX12_counts_30 : decode cX12_counts 30 = .ok (.iaload, 1) := by decide +kernel
theorem dX12_counts_31 : decode cX12_counts 31 = .ok (.iconst 1, 1) := by decide +kernel
theorem dX12_counts_32 : decode cX12_counts 32 = .ok (.iadd, 1) := by decide +kernel
theorem dX12_counts_33 : decode cX12_counts 33 = .ok (.iastore, 1) := by decide +kernel
theorem dX12_counts_34 : decode cX12_counts 34 = .ok (.goto 10, 3) := by decide +kernel
theorem dX12_counts_37 : decode cX12_counts 37 = .ok (.aload_n 1, 1) := by decide +kernel
theorem dX12_counts_38 : decode cX12_counts 38 = .ok (.iconst 2, 1) := by decide +kernel
theorem dX12_counts_39 : decode cX12_counts 39 = .ok (.dup2, 1) := by decide +kernel
theorem dX12_counts_40 : decode cX12_counts 40 = .ok (.iaload, 1) := by decide +kernel
theorem dX12_counts_41 : decode cX12_counts 41 = .ok (.iconst 1, 1) := by decide +kernel
theorem dX12_counts_42 : decode cX12_counts 42 = .ok (.iadd, 1) := by decide +kernel
theorem dX12_counts_43 : decode cX12_counts 43 = .ok (.iastore, 1) := by decide +kernel
theorem dX12_counts_44 : decode cX12_counts 44 = .ok (.iinc 2 1, 3) := by decide +kernel
theorem dX12_counts_47 : decode cX12_counts 47 = .ok (.goto (-37), 3) := by decide +kernel
theorem dX12_counts_50 : decode cX12_counts 50 = .ok (.return_, 1) := by decide +kernel
