theorem dX12_speaksOf_0 : decode cX12_speaksOf 0 = .ok (.iconst 0, 1) := by decide +kernel
theorem dX12_speaksOf_1 : decode cX12_speaksOf 1 = .ok (.istore_n 2, 1) := by decide +kernel
theorem dX12_speaksOf_2 : decode cX12_speaksOf 2 = .ok (.iconst 0, 1) := by decide +kernel
theorem dX12_speaksOf_3 : decode cX12_speaksOf 3 = .ok (.istore_n 3, 1) := by decide +kernel
theorem dX12_speaksOf_4 : decode cX12_speaksOf 4 = .ok (.iload_n 3, 1) := by decide +kernel
theorem dX12_speaksOf_5 : decode cX12_speaksOf 5 = .ok (.aload_n 0, 1) := by decide +kernel
theorem dX12_speaksOf_6 : decode cX12_speaksOf 6 = .ok (.getfield 9, 3) := by decide +kernel
theorem dX12_speaksOf_9 : decode cX12_speaksOf 9 = .ok (.iconst 0, 1) := by decide +kernel
theorem dX12_speaksOf_10 : decode cX12_speaksOf 10 = .ok (.iaload, 1) := by decide +kernel
theorem dX12_speaksOf_11 : decode cX12_speaksOf 11 = .ok (.if_icmp .ge 27, 3) := by decide +kernel
theorem dX12_speaksOf_14 : decode cX12_speaksOf 14 = .ok (.iload_n 2, 1) := by decide +kernel
theorem dX12_speaksOf_15 : decode cX12_speaksOf 15 = .ok (.iload_n 1, 1) := by decide +kernel
theorem dX12_speaksOf_16 : decode cX12_speaksOf 16 = .ok (.iload_n 3, 1) := by decide +kernel
theorem dX12_speaksOf_17 : decode cX12_speaksOf 17 = .ok (.ishr, 1) := by decide +kernel
theorem dX12_speaksOf_18 : decode cX12_speaksOf 18 = .ok (.iconst 1, 1) := by decide +kernel
theorem dX12_speaksOf_19 : decode cX12_speaksOf 19 = .ok (.iand, 1) := by decide +kernel
theorem dX12_speaksOf_20 : decode cX12_speaksOf 20 = .ok (.aload_n 0, 1) := by decide +kernel
theorem dX12_speaksOf_21 : decode cX12_speaksOf 21 = .ok (.getfield 9, 3) := by decide +kernel
theorem dX12_speaksOf_24 : decode cX12_speaksOf 24 = .ok (.bipush 7, 2) := by decide +kernel
theorem dX12_speaksOf_26 : decode cX12_speaksOf 26 = .ok (.iload_n 3, 1) := by decide +kernel
theorem dX12_speaksOf_27 : decode cX12_speaksOf 27 = .ok (.iadd, 1) := by decide +kernel
theorem dX12_speaksOf_28 : decode cX12_speaksOf 28 = .ok (.iaload, 1) := by decide +kernel
theorem dX12_speaksOf_29 : decode cX12_speaksOf 29 = .ok (.imul, 1) := by decide +kernel
theorem dX12_speaksOf_30 : decode cX12_speaksOf 30 = .ok (.iadd, 1) := by decide +kernel
theorem dX12_speaksOf_31 : decode cX12_speaksOf 31 = .ok (.istore_n 2, 1) := by decide +kernel
theorem dX12_speaksOf_32 : decode cX12_speaksOf 32 = .ok (.iinc 3 1, 3) := by decide +kernel
theorem dX12_speaksOf_35 : decode cX12_speaksOf 35 = .ok (.goto (-31), 3) := by decide +kernel
theorem dX12_speaksOf_38 : decode cX12_speaksOf 38 = .ok (.iload_n 2, 1) := by decide +kernel
theorem dX12_speaksOf_39 : decode cX12_speaksOf 39 = .ok (.ireturn, 1) := by decide +kernel
theorem dX12_sees_0 : decode cX12_sees 0 = .ok (.aload_n 0, 1) := by decide +kernel
theorem dX12_sees_1 : decode cX12_sees 1 = .ok (.iload_n 1, 1) := by decide +kernel
theorem dX12_sees_2 : decode cX12_sees 2 = .ok (.putfield 167, 3) := by decide +kernel
theorem dX12_sees_5 : decode cX12_sees 5 = .ok (.aload_n 0, 1) := by decide +kernel
theorem dX12_sees_6 : decode cX12_sees 6 = .ok (.iload_n 2, 1) := by decide +kernel
theorem dX12_sees_7 : decode cX12_sees 7 = .ok (.putfield 170, 3) := by decide +kernel
theorem dX12_sees_10 : decode cX12_sees 10 = .ok (.aload_n 0, 1) := by decide +kernel
theorem dX12_sees_11 : decode cX12_sees 11 = .ok (.iload_n 3, 1) := by decide +kernel
theorem dX12_sees_12 : decode cX12_sees 12 = .ok (.putfield 173, 3) := by decide +kernel
theorem dX12_sees_15 : decode cX12_sees 15 = .ok (.return_, 1) := by decide +kernel
theorem dX12_set_0 : decode cX12_set 0 = .ok (.iload_n 1, 1) := by decide +kernel
theorem dX12_set_1 : decode cX12_set 1 = .ok (.i2l, 1) := by decide +kernel
theorem dX12_set_2 : decode cX12_set 2 = .ok (.lconst 0, 1) := by decide +kernel
theorem dX12_set_3 : decode cX12_set 3 = .ok (.ldc2_w 188, 3) := by decide +kernel
theorem dX12_set_6 : decode cX12_set 6 = .ok (.invokestatic 62, 3) := by decide +kernel
theorem dX12_set_9 : decode cX12_set 9 = .ok (.ifCond .eq 69, 3) := by decide +kernel
theorem dX12_set_12 : decode cX12_set 12 = .ok (.iload_n 2, 1) := by decide +kernel
theorem dX12_set_13 : decode cX12_set 13 = .ok (.i2l, 1) := by decide +kernel
theorem dX12_set_14 : decode cX12_set 14 = .ok (.iload_n 1, 1) := by decide +kernel
theorem dX12_set_15 : decode cX12_set 15 = .ok (.ifCond .eq 8, 3) := by decide +kernel
theorem dX12_set_18 : decode cX12_set 18 = .ok (.iload_n 1, 1) := by decide +kernel
theorem dX12_set_19 : decode cX12_set 19 = .ok (.iconst 3, 1) := by decide +kernel
theorem dX12_set_20 : decode cX12_set 20 = .ok (.if_icmp .ne 7, 3) := by decide +kernel
theorem dX12_set_23 : decode cX12_set 23 = .ok (.lconst 1, 1) := by decide +kernel
theorem dX12_set_24 : decode cX12_set 24 = .ok (.goto 4, 3) := by decide +kernel
theorem dX12_set_27 : decode cX12_set 27 = .ok (.lconst 0, 1) := by decide +kernel
theorem dX12_set_28 : decode cX12_set 28 = .ok (.iload_n 1, 1) := by decide +kernel
theorem dX12_set_29 : decode cX12_set 29 = .ok (.ifCond .ne 9, 3) := by decide +kernel
theorem dX12_set_32 : decode cX12_set 32 = .ok (.ldc2_w 190, 3) := by decide +kernel
theorem dX12_set_35 : decode cX12_set 35 = .ok (.goto 26, 3) := by decide +kernel
theorem dX12_set_38 : decode cX12_set 38 = .ok (.iload_n 1, 1) := by decide +kernel
theorem dX12_set_39 : decode cX12_set 39 = .ok (.iconst 1, 1) := by decide +kernel
theorem dX12_set_40 : decode cX12_set 40 = .ok (.if_icmp .ne 9, 3) := by decide +kernel
theorem dX12_set_43 : decode cX12_set 43 = .ok (.ldc2_w 192, 3) := by decide +kernel
theorem dX12_set_46 : decode cX12_set 46 = .ok (.goto 15, 3) := by decide +kernel
theorem dX12_set_49 : decode cX12_set 49 = .ok (.iload_n 1, 1) := by decide +kernel
theorem dX12_set_50 : decode cX12_set 50 = .ok (.iconst 2, 1) := by decide +kernel
theorem dX12_set_51 : decode cX12_set 51 = .ok (.if_icmp .ne 7, 3) := by decide +kernel
theorem dX12_set_54 : decode cX12_set 54 = .ok (.lconst 1, 1) := by decide +kernel
theorem dX12_set_55 : decode cX12_set 55 = .ok (.goto 6, 3) := by decide +kernel
theorem dX12_set_58 : decode cX12_set 58 = .ok (.ldc2_w 194, 3) := by decide +kernel
theorem dX12_set_61 : decode cX12_set 61 = .ok (.invokestatic 62, 3) := by decide +kernel
theorem dX12_set_64 : decode cX12_set 64 = .ok (.ifCond .eq 14, 3) := by decide +kernel
theorem dX12_set_67 : decode cX12_set 67 = .ok (.aload_n 0, 1) := by decide +kernel
theorem dX12_set_68 : decode cX12_set 68 = .ok (.iconst 3, 1) := by decide +kernel
theorem dX12_set_69 : decode cX12_set 69 = .ok (.iload_n 1, 1) := by decide +kernel
theorem dX12_set_70 : decode cX12_set 70 = .ok (.iadd, 1) := by decide +kernel
theorem dX12_set_71 : decode cX12_set 71 = .ok (.iload_n 2, 1) := by decide +kernel
theorem dX12_set_72 : decode cX12_set 72 = .ok (.invokevirtual 91, 3) := by decide +kernel
theorem dX12_set_75 : decode cX12_set 75 = .ok (.goto 4, 3) := by decide +kernel
theorem dX12_set_78 : decode cX12_set 78 = .ok (.iconst (-1), 1) := by decide +kernel
theorem dX12_set_79 : decode cX12_set 79 = .ok (.ireturn, 1) := by decide +kernel
theorem dX12_counts_0 : decode cX12_counts 0 = .ok (.aload_n 1, 1) := by decide +kernel
theorem dX12_counts_1 : decode cX12_counts 1 = .ok (.iconst 1, 1) := by decide +kernel
theorem dX12_counts_2 : decode cX12_counts 2 = .ok (.iconst 0, 1) := by decide +kernel
theorem dX12_counts_3 : decode cX12_counts 3 = .ok (.iastore, 1) := by decide +kernel
theorem dX12_counts_4 : decode cX12_counts 4 = .ok (.aload_n 1, 1) := by decide +kernel
theorem dX12_counts_5 : decode cX12_counts 5 = .ok (.iconst 2, 1) := by decide +kernel
theorem dX12_counts_6 : decode cX12_counts 6 = .ok (.iconst 0, 1) := by decide +kernel
theorem dX12_counts_7 : decode cX12_counts 7 = .ok (.iastore, 1) := by decide +kernel
theorem dX12_counts_8 : decode cX12_counts 8 = .ok (.iconst 0, 1) := by decide +kernel
theorem dX12_counts_9 : decode cX12_counts 9 = .ok (.istore_n 2, 1) := by decide +kernel
theorem dX12_counts_10 : decode cX12_counts 10 = .ok (.iload_n 2, 1) := by decide +kernel
theorem dX12_counts_11 : decode cX12_counts 11 = .ok (.aload_n 1, 1) := by decide +kernel
theorem dX12_counts_12 : decode cX12_counts 12 = .ok (.iconst 5, 1) := by decide +kernel
theorem dX12_counts_13 : decode cX12_counts 13 = .ok (.iaload, 1) := by decide +kernel
theorem dX12_counts_14 : decode cX12_counts 14 = .ok (.if_icmp .ge 36, 3) := by decide +kernel
theorem dX12_counts_17 : decode cX12_counts 17 = .ok (.aload_n 1, 1) := by decide +kernel
theorem dX12_counts_18 : decode cX12_counts 18 = .ok (.bipush 43, 2) := by decide +kernel
theorem dX12_counts_20 : decode cX12_counts 20 = .ok (.iload_n 2, 1) := by decide +kernel
theorem dX12_counts_21 : decode cX12_counts 21 = .ok (.iadd, 1) := by decide +kernel
theorem dX12_counts_22 : decode cX12_counts 22 = .ok (.iaload, 1) := by decide +kernel
theorem dX12_counts_23 : decode cX12_counts 23 = .ok (.iconst 1, 1) := by decide +kernel
theorem dX12_counts_24 : decode cX12_counts 24 = .ok (.if_icmp .ne 13, 3) := by decide +kernel
theorem dX12_counts_27 : decode cX12_counts 27 = .ok (.aload_n 1, 1) := by decide +kernel
theorem dX12_counts_28 : decode cX12_counts 28 = .ok (.iconst 1, 1) := by decide +kernel
theorem dX12_counts_29 : decode cX12_counts 29 = .ok (.dup2, 1) := by decide +kernel
theorem dX12_counts_30 : decode cX12_counts 30 = .ok (.iaload, 1) := by decide +kernel
theorem dX12_counts_31 : decode cX12_counts 31 = .ok (.iconst 1, 1) := by decide +kernel
theorem dX12_counts_32 : decode cX12_counts 32 = .ok (.iadd, 1) := by decide +kernel
theorem dX12_counts_33 : decode cX12_counts 33 = .ok (.iastore, 1) := by decide +kernel
theorem dX12_counts_34 : decode cX12_counts 34 = .ok (.goto 10, 3) := by decide +kernel
theorem dX12_counts_37 : decode cX12_counts 37 = .ok (.aload_n 1, 1) := by decide +kernel
theorem dX12_counts_38 : decode cX12_counts 38 = .ok (.iconst 2, 1) := by decide +kernel
theorem dX12_counts_39 : decode cX12_counts 39 = .ok (.dup2, 1) := by decide +kernel
theorem dX12_counts_40 : decode cX12_counts 40 = .ok (.iaload, 1) := by decide +kernel
theorem dX12_counts_41 : decode cX12_counts 41 = .ok (.iconst 1, 1) := by decide +kernel
theorem dX12_counts_42 : decode cX12_counts 42 = .ok (.iadd, 1) := by decide +kernel
theorem dX12_counts_43 : decode cX12_counts 43 = .ok (.iastore, 1) := by decide +kernel
theorem dX12_counts_44 : decode cX12_counts 44 = .ok (.iinc 2 1, 3) := by decide +kernel
theorem dX12_counts_47 : decode cX12_counts 47 = .ok (.goto (-37), 3) := by decide +kernel
theorem dX12_counts_50 : decode cX12_counts 50 = .ok (.return_, 1) := by decide +kernel
theorem dX12_lesser_0 : decode cX12_lesser 0 = .ok (.iload_n 0, 1) := by decide +kernel
theorem dX12_lesser_1 : decode cX12_lesser 1 = .ok (.iload_n 1, 1) := by decide +kernel
theorem dX12_lesser_2 : decode cX12_lesser 2 = .ok (.if_icmp .ge 7, 3) := by decide +kernel
theorem dX12_lesser_5 : decode cX12_lesser 5 = .ok (.iload_n 0, 1) := by decide +kernel
theorem dX12_lesser_6 : decode cX12_lesser 6 = .ok (.goto 4, 3) := by decide +kernel
theorem dX12_lesser_9 : decode cX12_lesser 9 = .ok (.iload_n 1, 1) := by decide +kernel
theorem dX12_lesser_10 : decode cX12_lesser 10 = .ok (.ireturn, 1) := by decide +kernel
theorem dX12_endOf_0 : decode cX12_endOf 0 = .ok (.aload_n 1, 1) := by decide +kernel
theorem dX12_endOf_1 : decode cX12_endOf 1 = .ok (.iconst 1, 1) := by decide +kernel
theorem dX12_endOf_2 : decode cX12_endOf 2 = .ok (.iaload, 1) := by decide +kernel
theorem dX12_endOf_3 : decode cX12_endOf 3 = .ok (.iload_n 2, 1) := by decide +kernel
theorem dX12_endOf_4 : decode cX12_endOf 4 = .ok (.if_icmp .lt 7, 3) := by decide +kernel
theorem dX12_endOf_7 : decode cX12_endOf 7 = .ok (.iconst 1, 1) := by decide +kernel
theorem dX12_endOf_8 : decode cX12_endOf 8 = .ok (.goto 33, 3) := by decide +kernel
theorem dX12_endOf_11 : decode cX12_endOf 11 = .ok (.aload_n 1, 1) := by decide +kernel
theorem dX12_endOf_12 : decode cX12_endOf 12 = .ok (.iconst 2, 1) := by decide +kernel
theorem dX12_endOf_13 : decode cX12_endOf 13 = .ok (.iaload, 1) := by decide +kernel
theorem dX12_endOf_14 : decode cX12_endOf 14 = .ok (.iload_n 2, 1) := by decide +kernel
theorem dX12_endOf_15 : decode cX12_endOf 15 = .ok (.if_icmp .lt 7, 3) := by decide +kernel
theorem dX12_endOf_18 : decode cX12_endOf 18 = .ok (.iconst 0, 1) := by decide +kernel
theorem dX12_endOf_19 : decode cX12_endOf 19 = .ok (.goto 22, 3) := by decide +kernel
theorem dX12_endOf_22 : decode cX12_endOf 22 = .ok (.aload_n 1, 1) := by decide +kernel
theorem dX12_endOf_23 : decode cX12_endOf 23 = .ok (.iconst 0, 1) := by decide +kernel
theorem dX12_endOf_24 : decode cX12_endOf 24 = .ok (.iaload, 1) := by decide +kernel
theorem dX12_endOf_25 : decode cX12_endOf 25 = .ok (.aload_n 0, 1) := by decide +kernel
theorem dX12_endOf_26 : decode cX12_endOf 26 = .ok (.getfield 9, 3) := by decide +kernel
theorem dX12_endOf_29 : decode cX12_endOf 29 = .ok (.bipush 6, 2) := by decide +kernel
theorem dX12_endOf_31 : decode cX12_endOf 31 = .ok (.iaload, 1) := by decide +kernel
theorem dX12_endOf_32 : decode cX12_endOf 32 = .ok (.if_icmp .lt 7, 3) := by decide +kernel
theorem dX12_endOf_35 : decode cX12_endOf 35 = .ok (.iconst 2, 1) := by decide +kernel
theorem dX12_endOf_36 : decode cX12_endOf 36 = .ok (.goto 5, 3) := by decide +kernel
theorem dX12_endOf_39 : decode cX12_endOf 39 = .ok (.bipush (-4), 2) := by decide +kernel
theorem dX12_endOf_41 : decode cX12_endOf 41 = .ok (.ireturn, 1) := by decide +kernel
theorem dX12_allHold_0 : decode cX12_allHold 0 = .ok (.iconst 1, 1) := by decide +kernel
theorem dX12_allHold_1 : decode cX12_allHold 1 = .ok (.aload_n 0, 1) := by decide +kernel
theorem dX12_allHold_2 : decode cX12_allHold 2 = .ok (.getfield 9, 3) := by decide +kernel
theorem dX12_allHold_5 : decode cX12_allHold 5 = .ok (.iconst 0, 1) := by decide +kernel
theorem dX12_allHold_6 : decode cX12_allHold 6 = .ok (.iaload, 1) := by decide +kernel
theorem dX12_allHold_7 : decode cX12_allHold 7 = .ok (.ishl, 1) := by decide +kernel
theorem dX12_allHold_8 : decode cX12_allHold 8 = .ok (.iconst 1, 1) := by decide +kernel
theorem dX12_allHold_9 : decode cX12_allHold 9 = .ok (.isub, 1) := by decide +kernel
theorem dX12_allHold_10 : decode cX12_allHold 10 = .ok (.istore_n 2, 1) := by decide +kernel
theorem dX12_allHold_11 : decode cX12_allHold 11 = .ok (.iconst 0, 1) := by decide +kernel
theorem dX12_allHold_12 : decode cX12_allHold 12 = .ok (.istore_n 3, 1) := by decide +kernel
theorem dX12_allHold_13 : decode cX12_allHold 13 = .ok (.iload_n 3, 1) := by decide +kernel
theorem dX12_allHold_14 : decode cX12_allHold 14 = .ok (.aload_n 1, 1) := by decide +kernel
theorem dX12_allHold_15 : decode cX12_allHold 15 = .ok (.iconst 5, 1) := by decide +kernel
theorem dX12_allHold_16 : decode cX12_allHold 16 = .ok (.iaload, 1) := by decide +kernel
theorem dX12_allHold_17 : decode cX12_allHold 17 = .ok (.if_icmp .ge 18, 3) := by decide +kernel
theorem dX12_allHold_20 : decode cX12_allHold 20 = .ok (.iload_n 2, 1) := by decide +kernel
theorem dX12_allHold_21 : decode cX12_allHold 21 = .ok (.aload_n 1, 1) := by decide +kernel
theorem dX12_allHold_22 : decode cX12_allHold 22 = .ok (.bipush 19, 2) := by decide +kernel
theorem dX12_allHold_24 : decode cX12_allHold 24 = .ok (.iload_n 3, 1) := by decide +kernel
theorem dX12_allHold_25 : decode cX12_allHold 25 = .ok (.iadd, 1) := by decide +kernel
theorem dX12_allHold_26 : decode cX12_allHold 26 = .ok (.iaload, 1) := by decide +kernel
theorem dX12_allHold_27 : decode cX12_allHold 27 = .ok (.iand, 1) := by decide +kernel
theorem dX12_allHold_28 : decode cX12_allHold 28 = .ok (.istore_n 2, 1) := by decide +kernel
theorem dX12_allHold_29 : decode cX12_allHold 29 = .ok (.iinc 3 1, 3) := by decide +kernel
theorem dX12_allHold_32 : decode cX12_allHold 32 = .ok (.goto (-19), 3) := by decide +kernel
theorem dX12_allHold_35 : decode cX12_allHold 35 = .ok (.iload_n 2, 1) := by decide +kernel
theorem dX12_allHold_36 : decode cX12_allHold 36 = .ok (.ireturn, 1) := by decide +kernel
theorem dX12_amount_0 : decode cX12_amount 0 = .ok (.iload_n 0, 1) := by decide +kernel
theorem dX12_amount_1 : decode cX12_amount 1 = .ok (.ifCond .ge 8, 3) := by decide +kernel
theorem dX12_amount_4 : decode cX12_amount 4 = .ok (.iload_n 0, 1) := by decide +kernel
theorem dX12_amount_5 : decode cX12_amount 5 = .ok (.ineg, 1) := by decide +kernel
theorem dX12_amount_6 : decode cX12_amount 6 = .ok (.goto 4, 3) := by decide +kernel
theorem dX12_amount_9 : decode cX12_amount 9 = .ok (.iload_n 0, 1) := by decide +kernel
theorem dX12_amount_10 : decode cX12_amount 10 = .ok (.ireturn, 1) := by decide +kernel
