theorem dX11_begin_0 : decode cX11_begin 0 = .ok (.aload_n 0, 1) := by decide +kernel
theorem dX11_begin_1 : decode cX11_begin 1 = .ok (.getfield 10, 3) := by decide +kernel
theorem dX11_begin_4 : decode cX11_begin 4 = .ok (.getfield 48, 3) := by decide +kernel
theorem dX11_begin_7 : decode cX11_begin 7 = .ok (.ifCond .ne 6, 3) := by decide +kernel
theorem dX11_begin_10 : decode cX11_begin 10 = .ok (.bipush (-3), 2) := by decide +kernel
theorem dX11_begin_12 : decode cX11_begin 12 = .ok (.ireturn, 1) := by decide +kernel
theorem dX11_begin_13 : decode cX11_begin 13 = .ok (.aload_n 0, 1) := by decide +kernel
theorem dX11_begin_14 : decode cX11_begin 14 = .ok (.getfield 10, 3) := by decide +kernel
theorem dX11_begin_17 : decode cX11_begin 17 = .ok (.invokevirtual 162, 3) := by decide +kernel
theorem dX11_begin_20 : decode cX11_begin 20 = .ok (.aload_n 0, 1) := by decide +kernel
theorem dX11_begin_21 : decode cX11_begin 21 = .ok (.getfield 10, 3) := by decide +kernel
theorem dX11_begin_24 : decode cX11_begin 24 = .ok (.invokevirtual 113, 3) := by decide +kernel
theorem dX11_begin_27 : decode cX11_begin 27 = .ok (.ireturn, 1) := by decide +kernel
theorem dX3_needed_0 : decode cX3_needed 0 = .ok (.aload_n 0, 1) := by decide +kernel
theorem dX3_needed_1 : decode cX3_needed 1 = .ok (.getfield 30, 3) := by decide +kernel
theorem dX3_needed_4 : decode cX3_needed 4 = .ok (.iconst 0, 1) := by decide +kernel
theorem dX3_needed_5 : decode cX3_needed 5 = .ok (.invokestatic 60, 3) := by decide +kernel
theorem dX3_needed_8 : decode cX3_needed 8 = .ok (.aload_n 0, 1) := by decide +kernel
theorem dX3_needed_9 : decode cX3_needed 9 = .ok (.getfield 45, 3) := by decide +kernel
theorem dX3_needed_12 : decode cX3_needed 12 = .ok (.invokestatic 64, 3) := by decide +kernel
theorem dX3_needed_15 : decode cX3_needed 15 = .ok (.ireturn, 1) := by decide +kernel
theorem dX3_ends_0 : decode cX3_ends 0 = .ok (.aload_n 0, 1) := by decide +kernel
theorem dX3_ends_1 : decode cX3_ends 1 = .ok (.invokevirtual 79, 3) := by decide +kernel
theorem dX3_ends_4 : decode cX3_ends 4 = .ok (.aload_n 0, 1) := by decide +kernel
theorem dX3_ends_5 : decode cX3_ends 5 = .ok (.invokevirtual 142, 3) := by decide +kernel
theorem dX3_ends_8 : decode cX3_ends 8 = .ok (.if_icmp .lt 5, 3) := by decide +kernel
theorem dX3_ends_11 : decode cX3_ends 11 = .ok (.iconst 1, 1) := by decide +kernel
theorem dX3_ends_12 : decode cX3_ends 12 = .ok (.ireturn, 1) := by decide +kernel
theorem dX3_ends_13 : decode cX3_ends 13 = .ok (.aload_n 0, 1) := by decide +kernel
theorem dX3_ends_14 : decode cX3_ends 14 = .ok (.invokevirtual 145, 3) := by decide +kernel
theorem dX3_ends_17 : decode cX3_ends 17 = .ok (.aload_n 0, 1) := by decide +kernel
theorem dX3_ends_18 : decode cX3_ends 18 = .ok (.invokevirtual 142, 3) := by decide +kernel
theorem dX3_ends_21 : decode cX3_ends 21 = .ok (.if_icmp .lt 5, 3) := by decide +kernel
theorem dX3_ends_24 : decode cX3_ends 24 = .ok (.iconst 0, 1) := by decide +kernel
theorem dX3_ends_25 : decode cX3_ends 25 = .ok (.ireturn, 1) := by decide +kernel
theorem dX3_ends_26 : decode cX3_ends 26 = .ok (.aload_n 0, 1) := by decide +kernel
theorem dX3_ends_27 : decode cX3_ends 27 = .ok (.getfield 97, 3) := by decide +kernel
theorem dX3_ends_30 : decode cX3_ends 30 = .ok (.aload_n 0, 1) := by decide +kernel
theorem dX3_ends_31 : decode cX3_ends 31 = .ok (.getfield 30, 3) := by decide +kernel
theorem dX3_ends_34 : decode cX3_ends 34 = .ok (.iconst 3, 1) := by decide +kernel
theorem dX3_ends_35 : decode cX3_ends 35 = .ok (.invokestatic 60, 3) := by decide +kernel
theorem dX3_ends_38 : decode cX3_ends 38 = .ok (.if_icmp .lt 7, 3) := by decide +kernel
theorem dX3_ends_41 : decode cX3_ends 41 = .ok (.iconst 2, 1) := by decide +kernel
theorem dX3_ends_42 : decode cX3_ends 42 = .ok (.goto 5, 3) := by decide +kernel
theorem dX3_ends_45 : decode cX3_ends 45 = .ok (.bipush (-4), 2) := by decide +kernel
theorem dX3_ends_47 : decode cX3_ends 47 = .ok (.ireturn, 1) := by decide +kernel
theorem dX3_yesLessNo_0 : decode cX3_yesLessNo 0 = .ok (.iconst 2, 1) := by decide +kernel
theorem dX3_yesLessNo_1 : decode cX3_yesLessNo 1 = .ok (.aload_n 0, 1) := by decide +kernel
theorem dX3_yesLessNo_2 : decode cX3_yesLessNo 2 = .ok (.getfield 70, 3) := by decide +kernel
theorem dX3_yesLessNo_5 : decode cX3_yesLessNo 5 = .ok (.invokestatic 73, 3) := by decide +kernel
theorem dX3_yesLessNo_8 : decode cX3_yesLessNo 8 = .ok (.imul, 1) := by decide +kernel
theorem dX3_yesLessNo_9 : decode cX3_yesLessNo 9 = .ok (.aload_n 0, 1) := by decide +kernel
theorem dX3_yesLessNo_10 : decode cX3_yesLessNo 10 = .ok (.getfield 45, 3) := by decide +kernel
theorem dX3_yesLessNo_13 : decode cX3_yesLessNo 13 = .ok (.isub, 1) := by decide +kernel
theorem dX3_yesLessNo_14 : decode cX3_yesLessNo 14 = .ok (.ireturn, 1) := by decide +kernel
theorem dX3_push_0 : decode cX3_push 0 = .ok (.aload_n 0, 1) := by decide +kernel
theorem dX3_push_1 : decode cX3_push 1 = .ok (.getfield 39, 3) := by decide +kernel
theorem dX3_push_4 : decode cX3_push 4 = .ok (.iload_n 1, 1) := by decide +kernel
theorem dX3_push_5 : decode cX3_push 5 = .ok (.aload_n 0, 1) := by decide +kernel
theorem dX3_push_6 : decode cX3_push 6 = .ok (.getfield 39, 3) := by decide +kernel
theorem dX3_push_9 : decode cX3_push 9 = .ok (.iload_n 1, 1) := by decide +kernel
theorem dX3_push_10 : decode cX3_push 10 = .ok (.invokestatic 60, 3) := by decide +kernel
theorem dX3_push_13 : decode cX3_push 13 = .ok (.iload_n 2, 1) := by decide +kernel
theorem dX3_push_14 : decode cX3_push 14 = .ok (.iadd, 1) := by decide +kernel
theorem dX3_push_15 : decode cX3_push 15 = .ok (.invokestatic 56, 3) := by decide +kernel
theorem dX3_push_18 : decode cX3_push 18 = .ok (.return_, 1) := by decide +kernel
theorem dX0_act_0 : decode cX0_act 0 = .ok (.aload_n 1, 1) := by decide +kernel
theorem dX0_act_1 : decode cX0_act 1 = .ok (.invokevirtual 7, 3) := by decide +kernel
theorem dX0_act_4 : decode cX0_act 4 = .ok (.istore_n 3, 1) := by decide +kernel
theorem dX0_act_5 : decode cX0_act 5 = .ok (.iconst 0, 1) := by decide +kernel
theorem dX0_act_6 : decode cX0_act 6 = .ok (.istore 4, 2) := by decide +kernel
theorem dX0_act_8 : decode cX0_act 8 = .ok (.iload 4, 2) := by decide +kernel
theorem dX0_act_10 : decode cX0_act 10 = .ok (.aload_n 1, 1) := by decide +kernel
theorem dX0_act_11 : decode cX0_act 11 = .ok (.getfield 13, 3) := by decide +kernel
theorem dX0_act_14 : decode cX0_act 14 = .ok (.if_icmp .ge 37, 3) := by decide +kernel
theorem dX0_act_17 : decode cX0_act 17 = .ok (.aload_n 1, 1) := by decide +kernel
theorem dX0_act_18 : decode cX0_act 18 = .ok (.iload 4, 2) := by decide +kernel
theorem dX0_act_20 : decode cX0_act 20 = .ok (.invokevirtual 17, 3) := by decide +kernel
theorem dX0_act_23 : decode cX0_act 23 = .ok (.astore 5, 2) := by decide +kernel
theorem dX0_act_25 : decode cX0_act 25 = .ok (.aload 5, 2) := by decide +kernel
theorem dX0_act_27 : decode cX0_act 27 = .ok (.ifnull 18, 3) := by decide +kernel
theorem dX0_act_30 : decode cX0_act 30 = .ok (.aload_n 1, 1) := by decide +kernel
theorem dX0_act_31 : decode cX0_act 31 = .ok (.iload 4, 2) := by decide +kernel
theorem dX0_act_33 : decode cX0_act 33 = .ok (.aload 5, 2) := by decide +kernel
theorem dX0_act_35 : decode cX0_act 35 = .ok (.getfield 21, 3) := by decide +kernel
theorem dX0_act_38 : decode cX0_act 38 = .ok (.iload_n 3, 1) := by decide +kernel
theorem dX0_act_39 : decode cX0_act 39 = .ok (.imul, 1) := by decide +kernel
theorem dX0_act_40 : decode cX0_act 40 = .ok (.iconst 4, 1) := by decide +kernel
theorem dX0_act_41 : decode cX0_act 41 = .ok (.idiv, 1) := by decide +kernel
theorem dX0_act_42 : decode cX0_act 42 = .ok (.invokevirtual 24, 3) := by decide +kernel
theorem dX0_act_45 : decode cX0_act 45 = .ok (.iinc 4 1, 3) := by decide +kernel
theorem dX0_act_48 : decode cX0_act 48 = .ok (.goto (-40), 3) := by decide +kernel
theorem dX0_act_51 : decode cX0_act 51 = .ok (.return_, 1) := by decide +kernel
theorem dX2_act_0 : decode cX2_act 0 = .ok (.aload_n 0, 1) := by decide +kernel
theorem dX2_act_1 : decode cX2_act 1 = .ok (.aload_n 1, 1) := by decide +kernel
theorem dX2_act_2 : decode cX2_act 2 = .ok (.iload_n 2, 1) := by decide +kernel
theorem dX2_act_3 : decode cX2_act 3 = .ok (.invokespecial 9, 3) := by decide +kernel
theorem dX2_act_6 : decode cX2_act 6 = .ok (.aload_n 1, 1) := by decide +kernel
theorem dX2_act_7 : decode cX2_act 7 = .ok (.invokevirtual 13, 3) := by decide +kernel
theorem dX2_act_10 : decode cX2_act 10 = .ok (.istore_n 3, 1) := by decide +kernel
theorem dX2_act_11 : decode cX2_act 11 = .ok (.iload_n 3, 1) := by decide +kernel
theorem dX2_act_12 : decode cX2_act 12 = .ok (.ifCond .ne 4, 3) := by decide +kernel
theorem dX2_act_15 : decode cX2_act 15 = .ok (.return_, 1) := by decide +kernel
theorem dX2_act_16 : decode cX2_act 16 = .ok (.iload_n 3, 1) := by decide +kernel
theorem dX2_act_17 : decode cX2_act 17 = .ok (.ifCond .le 7, 3) := by decide +kernel
theorem dX2_act_20 : decode cX2_act 20 = .ok (.iconst 0, 1) := by decide +kernel
theorem dX2_act_21 : decode cX2_act 21 = .ok (.goto 4, 3) := by decide +kernel
theorem dX2_act_24 : decode cX2_act 24 = .ok (.iconst 1, 1) := by decide +kernel
theorem dX2_act_25 : decode cX2_act 25 = .ok (.istore 4, 2) := by decide +kernel
theorem dX2_act_27 : decode cX2_act 27 = .ok (.iconst 0, 1) := by decide +kernel
theorem dX2_act_28 : decode cX2_act 28 = .ok (.istore 5, 2) := by decide +kernel
theorem dX2_act_30 : decode cX2_act 30 = .ok (.iload 5, 2) := by decide +kernel
theorem dX2_act_32 : decode cX2_act 32 = .ok (.aload_n 1, 1) := by decide +kernel
theorem dX2_act_33 : decode cX2_act 33 = .ok (.getfield 19, 3) := by decide +kernel
theorem dX2_act_36 : decode cX2_act 36 = .ok (.if_icmp .ge 64, 3) := by decide +kernel
theorem dX2_act_39 : decode cX2_act 39 = .ok (.aload_n 1, 1) := by decide +kernel
theorem dX2_act_40 : decode cX2_act 40 = .ok (.iload 5, 2) := by decide +kernel
theorem dX2_act_42 : decode cX2_act 42 = .ok (.invokevirtual 23, 3) := by decide +kernel
theorem dX2_act_45 : decode cX2_act 45 = .ok (.astore 6, 2) := by decide +kernel
theorem dX2_act_47 : decode cX2_act 47 = .ok (.aload 6, 2) := by decide +kernel
theorem dX2_act_49 : decode cX2_act 49 = .ok (.ifnull 45, 3) := by decide +kernel
theorem dX2_act_52 : decode cX2_act 52 = .ok (.aload_n 1, 1) := by decide +kernel
theorem dX2_act_53 : decode cX2_act 53 = .ok (.getfield 27, 3) := by decide +kernel
theorem dX2_act_56 : decode cX2_act 56 = .ok (.iload 5, 2) := by decide +kernel
theorem dX2_act_58 : decode cX2_act 58 = .ok (.ishr, 1) := by decide +kernel
theorem dX2_act_59 : decode cX2_act 59 = .ok (.iconst 1, 1) := by decide +kernel
theorem dX2_act_60 : decode cX2_act 60 = .ok (.iand, 1) := by decide +kernel
theorem dX2_act_61 : decode cX2_act 61 = .ok (.iload 4, 2) := by decide +kernel
theorem dX2_act_63 : decode cX2_act 63 = .ok (.if_icmp .ne 31, 3) := by decide +kernel
theorem dX2_act_66 : decode cX2_act 66 = .ok (.aload_n 1, 1) := by decide +kernel
theorem dX2_act_67 : decode cX2_act 67 = .ok (.iload 5, 2) := by decide +kernel
theorem dX2_act_69 : decode cX2_act 69 = .ok (.iload_n 3, 1) := by decide +kernel
theorem dX2_act_70 : decode cX2_act 70 = .ok (.ifCond .le 13, 3) := by decide +kernel
theorem dX2_act_73 : decode cX2_act 73 = .ok (.iconst 2, 1) := by decide +kernel
theorem dX2_act_74 : decode cX2_act 74 = .ok (.aload 6, 2) := by decide +kernel
theorem dX2_act_76 : decode cX2_act 76 = .ok (.getfield 30, 3) := by decide +kernel
theorem dX2_act_79 : decode cX2_act 79 = .ok (.imul, 1) := by decide +kernel
theorem dX2_act_80 : decode cX2_act 80 = .ok (.goto 11, 3) := by decide +kernel
theorem dX2_act_83 : decode cX2_act 83 = .ok (.bipush (-2), 2) := by decide +kernel
theorem dX2_act_85 : decode cX2_act 85 = .ok (.aload 6, 2) := by decide +kernel
theorem dX2_act_87 : decode cX2_act 87 = .ok (.getfield 30, 3) := by decide +kernel
theorem dX2_act_90 : decode cX2_act 90 = .ok (.imul, 1) := by decide +kernel
theorem dX2_act_91 : decode cX2_act 91 = .ok (.invokevirtual 35, 3) := by decide +kernel
theorem dX2_act_94 : decode cX2_act 94 = .ok (.iinc 5 1, 3) := by decide +kernel
theorem dX2_act_97 : decode cX2_act 97 = .ok (.goto (-67), 3) := by decide +kernel
theorem dX2_act_100 : decode cX2_act 100 = .ok (.return_, 1) := by decide +kernel
theorem dX4_act_0 : decode cX4_act 0 = .ok (.iconst 0, 1) := by decide +kernel
theorem dX4_act_1 : decode cX4_act 1 = .ok (.istore_n 3, 1) := by decide +kernel
theorem dX4_act_2 : decode cX4_act 2 = .ok (.iload_n 3, 1) := by decide +kernel
theorem dX4_act_3 : decode cX4_act 3 = .ok (.aload_n 1, 1) := by decide +kernel
theorem dX4_act_4 : decode cX4_act 4 = .ok (.getfield 7, 3) := by decide +kernel
theorem dX4_act_7 : decode cX4_act 7 = .ok (.if_icmp .ge 27, 3) := by decide +kernel
theorem dX4_act_10 : decode cX4_act 10 = .ok (.aload_n 1, 1) := by decide +kernel
theorem dX4_act_11 : decode cX4_act 11 = .ok (.getfield 13, 3) := by decide +kernel
theorem dX4_act_14 : decode cX4_act 14 = .ok (.iload_n 3, 1) := by decide +kernel
theorem dX4_act_15 : decode cX4_act 15 = .ok (.aload_n 1, 1) := by decide +kernel
theorem dX4_act_16 : decode cX4_act 16 = .ok (.getfield 13, 3) := by decide +kernel
theorem dX4_act_19 : decode cX4_act 19 = .ok (.iload_n 3, 1) := by decide +kernel
theorem dX4_act_20 : decode cX4_act 20 = .ok (.invokestatic 17, 3) := by decide +kernel
theorem dX4_act_23 : decode cX4_act 23 = .ok (.iconst 2, 1) := by decide +kernel
theorem dX4_act_24 : decode cX4_act 24 = .ok (.idiv, 1) := by decide +kernel
theorem dX4_act_25 : decode cX4_act 25 = .ok (.invokestatic 23, 3) := by decide +kernel
theorem dX4_act_28 : decode cX4_act 28 = .ok (.iinc 3 1, 3) := by decide +kernel
theorem dX4_act_31 : decode cX4_act 31 = .ok (.goto (-29), 3) := by decide +kernel
theorem dX4_act_34 : decode cX4_act 34 = .ok (.return_, 1) := by decide +kernel
theorem dX10_act_0 : decode cX10_act 0 = .ok (.return_, 1) := by decide +kernel
theorem dX7_act_0 : decode cX7_act 0 = .ok (.aload_n 1, 1) := by decide +kernel
theorem dX7_act_1 : decode cX7_act 1 = .ok (.getfield 9, 3) := by decide +kernel
theorem dX7_act_4 : decode cX7_act 4 = .ok (.aload_n 0, 1) := by decide +kernel
theorem dX7_act_5 : decode cX7_act 5 = .ok (.getfield 15, 3) := by decide +kernel
theorem dX7_act_8 : decode cX7_act 8 = .ok (.if_icmp .lt 35, 3) := by decide +kernel
theorem dX7_act_11 : decode cX7_act 11 = .ok (.aload_n 1, 1) := by decide +kernel
theorem dX7_act_12 : decode cX7_act 12 = .ok (.iload_n 2, 1) := by decide +kernel
theorem dX7_act_13 : decode cX7_act 13 = .ok (.invokevirtual 20, 3) := by decide +kernel
theorem dX7_act_16 : decode cX7_act 16 = .ok (.ifCond .ne 27, 3) := by decide +kernel
theorem dX7_act_19 : decode cX7_act 19 = .ok (.aload_n 1, 1) := by decide +kernel
theorem dX7_act_20 : decode cX7_act 20 = .ok (.getfield 24, 3) := by decide +kernel
theorem dX7_act_23 : decode cX7_act 23 = .ok (.iload_n 2, 1) := by decide +kernel
theorem dX7_act_24 : decode cX7_act 24 = .ok (.aload_n 1, 1) := by decide +kernel
theorem dX7_act_25 : decode cX7_act 25 = .ok (.invokevirtual 28, 3) := by decide +kernel
theorem dX7_act_28 : decode cX7_act 28 = .ok (.aload_n 1, 1) := by decide +kernel
theorem dX7_act_29 : decode cX7_act 29 = .ok (.invokevirtual 32, 3) := by decide +kernel
theorem dX7_act_32 : decode cX7_act 32 = .ok (.if_icmp .lt 7, 3) := by decide +kernel
theorem dX7_act_35 : decode cX7_act 35 = .ok (.iconst 1, 1) := by decide +kernel
theorem dX7_act_36 : decode cX7_act 36 = .ok (.goto 4, 3) := by decide +kernel
theorem dX7_act_39 : decode cX7_act 39 = .ok (.iconst 0, 1) := by decide +kernel
theorem dX7_act_40 : decode cX7_act 40 = .ok (.invokestatic 35, 3) := by decide +kernel
theorem dX7_act_43 : decode cX7_act 43 = .ok (.return_, 1) := by decide +kernel
theorem dX3_loudestNotShared_0 : decode cX3_loudestNotShared 0 = .ok (.aload_n 0, 1) := by decide +kernel
theorem dX3_loudestNotShared_1 : decode cX3_loudestNotShared 1 = .ok (.getfield 33, 3) := by decide +kernel
theorem dX3_loudestNotShared_4 : decode cX3_loudestNotShared 4 = .ok (.iload_n 1, 1) := by decide +kernel
theorem dX3_loudestNotShared_5 : decode cX3_loudestNotShared 5 = .ok (.invokestatic 60, 3) := by decide +kernel
theorem dX3_loudestNotShared_8 : decode cX3_loudestNotShared 8 = .ok (.aload_n 0, 1) := by decide +kernel
theorem dX3_loudestNotShared_9 : decode cX3_loudestNotShared 9 = .ok (.getfield 83, 3) := by decide +kernel
theorem dX3_loudestNotShared_12 : decode cX3_loudestNotShared 12 = .ok (.iconst (-1), 1) := by decide +kernel
theorem dX3_loudestNotShared_13 : decode cX3_loudestNotShared 13 = .ok (.ixor, 1) := by decide +kernel
theorem dX3_loudestNotShared_14 : decode cX3_loudestNotShared 14 = .ok (.iand, 1) := by decide +kernel
theorem dX3_loudestNotShared_15 : decode cX3_loudestNotShared 15 = .ok (.istore_n 2, 1) := by decide +kernel
theorem dX3_loudestNotShared_16 : decode cX3_loudestNotShared 16 = .ok (.bipush (-4), 2) := by decide +kernel
theorem dX3_loudestNotShared_18 : decode cX3_loudestNotShared 18 = .ok (.istore_n 3, 1) := by decide +kernel
theorem dX3_loudestNotShared_19 : decode cX3_loudestNotShared 19 = .ok (.iconst (-1), 1) := by decide +kernel
theorem dX3_loudestNotShared_20 : decode cX3_loudestNotShared 20 = .ok (.istore 4, 2) := by decide +kernel
theorem dX3_loudestNotShared_22 : decode cX3_loudestNotShared 22 = .ok (.iconst 0, 1) := by decide +kernel
theorem dX3_loudestNotShared_23 : decode cX3_loudestNotShared 23 = .ok (.istore 5, 2) := by decide +kernel
theorem dX3_loudestNotShared_25 : decode cX3_loudestNotShared 25 = .ok (.iload 5, 2) := by decide +kernel
theorem dX3_loudestNotShared_27 : decode cX3_loudestNotShared 27 = .ok (.aload_n 0, 1) := by decide +kernel
theorem dX3_loudestNotShared_28 : decode cX3_loudestNotShared 28 = .ok (.getfield 86, 3) := by decide +kernel
theorem dX3_loudestNotShared_31 : decode cX3_loudestNotShared 31 = .ok (.if_icmp .ge 47, 3) := by decide +kernel
theorem dX3_loudestNotShared_34 : decode cX3_loudestNotShared 34 = .ok (.aload_n 0, 1) := by decide +kernel
theorem dX3_loudestNotShared_35 : decode cX3_loudestNotShared 35 = .ok (.getfield 9, 3) := by decide +kernel
theorem dX3_loudestNotShared_38 : decode cX3_loudestNotShared 38 = .ok (.iload 5, 2) := by decide +kernel
theorem dX3_loudestNotShared_40 : decode cX3_loudestNotShared 40 = .ok (.invokestatic 60, 3) := by decide +kernel
theorem dX3_loudestNotShared_43 : decode cX3_loudestNotShared 43 = .ok (.invokestatic 170, 3) := by decide +kernel
theorem dX3_loudestNotShared_46 : decode cX3_loudestNotShared 46 = .ok (.istore 6, 2) := by decide +kernel
theorem dX3_loudestNotShared_48 : decode cX3_loudestNotShared 48 = .ok (.iload_n 2, 1) := by decide +kernel
theorem dX3_loudestNotShared_49 : decode cX3_loudestNotShared 49 = .ok (.iload 5, 2) := by decide +kernel
theorem dX3_loudestNotShared_51 : decode cX3_loudestNotShared 51 = .ok (.ishr, 1) := by decide +kernel
theorem dX3_loudestNotShared_52 : decode cX3_loudestNotShared 52 = .ok (.iconst 1, 1) := by decide +kernel
theorem dX3_loudestNotShared_53 : decode cX3_loudestNotShared 53 = .ok (.iand, 1) := by decide +kernel
theorem dX3_loudestNotShared_54 : decode cX3_loudestNotShared 54 = .ok (.iconst 1, 1) := by decide +kernel
theorem dX3_loudestNotShared_55 : decode cX3_loudestNotShared 55 = .ok (.if_icmp .ne 17, 3) := by decide +kernel
theorem dX3_loudestNotShared_58 : decode cX3_loudestNotShared 58 = .ok (.iload 6, 2) := by decide +kernel
theorem dX3_loudestNotShared_60 : decode cX3_loudestNotShared 60 = .ok (.iload 4, 2) := by decide +kernel
theorem dX3_loudestNotShared_62 : decode cX3_loudestNotShared 62 = .ok (.if_icmp .le 10, 3) := by decide +kernel
theorem dX3_loudestNotShared_65 : decode cX3_loudestNotShared 65 = .ok (.iload 5, 2) := by decide +kernel
theorem dX3_loudestNotShared_67 : decode cX3_loudestNotShared 67 = .ok (.istore_n 3, 1) := by decide +kernel
theorem dX3_loudestNotShared_68 : decode cX3_loudestNotShared 68 = .ok (.iload 6, 2) := by decide +kernel
theorem dX3_loudestNotShared_70 : decode cX3_loudestNotShared 70 = .ok (.istore 4, 2) := by decide +kernel
theorem dX3_loudestNotShared_72 : decode cX3_loudestNotShared 72 = .ok (.iinc 5 1, 3) := by decide +kernel
theorem dX3_loudestNotShared_75 : decode cX3_loudestNotShared 75 = .ok (.goto (-50), 3) := by decide +kernel
theorem dX3_loudestNotShared_78 : decode cX3_loudestNotShared 78 = .ok (.iload_n 3, 1) := by decide +kernel
theorem dX3_loudestNotShared_79 : decode cX3_loudestNotShared 79 = .ok (.ireturn, 1) := by decide +kernel
