theorem dX11_endWithout_0 : decode cX11_endWithout 0 = .ok (.aload_n 0, 1) := by decide +kernel
theorem dX11_endWithout_1 : decode cX11_endWithout 1 = .ok (.getfield 16, 3) := by decide +kernel
theorem dX11_endWithout_4 : decode cX11_endWithout 4 = .ok (.aload_n 0, 1) := by decide +kernel
theorem dX11_endWithout_5 : decode cX11_endWithout 5 = .ok (.getfield 10, 3) := by decide +kernel
theorem dX11_endWithout_8 : decode cX11_endWithout 8 = .ok (.iload_n 1, 1) := by decide +kernel
theorem dX11_endWithout_9 : decode cX11_endWithout 9 = .ok (.invokevirtual 195, 3) := by decide +kernel
theorem dX11_endWithout_12 : decode cX11_endWithout 12 = .ok (.aload_n 0, 1) := by decide +kernel
theorem dX11_endWithout_13 : decode cX11_endWithout 13 = .ok (.getfield 16, 3) := by decide +kernel
theorem dX11_endWithout_16 : decode cX11_endWithout 16 = .ok (.getfield 159, 3) := by decide +kernel
theorem dX11_endWithout_19 : decode cX11_endWithout 19 = .ok (.iconst 0, 1) := by decide +kernel
theorem dX11_endWithout_20 : decode cX11_endWithout 20 = .ok (.iconst 1, 1) := by decide +kernel
theorem dX11_endWithout_21 : decode cX11_endWithout 21 = .ok (.aload_n 0, 1) := by decide +kernel
theorem dX11_endWithout_22 : decode cX11_endWithout 22 = .ok (.getfield 10, 3) := by decide +kernel
theorem dX11_endWithout_25 : decode cX11_endWithout 25 = .ok (.invokevirtual 307, 3) := by decide +kernel
theorem dX11_endWithout_28 : decode cX11_endWithout 28 = .ok (.iload_n 2, 1) := by decide +kernel
theorem dX11_endWithout_29 : decode cX11_endWithout 29 = .ok (.isub, 1) := by decide +kernel
theorem dX11_endWithout_30 : decode cX11_endWithout 30 = .ok (.invokestatic 310, 3) := by decide +kernel
theorem dX11_endWithout_33 : decode cX11_endWithout 33 = .ok (.invokestatic 37, 3) := by decide +kernel
theorem dX11_endWithout_36 : decode cX11_endWithout 36 = .ok (.aload_n 0, 1) := by decide +kernel
theorem dX11_endWithout_37 : decode cX11_endWithout 37 = .ok (.getfield 16, 3) := by decide +kernel
theorem dX11_endWithout_40 : decode cX11_endWithout 40 = .ok (.invokevirtual 202, 3) := by decide +kernel
theorem dX11_endWithout_43 : decode cX11_endWithout 43 = .ok (.ireturn, 1) := by decide +kernel
theorem dX11_leftOut_0 : decode cX11_leftOut 0 = .ok (.iload_n 1, 1) := by decide +kernel
theorem dX11_leftOut_1 : decode cX11_leftOut 1 = .ok (.invokestatic 209, 3) := by decide +kernel
theorem dX11_leftOut_4 : decode cX11_leftOut 4 = .ok (.ifCond .ne 5, 3) := by decide +kernel
theorem dX11_leftOut_7 : decode cX11_leftOut 7 = .ok (.iconst (-1), 1) := by decide +kernel
theorem dX11_leftOut_8 : decode cX11_leftOut 8 = .ok (.ireturn, 1) := by decide +kernel
theorem dX11_leftOut_9 : decode cX11_leftOut 9 = .ok (.aload_n 0, 1) := by decide +kernel
theorem dX11_leftOut_10 : decode cX11_leftOut 10 = .ok (.getfield 10, 3) := by decide +kernel
theorem dX11_leftOut_13 : decode cX11_leftOut 13 = .ok (.getfield 48, 3) := by decide +kernel
theorem dX11_leftOut_16 : decode cX11_leftOut 16 = .ok (.ifCond .ne 6, 3) := by decide +kernel
theorem dX11_leftOut_19 : decode cX11_leftOut 19 = .ok (.bipush (-3), 2) := by decide +kernel
theorem dX11_leftOut_21 : decode cX11_leftOut 21 = .ok (.ireturn, 1) := by decide +kernel
theorem dX11_leftOut_22 : decode cX11_leftOut 22 = .ok (.iconst 0, 1) := by decide +kernel
theorem dX11_leftOut_23 : decode cX11_leftOut 23 = .ok (.istore_n 2, 1) := by decide +kernel
theorem dX11_leftOut_24 : decode cX11_leftOut 24 = .ok (.iload_n 2, 1) := by decide +kernel
theorem dX11_leftOut_25 : decode cX11_leftOut 25 = .ok (.iconst 3, 1) := by decide +kernel
theorem dX11_leftOut_26 : decode cX11_leftOut 26 = .ok (.if_icmp .gt 61, 3) := by decide +kernel
theorem dX11_leftOut_29 : decode cX11_leftOut 29 = .ok (.iload_n 2, 1) := by decide +kernel
theorem dX11_leftOut_30 : decode cX11_leftOut 30 = .ok (.aload_n 0, 1) := by decide +kernel
theorem dX11_leftOut_31 : decode cX11_leftOut 31 = .ok (.getfield 10, 3) := by decide +kernel
theorem dX11_leftOut_34 : decode cX11_leftOut 34 = .ok (.getfield 48, 3) := by decide +kernel
theorem dX11_leftOut_37 : decode cX11_leftOut 37 = .ok (.if_icmp .ge 50, 3) := by decide +kernel
theorem dX11_leftOut_40 : decode cX11_leftOut 40 = .ok (.iconst 0, 1) := by decide +kernel
theorem dX11_leftOut_41 : decode cX11_leftOut 41 = .ok (.istore_n 3, 1) := by decide +kernel
theorem dX11_leftOut_42 : decode cX11_leftOut 42 = .ok (.iload_n 3, 1) := by decide +kernel
theorem dX11_leftOut_43 : decode cX11_leftOut 43 = .ok (.iconst 1, 1) := by decide +kernel
theorem dX11_leftOut_44 : decode cX11_leftOut 44 = .ok (.aload_n 0, 1) := by decide +kernel
theorem dX11_leftOut_45 : decode cX11_leftOut 45 = .ok (.getfield 10, 3) := by decide +kernel
theorem dX11_leftOut_48 : decode cX11_leftOut 48 = .ok (.getfield 48, 3) := by decide +kernel
theorem dX11_leftOut_51 : decode cX11_leftOut 51 = .ok (.ishl, 1) := by decide +kernel
theorem dX11_leftOut_52 : decode cX11_leftOut 52 = .ok (.if_icmp .ge 29, 3) := by decide +kernel
theorem dX11_leftOut_55 : decode cX11_leftOut 55 = .ok (.iload_n 3, 1) := by decide +kernel
theorem dX11_leftOut_56 : decode cX11_leftOut 56 = .ok (.invokestatic 186, 3) := by decide +kernel
theorem dX11_leftOut_59 : decode cX11_leftOut 59 = .ok (.iload_n 2, 1) := by decide +kernel
theorem dX11_leftOut_60 : decode cX11_leftOut 60 = .ok (.if_icmp .ne 15, 3) := by decide +kernel
theorem dX11_leftOut_63 : decode cX11_leftOut 63 = .ok (.aload_n 0, 1) := by decide +kernel
theorem dX11_leftOut_64 : decode cX11_leftOut 64 = .ok (.iload_n 3, 1) := by decide +kernel
theorem dX11_leftOut_65 : decode cX11_leftOut 65 = .ok (.iload_n 2, 1) := by decide +kernel
theorem dX11_leftOut_66 : decode cX11_leftOut 66 = .ok (.invokevirtual 212, 3) := by decide +kernel
theorem dX11_leftOut_69 : decode cX11_leftOut 69 = .ok (.iload_n 1, 1) := by decide +kernel
theorem dX11_leftOut_70 : decode cX11_leftOut 70 = .ok (.if_icmp .ne 5, 3) := by decide +kernel
theorem dX11_leftOut_73 : decode cX11_leftOut 73 = .ok (.iload_n 3, 1) := by decide +kernel
theorem dX11_leftOut_74 : decode cX11_leftOut 74 = .ok (.ireturn, 1) := by decide +kernel
theorem dX11_leftOut_75 : decode cX11_leftOut 75 = .ok (.iinc 3 1, 3) := by decide +kernel
theorem dX11_leftOut_78 : decode cX11_leftOut 78 = .ok (.goto (-36), 3) := by decide +kernel
theorem dX11_leftOut_81 : decode cX11_leftOut 81 = .ok (.iinc 2 1, 3) := by decide +kernel
theorem dX11_leftOut_84 : decode cX11_leftOut 84 = .ok (.goto (-60), 3) := by decide +kernel
theorem dX11_leftOut_87 : decode cX11_leftOut 87 = .ok (.bipush (-4), 2) := by decide +kernel
theorem dX11_leftOut_89 : decode cX11_leftOut 89 = .ok (.ireturn, 1) := by decide +kernel
theorem dX3_deal_0 : decode cX3_deal 0 = .ok (.iload_n 1, 1) := by decide +kernel
theorem dX3_deal_1 : decode cX3_deal 1 = .ok (.istore_n 3, 1) := by decide +kernel
theorem dX3_deal_2 : decode cX3_deal 2 = .ok (.iconst 0, 1) := by decide +kernel
theorem dX3_deal_3 : decode cX3_deal 3 = .ok (.istore 4, 2) := by decide +kernel
theorem dX3_deal_5 : decode cX3_deal 5 = .ok (.iload 4, 2) := by decide +kernel
theorem dX3_deal_7 : decode cX3_deal 7 = .ok (.aload_n 0, 1) := by decide +kernel
theorem dX3_deal_8 : decode cX3_deal 8 = .ok (.getfield 45, 3) := by decide +kernel
theorem dX3_deal_11 : decode cX3_deal 11 = .ok (.if_icmp .ge 73, 3) := by decide +kernel
theorem dX3_deal_14 : decode cX3_deal 14 = .ok (.iconst 0, 1) := by decide +kernel
theorem dX3_deal_15 : decode cX3_deal 15 = .ok (.istore 5, 2) := by decide +kernel
theorem dX3_deal_17 : decode cX3_deal 17 = .ok (.iconst 0, 1) := by decide +kernel
theorem dX3_deal_18 : decode cX3_deal 18 = .ok (.istore 6, 2) := by decide +kernel
theorem dX3_deal_20 : decode cX3_deal 20 = .ok (.iload 6, 2) := by decide +kernel
theorem dX3_deal_22 : decode cX3_deal 22 = .ok (.aload_n 0, 1) := by decide +kernel
theorem dX3_deal_23 : decode cX3_deal 23 = .ok (.getfield 86, 3) := by decide +kernel
theorem dX3_deal_26 : decode cX3_deal 26 = .ok (.if_icmp .ge 41, 3) := by decide +kernel
theorem dX3_deal_29 : decode cX3_deal 29 = .ok (.iload_n 3, 1) := by decide +kernel
theorem dX3_deal_30 : decode cX3_deal 30 = .ok (.ldc 173, 2) := by decide +kernel
theorem dX3_deal_32 : decode cX3_deal 32 = .ok (.imul, 1) := by decide +kernel
theorem dX3_deal_33 : decode cX3_deal 33 = .ok (.sipush 12345, 3) := by decide +kernel
theorem dX3_deal_36 : decode cX3_deal 36 = .ok (.iadd, 1) := by decide +kernel
theorem dX3_deal_37 : decode cX3_deal 37 = .ok (.istore_n 3, 1) := by decide +kernel
theorem dX3_deal_38 : decode cX3_deal 38 = .ok (.iload_n 3, 1) := by decide +kernel
theorem dX3_deal_39 : decode cX3_deal 39 = .ok (.ldc 174, 2) := by decide +kernel
theorem dX3_deal_41 : decode cX3_deal 41 = .ok (.iand, 1) := by decide +kernel
theorem dX3_deal_42 : decode cX3_deal 42 = .ok (.ldc 175, 2) := by decide +kernel
theorem dX3_deal_44 : decode cX3_deal 44 = .ok (.idiv, 1) := by decide +kernel
theorem dX3_deal_45 : decode cX3_deal 45 = .ok (.bipush 100, 2) := by decide +kernel
theorem dX3_deal_47 : decode cX3_deal 47 = .ok (.irem, 1) := by decide +kernel
theorem dX3_deal_48 : decode cX3_deal 48 = .ok (.iload_n 2, 1) := by decide +kernel
theorem dX3_deal_49 : decode cX3_deal 49 = .ok (.if_icmp .ge 12, 3) := by decide +kernel
theorem dX3_deal_52 : decode cX3_deal 52 = .ok (.iload 5, 2) := by decide +kernel
theorem dX3_deal_54 : decode cX3_deal 54 = .ok (.iconst 1, 1) := by decide +kernel
theorem dX3_deal_55 : decode cX3_deal 55 = .ok (.iload 6, 2) := by decide +kernel
theorem dX3_deal_57 : decode cX3_deal 57 = .ok (.ishl, 1) := by decide +kernel
theorem dX3_deal_58 : decode cX3_deal 58 = .ok (.ior, 1) := by decide +kernel
theorem dX3_deal_59 : decode cX3_deal 59 = .ok (.istore 5, 2) := by decide +kernel
theorem dX3_deal_61 : decode cX3_deal 61 = .ok (.iinc 6 1, 3) := by decide +kernel
theorem dX3_deal_64 : decode cX3_deal 64 = .ok (.goto (-44), 3) := by decide +kernel
theorem dX3_deal_67 : decode cX3_deal 67 = .ok (.aload_n 0, 1) := by decide +kernel
theorem dX3_deal_68 : decode cX3_deal 68 = .ok (.getfield 21, 3) := by decide +kernel
theorem dX3_deal_71 : decode cX3_deal 71 = .ok (.iload 4, 2) := by decide +kernel
theorem dX3_deal_73 : decode cX3_deal 73 = .ok (.iload 5, 2) := by decide +kernel
theorem dX3_deal_75 : decode cX3_deal 75 = .ok (.invokestatic 56, 3) := by decide +kernel
theorem dX3_deal_78 : decode cX3_deal 78 = .ok (.iinc 4 1, 3) := by decide +kernel
theorem dX3_deal_81 : decode cX3_deal 81 = .ok (.goto (-76), 3) := by decide +kernel
theorem dX3_deal_84 : decode cX3_deal 84 = .ok (.iload_n 3, 1) := by decide +kernel
theorem dX3_deal_85 : decode cX3_deal 85 = .ok (.ireturn, 1) := by decide +kernel
theorem dX3_knewAtFirst_0 : decode cX3_knewAtFirst 0 = .ok (.aload_n 0, 1) := by decide +kernel
theorem dX3_knewAtFirst_1 : decode cX3_knewAtFirst 1 = .ok (.getfield 107, 3) := by decide +kernel
theorem dX3_knewAtFirst_4 : decode cX3_knewAtFirst 4 = .ok (.invokestatic 73, 3) := by decide +kernel
theorem dX3_knewAtFirst_7 : decode cX3_knewAtFirst 7 = .ok (.istore_n 1, 1) := by decide +kernel
theorem dX3_knewAtFirst_8 : decode cX3_knewAtFirst 8 = .ok (.aload_n 0, 1) := by decide +kernel
theorem dX3_knewAtFirst_9 : decode cX3_knewAtFirst 9 = .ok (.getfield 45, 3) := by decide +kernel
theorem dX3_knewAtFirst_12 : decode cX3_knewAtFirst 12 = .ok (.iload_n 1, 1) := by decide +kernel
theorem dX3_knewAtFirst_13 : decode cX3_knewAtFirst 13 = .ok (.isub, 1) := by decide +kernel
theorem dX3_knewAtFirst_14 : decode cX3_knewAtFirst 14 = .ok (.istore_n 2, 1) := by decide +kernel
theorem dX3_knewAtFirst_15 : decode cX3_knewAtFirst 15 = .ok (.iload_n 1, 1) := by decide +kernel
theorem dX3_knewAtFirst_16 : decode cX3_knewAtFirst 16 = .ok (.iload_n 2, 1) := by decide +kernel
theorem dX3_knewAtFirst_17 : decode cX3_knewAtFirst 17 = .ok (.if_icmp .le 11, 3) := by decide +kernel
theorem dX3_knewAtFirst_20 : decode cX3_knewAtFirst 20 = .ok (.aload_n 0, 1) := by decide +kernel
theorem dX3_knewAtFirst_21 : decode cX3_knewAtFirst 21 = .ok (.invokevirtual 164, 3) := by decide +kernel
theorem dX3_knewAtFirst_24 : decode cX3_knewAtFirst 24 = .ok (.iconst 1, 1) := by decide +kernel
theorem dX3_knewAtFirst_25 : decode cX3_knewAtFirst 25 = .ok (.if_icmp .eq 15, 3) := by decide +kernel
theorem dX3_knewAtFirst_28 : decode cX3_knewAtFirst 28 = .ok (.iload_n 2, 1) := by decide +kernel
theorem dX3_knewAtFirst_29 : decode cX3_knewAtFirst 29 = .ok (.iload_n 1, 1) := by decide +kernel
theorem dX3_knewAtFirst_30 : decode cX3_knewAtFirst 30 = .ok (.if_icmp .le 14, 3) := by decide +kernel
theorem dX3_knewAtFirst_33 : decode cX3_knewAtFirst 33 = .ok (.aload_n 0, 1) := by decide +kernel
theorem dX3_knewAtFirst_34 : decode cX3_knewAtFirst 34 = .ok (.invokevirtual 164, 3) := by decide +kernel
theorem dX3_knewAtFirst_37 : decode cX3_knewAtFirst 37 = .ok (.ifCond .ne 7, 3) := by decide +kernel
theorem dX3_knewAtFirst_40 : decode cX3_knewAtFirst 40 = .ok (.iconst 1, 1) := by decide +kernel
theorem dX3_knewAtFirst_41 : decode cX3_knewAtFirst 41 = .ok (.goto 4, 3) := by decide +kernel
theorem dX3_knewAtFirst_44 : decode cX3_knewAtFirst 44 = .ok (.iconst 0, 1) := by decide +kernel
theorem dX3_knewAtFirst_45 : decode cX3_knewAtFirst 45 = .ok (.ireturn, 1) := by decide +kernel
theorem dX11_worlds_0 : decode cX11_worlds 0 = .ok (.iload_n 1, 1) := by decide +kernel
theorem dX11_worlds_1 : decode cX11_worlds 1 = .ok (.iconst 1, 1) := by decide +kernel
theorem dX11_worlds_2 : decode cX11_worlds 2 = .ok (.if_icmp .lt 30, 3) := by decide +kernel
theorem dX11_worlds_5 : decode cX11_worlds 5 = .ok (.iload_n 1, 1) := by decide +kernel
theorem dX11_worlds_6 : decode cX11_worlds 6 = .ok (.bipush 30, 2) := by decide +kernel
theorem dX11_worlds_8 : decode cX11_worlds 8 = .ok (.if_icmp .gt 24, 3) := by decide +kernel
theorem dX11_worlds_11 : decode cX11_worlds 11 = .ok (.iload_n 3, 1) := by decide +kernel
theorem dX11_worlds_12 : decode cX11_worlds 12 = .ok (.ifCond .lt 20, 3) := by decide +kernel
theorem dX11_worlds_15 : decode cX11_worlds 15 = .ok (.iload_n 3, 1) := by decide +kernel
theorem dX11_worlds_16 : decode cX11_worlds 16 = .ok (.bipush 100, 2) := by decide +kernel
theorem dX11_worlds_18 : decode cX11_worlds 18 = .ok (.if_icmp .gt 14, 3) := by decide +kernel
theorem dX11_worlds_21 : decode cX11_worlds 21 = .ok (.iload 4, 2) := by decide +kernel
theorem dX11_worlds_23 : decode cX11_worlds 23 = .ok (.ifCond .lt 9, 3) := by decide +kernel
theorem dX11_worlds_26 : decode cX11_worlds 26 = .ok (.iload 4, 2) := by decide +kernel
theorem dX11_worlds_28 : decode cX11_worlds 28 = .ok (.iconst 2, 1) := by decide +kernel
theorem dX11_worlds_29 : decode cX11_worlds 29 = .ok (.if_icmp .le 5, 3) := by decide +kernel
theorem dX11_worlds_32 : decode cX11_worlds 32 = .ok (.iconst (-1), 1) := by decide +kernel
theorem dX11_worlds_33 : decode cX11_worlds 33 = .ok (.ireturn, 1) := by decide +kernel
theorem dX11_worlds_34 : decode cX11_worlds 34 = .ok (.aload_n 0, 1) := by decide +kernel
theorem dX11_worlds_35 : decode cX11_worlds 35 = .ok (.getfield 10, 3) := by decide +kernel
theorem dX11_worlds_38 : decode cX11_worlds 38 = .ok (.getfield 48, 3) := by decide +kernel
theorem dX11_worlds_41 : decode cX11_worlds 41 = .ok (.ifCond .ne 6, 3) := by decide +kernel
theorem dX11_worlds_44 : decode cX11_worlds 44 = .ok (.bipush (-3), 2) := by decide +kernel
theorem dX11_worlds_46 : decode cX11_worlds 46 = .ok (.ireturn, 1) := by decide +kernel
theorem dX11_worlds_47 : decode cX11_worlds 47 = .ok (.aload_n 0, 1) := by decide +kernel
theorem dX11_worlds_48 : decode cX11_worlds 48 = .ok (.getfield 16, 3) := by decide +kernel
theorem dX11_worlds_51 : decode cX11_worlds 51 = .ok (.aload_n 0, 1) := by decide +kernel
theorem dX11_worlds_52 : decode cX11_worlds 52 = .ok (.getfield 10, 3) := by decide +kernel
theorem dX11_worlds_55 : decode cX11_worlds 55 = .ok (.iconst 0, 1) := by decide +kernel
theorem dX11_worlds_56 : decode cX11_worlds 56 = .ok (.invokevirtual 195, 3) := by decide +kernel
theorem dX11_worlds_59 : decode cX11_worlds 59 = .ok (.iload_n 2, 1) := by decide +kernel
theorem dX11_worlds_60 : decode cX11_worlds 60 = .ok (.istore 5, 2) := by decide +kernel
theorem dX11_worlds_62 : decode cX11_worlds 62 = .ok (.iconst 0, 1) := by decide +kernel
theorem dX11_worlds_63 : decode cX11_worlds 63 = .ok (.istore 6, 2) := by decide +kernel
theorem dX11_worlds_65 : decode cX11_worlds 65 = .ok (.iconst 0, 1) := by decide +kernel
theorem dX11_worlds_66 : decode cX11_worlds 66 = .ok (.istore 7, 2) := by decide +kernel
theorem dX11_worlds_68 : decode cX11_worlds 68 = .ok (.iload 7, 2) := by decide +kernel
theorem dX11_worlds_70 : decode cX11_worlds 70 = .ok (.iload_n 1, 1) := by decide +kernel
theorem dX11_worlds_71 : decode cX11_worlds 71 = .ok (.if_icmp .ge 58, 3) := by decide +kernel
theorem dX11_worlds_74 : decode cX11_worlds 74 = .ok (.aload_n 0, 1) := by decide +kernel
theorem dX11_worlds_75 : decode cX11_worlds 75 = .ok (.getfield 16, 3) := by decide +kernel
theorem dX11_worlds_78 : decode cX11_worlds 78 = .ok (.iload 5, 2) := by decide +kernel
theorem dX11_worlds_80 : decode cX11_worlds 80 = .ok (.iload_n 3, 1) := by decide +kernel
theorem dX11_worlds_81 : decode cX11_worlds 81 = .ok (.invokevirtual 215, 3) := by decide +kernel
theorem dX11_worlds_84 : decode cX11_worlds 84 = .ok (.istore 5, 2) := by decide +kernel
theorem dX11_worlds_86 : decode cX11_worlds 86 = .ok (.aload_n 0, 1) := by decide +kernel
theorem dX11_worlds_87 : decode cX11_worlds 87 = .ok (.getfield 16, 3) := by decide +kernel
theorem dX11_worlds_90 : decode cX11_worlds 90 = .ok (.invokevirtual 202, 3) := by decide +kernel
theorem dX11_worlds_93 : decode cX11_worlds 93 = .ok (.istore 8, 2) := by decide +kernel
theorem dX11_worlds_95 : decode cX11_worlds 95 = .ok (.iload 4, 2) := by decide +kernel
theorem dX11_worlds_97 : decode cX11_worlds 97 = .ok (.ifCond .ne 16, 3) := by decide +kernel
theorem dX11_worlds_100 : decode cX11_worlds 100 = .ok (.aload_n 0, 1) := by decide +kernel
theorem dX11_worlds_101 : decode cX11_worlds 101 = .ok (.getfield 16, 3) := by decide +kernel
theorem dX11_worlds_104 : decode cX11_worlds 104 = .ok (.invokevirtual 218, 3) := by decide +kernel
theorem dX11_worlds_107 : decode cX11_worlds 107 = .ok (.ifCond .eq 16, 3) := by decide +kernel
theorem dX11_worlds_110 : decode cX11_worlds 110 = .ok (.goto 10, 3) := by decide +kernel
theorem dX11_worlds_113 : decode cX11_worlds 113 = .ok (.iload 8, 2) := by decide +kernel
theorem dX11_worlds_115 : decode cX11_worlds 115 = .ok (.iload 4, 2) := by decide +kernel
theorem dX11_worlds_117 : decode cX11_worlds 117 = .ok (.if_icmp .ne 6, 3) := by decide +kernel
theorem dX11_worlds_120 : decode cX11_worlds 120 = .ok (.iinc 6 1, 3) := by decide +kernel
theorem dX11_worlds_123 : decode cX11_worlds 123 = .ok (.iinc 7 1, 3) := by decide +kernel
theorem dX11_worlds_126 : decode cX11_worlds 126 = .ok (.goto (-58), 3) := by decide +kernel
theorem dX11_worlds_129 : decode cX11_worlds 129 = .ok (.iload 6, 2) := by decide +kernel
theorem dX11_worlds_131 : decode cX11_worlds 131 = .ok (.ireturn, 1) := by decide +kernel
