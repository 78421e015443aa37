theorem dX11_moved_0 : decode cX11_moved 0 = .ok (.aload_n 0, 1) := by decide +kernel
theorem dX11_moved_1 : decode cX11_moved 1 = .ok (.getfield 10, 3) := by decide +kernel
theorem dX11_moved_4 : decode cX11_moved 4 = .ok (.iload_n 1, 1) := by decide +kernel
theorem dX11_moved_5 : decode cX11_moved 5 = .ok (.invokevirtual 66, 3) := by decide +kernel
theorem dX11_moved_8 : decode cX11_moved 8 = .ok (.ifCond .eq 12, 3) := by decide +kernel
theorem dX11_moved_11 : decode cX11_moved 11 = .ok (.iload_n 2, 1) := by decide +kernel
theorem dX11_moved_12 : decode cX11_moved 12 = .ok (.ifCond .lt 8, 3) := by decide +kernel
theorem dX11_moved_15 : decode cX11_moved 15 = .ok (.iload_n 2, 1) := by decide +kernel
theorem dX11_moved_16 : decode cX11_moved 16 = .ok (.iconst 2, 1) := by decide +kernel
theorem dX11_moved_17 : decode cX11_moved 17 = .ok (.if_icmp .le 6, 3) := by decide +kernel
theorem dX11_moved_20 : decode cX11_moved 20 = .ok (.ldc 80, 2) := by decide +kernel
theorem dX11_moved_22 : decode cX11_moved 22 = .ok (.ireturn, 1) := by decide +kernel
theorem dX11_moved_23 : decode cX11_moved 23 = .ok (.aload_n 0, 1) := by decide +kernel
theorem dX11_moved_24 : decode cX11_moved 24 = .ok (.invokevirtual 180, 3) := by decide +kernel
theorem dX11_moved_27 : decode cX11_moved 27 = .ok (.iload_n 2, 1) := by decide +kernel
theorem dX11_moved_28 : decode cX11_moved 28 = .ok (.iconst 2, 1) := by decide +kernel
theorem dX11_moved_29 : decode cX11_moved 29 = .ok (.if_icmp .ne 20, 3) := by decide +kernel
theorem dX11_moved_32 : decode cX11_moved 32 = .ok (.aload_n 0, 1) := by decide +kernel
theorem dX11_moved_33 : decode cX11_moved 33 = .ok (.getfield 16, 3) := by decide +kernel
theorem dX11_moved_36 : decode cX11_moved 36 = .ok (.iload_n 1, 1) := by decide +kernel
theorem dX11_moved_37 : decode cX11_moved 37 = .ok (.invokevirtual 110, 3) := by decide +kernel
theorem dX11_moved_40 : decode cX11_moved 40 = .ok (.ifCond .eq 7, 3) := by decide +kernel
theorem dX11_moved_43 : decode cX11_moved 43 = .ok (.iconst 1, 1) := by decide +kernel
theorem dX11_moved_44 : decode cX11_moved 44 = .ok (.goto 4, 3) := by decide +kernel
theorem dX11_moved_47 : decode cX11_moved 47 = .ok (.iconst 0, 1) := by decide +kernel
theorem dX11_moved_48 : decode cX11_moved 48 = .ok (.ireturn, 1) := by decide +kernel
theorem dX11_moved_49 : decode cX11_moved 49 = .ok (.iload_n 2, 1) := by decide +kernel
theorem dX11_moved_50 : decode cX11_moved 50 = .ok (.ifCond .ne 13, 3) := by decide +kernel
theorem dX11_moved_53 : decode cX11_moved 53 = .ok (.aload_n 0, 1) := by decide +kernel
theorem dX11_moved_54 : decode cX11_moved 54 = .ok (.getfield 16, 3) := by decide +kernel
theorem dX11_moved_57 : decode cX11_moved 57 = .ok (.getfield 192, 3) := by decide +kernel
theorem dX11_moved_60 : decode cX11_moved 60 = .ok (.goto 10, 3) := by decide +kernel
theorem dX11_moved_63 : decode cX11_moved 63 = .ok (.aload_n 0, 1) := by decide +kernel
theorem dX11_moved_64 : decode cX11_moved 64 = .ok (.getfield 16, 3) := by decide +kernel
theorem dX11_moved_67 : decode cX11_moved 67 = .ok (.getfield 104, 3) := by decide +kernel
theorem dX11_moved_70 : decode cX11_moved 70 = .ok (.astore_n 3, 1) := by decide +kernel
theorem dX11_moved_71 : decode cX11_moved 71 = .ok (.aload_n 3, 1) := by decide +kernel
theorem dX11_moved_72 : decode cX11_moved 72 = .ok (.iload_n 1, 1) := by decide +kernel
theorem dX11_moved_73 : decode cX11_moved 73 = .ok (.invokestatic 72, 3) := by decide +kernel
theorem dX11_moved_76 : decode cX11_moved 76 = .ok (.istore 4, 2) := by decide +kernel
theorem dX11_moved_78 : decode cX11_moved 78 = .ok (.aload_n 0, 1) := by decide +kernel
theorem dX11_moved_79 : decode cX11_moved 79 = .ok (.getfield 16, 3) := by decide +kernel
theorem dX11_moved_82 : decode cX11_moved 82 = .ok (.invokevirtual 162, 3) := by decide +kernel
theorem dX11_moved_85 : decode cX11_moved 85 = .ok (.iload 4, 2) := by decide +kernel
theorem dX11_moved_87 : decode cX11_moved 87 = .ok (.aload_n 3, 1) := by decide +kernel
theorem dX11_moved_88 : decode cX11_moved 88 = .ok (.iload_n 1, 1) := by decide +kernel
theorem dX11_moved_89 : decode cX11_moved 89 = .ok (.invokestatic 72, 3) := by decide +kernel
theorem dX11_moved_92 : decode cX11_moved 92 = .ok (.isub, 1) := by decide +kernel
theorem dX11_moved_93 : decode cX11_moved 93 = .ok (.ireturn, 1) := by decide +kernel
theorem dX3_isShared_0 : decode cX3_isShared 0 = .ok (.aload_n 0, 1) := by decide +kernel
theorem dX3_isShared_1 : decode cX3_isShared 1 = .ok (.getfield 83, 3) := by decide +kernel
theorem dX3_isShared_4 : decode cX3_isShared 4 = .ok (.iload_n 1, 1) := by decide +kernel
theorem dX3_isShared_5 : decode cX3_isShared 5 = .ok (.ishr, 1) := by decide +kernel
theorem dX3_isShared_6 : decode cX3_isShared 6 = .ok (.iconst 1, 1) := by decide +kernel
theorem dX3_isShared_7 : decode cX3_isShared 7 = .ok (.iand, 1) := by decide +kernel
theorem dX3_isShared_8 : decode cX3_isShared 8 = .ok (.iconst 1, 1) := by decide +kernel
theorem dX3_isShared_9 : decode cX3_isShared 9 = .ok (.if_icmp .ne 7, 3) := by decide +kernel
theorem dX3_isShared_12 : decode cX3_isShared 12 = .ok (.iconst 1, 1) := by decide +kernel
theorem dX3_isShared_13 : decode cX3_isShared 13 = .ok (.goto 4, 3) := by decide +kernel
theorem dX3_isShared_16 : decode cX3_isShared 16 = .ok (.iconst 0, 1) := by decide +kernel
theorem dX3_isShared_17 : decode cX3_isShared 17 = .ok (.ireturn, 1) := by decide +kernel
theorem dX11_out_0 : decode cX11_out 0 = .ok (.iload_n 1, 1) := by decide +kernel
theorem dX11_out_1 : decode cX11_out 1 = .ok (.ifCond .lt 14, 3) := by decide +kernel
theorem dX11_out_4 : decode cX11_out 4 = .ok (.iload_n 1, 1) := by decide +kernel
theorem dX11_out_5 : decode cX11_out 5 = .ok (.aload_n 0, 1) := by decide +kernel
theorem dX11_out_6 : decode cX11_out 6 = .ok (.getfield 10, 3) := by decide +kernel
theorem dX11_out_9 : decode cX11_out 9 = .ok (.getfield 29, 3) := by decide +kernel
theorem dX11_out_12 : decode cX11_out 12 = .ok (.if_icmp .lt 5, 3) := by decide +kernel
theorem dX11_out_15 : decode cX11_out 15 = .ok (.iconst (-1), 1) := by decide +kernel
theorem dX11_out_16 : decode cX11_out 16 = .ok (.ireturn, 1) := by decide +kernel
theorem dX11_out_17 : decode cX11_out 17 = .ok (.aload_n 0, 1) := by decide +kernel
theorem dX11_out_18 : decode cX11_out 18 = .ok (.getfield 10, 3) := by decide +kernel
theorem dX11_out_21 : decode cX11_out 21 = .ok (.getfield 48, 3) := by decide +kernel
theorem dX11_out_24 : decode cX11_out 24 = .ok (.ifCond .ne 6, 3) := by decide +kernel
theorem dX11_out_27 : decode cX11_out 27 = .ok (.bipush (-3), 2) := by decide +kernel
theorem dX11_out_29 : decode cX11_out 29 = .ok (.ireturn, 1) := by decide +kernel
theorem dX11_out_30 : decode cX11_out 30 = .ok (.aload_n 0, 1) := by decide +kernel
theorem dX11_out_31 : decode cX11_out 31 = .ok (.getfield 16, 3) := by decide +kernel
theorem dX11_out_34 : decode cX11_out 34 = .ok (.aload_n 0, 1) := by decide +kernel
theorem dX11_out_35 : decode cX11_out 35 = .ok (.getfield 10, 3) := by decide +kernel
theorem dX11_out_38 : decode cX11_out 38 = .ok (.iconst 0, 1) := by decide +kernel
theorem dX11_out_39 : decode cX11_out 39 = .ok (.invokevirtual 195, 3) := by decide +kernel
theorem dX11_out_42 : decode cX11_out 42 = .ok (.aload_n 0, 1) := by decide +kernel
theorem dX11_out_43 : decode cX11_out 43 = .ok (.getfield 16, 3) := by decide +kernel
theorem dX11_out_46 : decode cX11_out 46 = .ok (.invokevirtual 162, 3) := by decide +kernel
theorem dX11_out_49 : decode cX11_out 49 = .ok (.iconst 0, 1) := by decide +kernel
theorem dX11_out_50 : decode cX11_out 50 = .ok (.istore_n 2, 1) := by decide +kernel
theorem dX11_out_51 : decode cX11_out 51 = .ok (.iconst 0, 1) := by decide +kernel
theorem dX11_out_52 : decode cX11_out 52 = .ok (.istore_n 3, 1) := by decide +kernel
theorem dX11_out_53 : decode cX11_out 53 = .ok (.iload_n 3, 1) := by decide +kernel
theorem dX11_out_54 : decode cX11_out 54 = .ok (.sipush 3000, 3) := by decide +kernel
theorem dX11_out_57 : decode cX11_out 57 = .ok (.if_icmp .ge 47, 3) := by decide +kernel
theorem dX11_out_60 : decode cX11_out 60 = .ok (.aload_n 0, 1) := by decide +kernel
theorem dX11_out_61 : decode cX11_out 61 = .ok (.getfield 16, 3) := by decide +kernel
theorem dX11_out_64 : decode cX11_out 64 = .ok (.iload_n 1, 1) := by decide +kernel
theorem dX11_out_65 : decode cX11_out 65 = .ok (.invokevirtual 199, 3) := by decide +kernel
theorem dX11_out_68 : decode cX11_out 68 = .ok (.ifCond .ne 36, 3) := by decide +kernel
theorem dX11_out_71 : decode cX11_out 71 = .ok (.aload_n 0, 1) := by decide +kernel
theorem dX11_out_72 : decode cX11_out 72 = .ok (.getfield 16, 3) := by decide +kernel
theorem dX11_out_75 : decode cX11_out 75 = .ok (.invokevirtual 165, 3) := by decide +kernel
theorem dX11_out_78 : decode cX11_out 78 = .ok (.bipush (-4), 2) := by decide +kernel
theorem dX11_out_80 : decode cX11_out 80 = .ok (.if_icmp .ne 24, 3) := by decide +kernel
theorem dX11_out_83 : decode cX11_out 83 = .ok (.aload_n 0, 1) := by decide +kernel
theorem dX11_out_84 : decode cX11_out 84 = .ok (.getfield 16, 3) := by decide +kernel
theorem dX11_out_87 : decode cX11_out 87 = .ok (.getfield 171, 3) := by decide +kernel
theorem dX11_out_90 : decode cX11_out 90 = .ok (.istore_n 2, 1) := by decide +kernel
theorem dX11_out_91 : decode cX11_out 91 = .ok (.aload_n 0, 1) := by decide +kernel
theorem dX11_out_92 : decode cX11_out 92 = .ok (.getfield 16, 3) := by decide +kernel
theorem dX11_out_95 : decode cX11_out 95 = .ok (.invokevirtual 168, 3) := by decide +kernel
theorem dX11_out_98 : decode cX11_out 98 = .ok (.iinc 3 1, 3) := by decide +kernel
theorem dX11_out_101 : decode cX11_out 101 = .ok (.goto (-48), 3) := by decide +kernel
theorem dX11_out_104 : decode cX11_out 104 = .ok (.aload_n 0, 1) := by decide +kernel
theorem dX11_out_105 : decode cX11_out 105 = .ok (.getfield 16, 3) := by decide +kernel
theorem dX11_out_108 : decode cX11_out 108 = .ok (.iload_n 1, 1) := by decide +kernel
theorem dX11_out_109 : decode cX11_out 109 = .ok (.invokevirtual 199, 3) := by decide +kernel
theorem dX11_out_112 : decode cX11_out 112 = .ok (.ifCond .eq 7, 3) := by decide +kernel
theorem dX11_out_115 : decode cX11_out 115 = .ok (.iload_n 2, 1) := by decide +kernel
theorem dX11_out_116 : decode cX11_out 116 = .ok (.goto 5, 3) := by decide +kernel
theorem dX11_out_119 : decode cX11_out 119 = .ok (.bipush (-4), 2) := by decide +kernel
theorem dX11_out_121 : decode cX11_out 121 = .ok (.ireturn, 1) := by decide +kernel
theorem dX11_one_0 : decode cX11_one 0 = .ok (.iconst 0, 1) := by decide +kernel
theorem dX11_one_1 : decode cX11_one 1 = .ok (.istore_n 1, 1) := by decide +kernel
theorem dX11_one_2 : decode cX11_one 2 = .ok (.iconst 0, 1) := by decide +kernel
theorem dX11_one_3 : decode cX11_one 3 = .ok (.istore_n 2, 1) := by decide +kernel
theorem dX11_one_4 : decode cX11_one 4 = .ok (.iconst 0, 1) := by decide +kernel
theorem dX11_one_5 : decode cX11_one 5 = .ok (.istore_n 3, 1) := by decide +kernel
theorem dX11_one_6 : decode cX11_one 6 = .ok (.iload_n 3, 1) := by decide +kernel
theorem dX11_one_7 : decode cX11_one 7 = .ok (.aload_n 0, 1) := by decide +kernel
theorem dX11_one_8 : decode cX11_one 8 = .ok (.getfield 10, 3) := by decide +kernel
theorem dX11_one_11 : decode cX11_one 11 = .ok (.getfield 48, 3) := by decide +kernel
theorem dX11_one_14 : decode cX11_one 14 = .ok (.if_icmp .ge 34, 3) := by decide +kernel
theorem dX11_one_17 : decode cX11_one 17 = .ok (.aload_n 0, 1) := by decide +kernel
theorem dX11_one_18 : decode cX11_one 18 = .ok (.getfield 10, 3) := by decide +kernel
theorem dX11_one_21 : decode cX11_one 21 = .ok (.getfield 69, 3) := by decide +kernel
theorem dX11_one_24 : decode cX11_one 24 = .ok (.iload_n 3, 1) := by decide +kernel
theorem dX11_one_25 : decode cX11_one 25 = .ok (.invokestatic 72, 3) := by decide +kernel
theorem dX11_one_28 : decode cX11_one 28 = .ok (.istore 4, 2) := by decide +kernel
theorem dX11_one_30 : decode cX11_one 30 = .ok (.iload_n 2, 1) := by decide +kernel
theorem dX11_one_31 : decode cX11_one 31 = .ok (.iload_n 1, 1) := by decide +kernel
theorem dX11_one_32 : decode cX11_one 32 = .ok (.iload 4, 2) := by decide +kernel
theorem dX11_one_34 : decode cX11_one 34 = .ok (.iand, 1) := by decide +kernel
theorem dX11_one_35 : decode cX11_one 35 = .ok (.ior, 1) := by decide +kernel
theorem dX11_one_36 : decode cX11_one 36 = .ok (.istore_n 2, 1) := by decide +kernel
theorem dX11_one_37 : decode cX11_one 37 = .ok (.iload_n 1, 1) := by decide +kernel
theorem dX11_one_38 : decode cX11_one 38 = .ok (.iload 4, 2) := by decide +kernel
theorem dX11_one_40 : decode cX11_one 40 = .ok (.ior, 1) := by decide +kernel
theorem dX11_one_41 : decode cX11_one 41 = .ok (.istore_n 1, 1) := by decide +kernel
theorem dX11_one_42 : decode cX11_one 42 = .ok (.iinc 3 1, 3) := by decide +kernel
theorem dX11_one_45 : decode cX11_one 45 = .ok (.goto (-39), 3) := by decide +kernel
theorem dX11_one_48 : decode cX11_one 48 = .ok (.iload_n 1, 1) := by decide +kernel
theorem dX11_one_49 : decode cX11_one 49 = .ok (.iload_n 2, 1) := by decide +kernel
theorem dX11_one_50 : decode cX11_one 50 = .ok (.iconst (-1), 1) := by decide +kernel
theorem dX11_one_51 : decode cX11_one 51 = .ok (.ixor, 1) := by decide +kernel
theorem dX11_one_52 : decode cX11_one 52 = .ok (.iand, 1) := by decide +kernel
theorem dX11_one_53 : decode cX11_one 53 = .ok (.ireturn, 1) := by decide +kernel
theorem dX11_six_0 : decode cX11_six 0 = .ok (.iload_n 1, 1) := by decide +kernel
theorem dX11_six_1 : decode cX11_six 1 = .ok (.iconst 1, 1) := by decide +kernel
theorem dX11_six_2 : decode cX11_six 2 = .ok (.if_icmp .lt 23, 3) := by decide +kernel
theorem dX11_six_5 : decode cX11_six 5 = .ok (.iload_n 1, 1) := by decide +kernel
theorem dX11_six_6 : decode cX11_six 6 = .ok (.aload_n 0, 1) := by decide +kernel
theorem dX11_six_7 : decode cX11_six 7 = .ok (.getfield 10, 3) := by decide +kernel
theorem dX11_six_10 : decode cX11_six 10 = .ok (.getfield 48, 3) := by decide +kernel
theorem dX11_six_13 : decode cX11_six 13 = .ok (.if_icmp .gt 12, 3) := by decide +kernel
theorem dX11_six_16 : decode cX11_six 16 = .ok (.iload_n 2, 1) := by decide +kernel
theorem dX11_six_17 : decode cX11_six 17 = .ok (.ifCond .lt 8, 3) := by decide +kernel
theorem dX11_six_20 : decode cX11_six 20 = .ok (.iload_n 2, 1) := by decide +kernel
theorem dX11_six_21 : decode cX11_six 21 = .ok (.iconst 2, 1) := by decide +kernel
theorem dX11_six_22 : decode cX11_six 22 = .ok (.if_icmp .le 5, 3) := by decide +kernel
theorem dX11_six_25 : decode cX11_six 25 = .ok (.iconst (-1), 1) := by decide +kernel
theorem dX11_six_26 : decode cX11_six 26 = .ok (.ireturn, 1) := by decide +kernel
theorem dX11_six_27 : decode cX11_six 27 = .ok (.aload_n 0, 1) := by decide +kernel
theorem dX11_six_28 : decode cX11_six 28 = .ok (.getfield 16, 3) := by decide +kernel
theorem dX11_six_31 : decode cX11_six 31 = .ok (.aload_n 0, 1) := by decide +kernel
theorem dX11_six_32 : decode cX11_six 32 = .ok (.getfield 10, 3) := by decide +kernel
theorem dX11_six_35 : decode cX11_six 35 = .ok (.iconst (-1), 1) := by decide +kernel
theorem dX11_six_36 : decode cX11_six 36 = .ok (.iload_n 1, 1) := by decide +kernel
theorem dX11_six_37 : decode cX11_six 37 = .ok (.ishl, 1) := by decide +kernel
theorem dX11_six_38 : decode cX11_six 38 = .ok (.invokevirtual 195, 3) := by decide +kernel
theorem dX11_six_41 : decode cX11_six 41 = .ok (.aload_n 0, 1) := by decide +kernel
theorem dX11_six_42 : decode cX11_six 42 = .ok (.getfield 16, 3) := by decide +kernel
theorem dX11_six_45 : decode cX11_six 45 = .ok (.invokevirtual 202, 3) := by decide +kernel
theorem dX11_six_48 : decode cX11_six 48 = .ok (.istore_n 3, 1) := by decide +kernel
theorem dX11_six_49 : decode cX11_six 49 = .ok (.iload_n 2, 1) := by decide +kernel
theorem dX11_six_50 : decode cX11_six 50 = .ok (.lookupswitch 36 #[(0, 26), (1, 28)], 26) := by decide +kernel
theorem dX11_six_76 : decode cX11_six 76 = .ok (.iload_n 3, 1) := by decide +kernel
theorem dX11_six_77 : decode cX11_six 77 = .ok (.ireturn, 1) := by decide +kernel
theorem dX11_six_78 : decode cX11_six 78 = .ok (.aload_n 0, 1) := by decide +kernel
theorem dX11_six_79 : decode cX11_six 79 = .ok (.getfield 16, 3) := by decide +kernel
theorem dX11_six_82 : decode cX11_six 82 = .ok (.getfield 171, 3) := by decide +kernel
theorem dX11_six_85 : decode cX11_six 85 = .ok (.ireturn, 1) := by decide +kernel
theorem dX11_six_86 : decode cX11_six 86 = .ok (.aload_n 0, 1) := by decide +kernel
theorem dX11_six_87 : decode cX11_six 87 = .ok (.getfield 16, 3) := by decide +kernel
theorem dX11_six_90 : decode cX11_six 90 = .ok (.getfield 107, 3) := by decide +kernel
theorem dX11_six_93 : decode cX11_six 93 = .ok (.ireturn, 1) := by decide +kernel
theorem dX11_endWithRule_0 : decode cX11_endWithRule 0 = .ok (.aload_n 0, 1) := by decide +kernel
theorem dX11_endWithRule_1 : decode cX11_endWithRule 1 = .ok (.getfield 16, 3) := by decide +kernel
theorem dX11_endWithRule_4 : decode cX11_endWithRule 4 = .ok (.aload_n 0, 1) := by decide +kernel
theorem dX11_endWithRule_5 : decode cX11_endWithRule 5 = .ok (.getfield 10, 3) := by decide +kernel
theorem dX11_endWithRule_8 : decode cX11_endWithRule 8 = .ok (.iconst 0, 1) := by decide +kernel
theorem dX11_endWithRule_9 : decode cX11_endWithRule 9 = .ok (.invokevirtual 195, 3) := by decide +kernel
theorem dX11_endWithRule_12 : decode cX11_endWithRule 12 = .ok (.aload_n 0, 1) := by decide +kernel
theorem dX11_endWithRule_13 : decode cX11_endWithRule 13 = .ok (.getfield 16, 3) := by decide +kernel
theorem dX11_endWithRule_16 : decode cX11_endWithRule 16 = .ok (.getfield 159, 3) := by decide +kernel
theorem dX11_endWithRule_19 : decode cX11_endWithRule 19 = .ok (.iload_n 1, 1) := by decide +kernel
theorem dX11_endWithRule_20 : decode cX11_endWithRule 20 = .ok (.iload_n 2, 1) := by decide +kernel
theorem dX11_endWithRule_21 : decode cX11_endWithRule 21 = .ok (.invokestatic 37, 3) := by decide +kernel
theorem dX11_endWithRule_24 : decode cX11_endWithRule 24 = .ok (.aload_n 0, 1) := by decide +kernel
theorem dX11_endWithRule_25 : decode cX11_endWithRule 25 = .ok (.getfield 16, 3) := by decide +kernel
theorem dX11_endWithRule_28 : decode cX11_endWithRule 28 = .ok (.invokevirtual 202, 3) := by decide +kernel
theorem dX11_endWithRule_31 : decode cX11_endWithRule 31 = .ok (.ireturn, 1) := by decide +kernel
theorem dX11_lost_0 : decode cX11_lost 0 = .ok (.iload_n 1, 1) := by decide +kernel
theorem dX11_lost_1 : decode cX11_lost 1 = .ok (.iconst 1, 1) := by decide +kernel
theorem dX11_lost_2 : decode cX11_lost 2 = .ok (.if_icmp .lt 9, 3) := by decide +kernel
theorem dX11_lost_5 : decode cX11_lost 5 = .ok (.iload_n 1, 1) := by decide +kernel
theorem dX11_lost_6 : decode cX11_lost 6 = .ok (.bipush 12, 2) := by decide +kernel
theorem dX11_lost_8 : decode cX11_lost 8 = .ok (.if_icmp .le 5, 3) := by decide +kernel
theorem dX11_lost_11 : decode cX11_lost 11 = .ok (.iconst (-1), 1) := by decide +kernel
theorem dX11_lost_12 : decode cX11_lost 12 = .ok (.ireturn, 1) := by decide +kernel
theorem dX11_lost_13 : decode cX11_lost 13 = .ok (.aload_n 0, 1) := by decide +kernel
theorem dX11_lost_14 : decode cX11_lost 14 = .ok (.getfield 10, 3) := by decide +kernel
theorem dX11_lost_17 : decode cX11_lost 17 = .ok (.getfield 48, 3) := by decide +kernel
theorem dX11_lost_20 : decode cX11_lost 20 = .ok (.ifCond .ne 6, 3) := by decide +kernel
theorem dX11_lost_23 : decode cX11_lost 23 = .ok (.bipush (-3), 2) := by decide +kernel
theorem dX11_lost_25 : decode cX11_lost 25 = .ok (.ireturn, 1) := by decide +kernel
theorem dX11_lost_26 : decode cX11_lost 26 = .ok (.aload_n 0, 1) := by decide +kernel
theorem dX11_lost_27 : decode cX11_lost 27 = .ok (.iconst 0, 1) := by decide +kernel
theorem dX11_lost_28 : decode cX11_lost 28 = .ok (.bipush 12, 2) := by decide +kernel
theorem dX11_lost_30 : decode cX11_lost 30 = .ok (.invokevirtual 205, 3) := by decide +kernel
theorem dX11_lost_33 : decode cX11_lost 33 = .ok (.pop, 1) := by decide +kernel
theorem dX11_lost_34 : decode cX11_lost 34 = .ok (.aload_n 0, 1) := by decide +kernel
theorem dX11_lost_35 : decode cX11_lost 35 = .ok (.getfield 16, 3) := by decide +kernel
theorem dX11_lost_38 : decode cX11_lost 38 = .ok (.getfield 177, 3) := by decide +kernel
theorem dX11_lost_41 : decode cX11_lost 41 = .ok (.istore_n 2, 1) := by decide +kernel
theorem dX11_lost_42 : decode cX11_lost 42 = .ok (.aload_n 0, 1) := by decide +kernel
theorem dX11_lost_43 : decode cX11_lost 43 = .ok (.iconst 0, 1) := by decide +kernel
theorem dX11_lost_44 : decode cX11_lost 44 = .ok (.iload_n 1, 1) := by decide +kernel
theorem dX11_lost_45 : decode cX11_lost 45 = .ok (.invokevirtual 205, 3) := by decide +kernel
theorem dX11_lost_48 : decode cX11_lost 48 = .ok (.pop, 1) := by decide +kernel
theorem dX11_lost_49 : decode cX11_lost 49 = .ok (.iload_n 2, 1) := by decide +kernel
theorem dX11_lost_50 : decode cX11_lost 50 = .ok (.aload_n 0, 1) := by decide +kernel
theorem dX11_lost_51 : decode cX11_lost 51 = .ok (.getfield 16, 3) := by decide +kernel
theorem dX11_lost_54 : decode cX11_lost 54 = .ok (.getfield 177, 3) := by decide +kernel
theorem dX11_lost_57 : decode cX11_lost 57 = .ok (.iconst (-1), 1) := by decide +kernel
theorem dX11_lost_58 : decode cX11_lost 58 = .ok (.ixor, 1) := by decide +kernel
theorem dX11_lost_59 : decode cX11_lost 59 = .ok (.iand, 1) := by decide +kernel
theorem dX11_lost_60 : decode cX11_lost 60 = .ok (.ireturn, 1) := by decide +kernel
theorem dX11_isEnd_0 : decode cX11_isEnd 0 = .ok (.iload_n 0, 1) := by decide +kernel
theorem dX11_isEnd_1 : decode cX11_isEnd 1 = .ok (.ifCond .eq 13, 3) := by decide +kernel
theorem dX11_isEnd_4 : decode cX11_isEnd 4 = .ok (.iload_n 0, 1) := by decide +kernel
theorem dX11_isEnd_5 : decode cX11_isEnd 5 = .ok (.iconst 1, 1) := by decide +kernel
theorem dX11_isEnd_6 : decode cX11_isEnd 6 = .ok (.if_icmp .eq 8, 3) := by decide +kernel
theorem dX11_isEnd_9 : decode cX11_isEnd 9 = .ok (.iload_n 0, 1) := by decide +kernel
theorem dX11_isEnd_10 : decode cX11_isEnd 10 = .ok (.iconst 2, 1) := by decide +kernel
theorem dX11_isEnd_11 : decode cX11_isEnd 11 = .ok (.if_icmp .ne 7, 3) := by decide +kernel
theorem dX11_isEnd_14 : decode cX11_isEnd 14 = .ok (.iconst 1, 1) := by decide +kernel
theorem dX11_isEnd_15 : decode cX11_isEnd 15 = .ok (.goto 4, 3) := by decide +kernel
theorem dX11_isEnd_18 : decode cX11_isEnd 18 = .ok (.iconst 0, 1) := by decide +kernel
theorem dX11_isEnd_19 : decode cX11_isEnd 19 = .ok (.ireturn, 1) := by decide +kernel
