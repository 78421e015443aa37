theorem dX3_giveToAll_0 : decode cX3_giveToAll 0 = .ok (.iconst 0, 1) := by decide +kernel
theorem dX3_giveToAll_1 : decode cX3_giveToAll 1 = .ok (.istore_n 2, 1) := by decide +kernel
theorem dX3_giveToAll_2 : decode cX3_giveToAll 2 = .ok (.iload_n 2, 1) := by decide +kernel
theorem dX3_giveToAll_3 : decode cX3_giveToAll 3 = .ok (.aload_n 0, 1) := by decide +kernel
theorem dX3_giveToAll_4 : decode cX3_giveToAll 4 = .ok (.getfield 45, 3) := by decide +kernel
theorem dX3_giveToAll_7 : decode cX3_giveToAll 7 = .ok (.if_icmp .ge 64, 3) := by decide +kernel
theorem dX3_giveToAll_10 : decode cX3_giveToAll 10 = .ok (.aload_n 0, 1) := by decide +kernel
theorem dX3_giveToAll_11 : decode cX3_giveToAll 11 = .ok (.getfield 33, 3) := by decide +kernel
theorem dX3_giveToAll_14 : decode cX3_giveToAll 14 = .ok (.iload_n 2, 1) := by decide +kernel
theorem dX3_giveToAll_15 : decode cX3_giveToAll 15 = .ok (.invokestatic 60, 3) := by decide +kernel
theorem dX3_giveToAll_18 : decode cX3_giveToAll 18 = .ok (.istore_n 3, 1) := by decide +kernel
theorem dX3_giveToAll_19 : decode cX3_giveToAll 19 = .ok (.iload_n 3, 1) := by decide +kernel
theorem dX3_giveToAll_20 : decode cX3_giveToAll 20 = .ok (.iload_n 1, 1) := by decide +kernel
theorem dX3_giveToAll_21 : decode cX3_giveToAll 21 = .ok (.ishr, 1) := by decide +kernel
theorem dX3_giveToAll_22 : decode cX3_giveToAll 22 = .ok (.iconst 1, 1) := by decide +kernel
theorem dX3_giveToAll_23 : decode cX3_giveToAll 23 = .ok (.iand, 1) := by decide +kernel
theorem dX3_giveToAll_24 : decode cX3_giveToAll 24 = .ok (.ifCond .ne 41, 3) := by decide +kernel
theorem dX3_giveToAll_27 : decode cX3_giveToAll 27 = .ok (.aload_n 0, 1) := by decide +kernel
theorem dX3_giveToAll_28 : decode cX3_giveToAll 28 = .ok (.getfield 33, 3) := by decide +kernel
theorem dX3_giveToAll_31 : decode cX3_giveToAll 31 = .ok (.iload_n 2, 1) := by decide +kernel
theorem dX3_giveToAll_32 : decode cX3_giveToAll 32 = .ok (.iload_n 3, 1) := by decide +kernel
theorem dX3_giveToAll_33 : decode cX3_giveToAll 33 = .ok (.iconst 1, 1) := by decide +kernel
theorem dX3_giveToAll_34 : decode cX3_giveToAll 34 = .ok (.iload_n 1, 1) := by decide +kernel
theorem dX3_giveToAll_35 : decode cX3_giveToAll 35 = .ok (.ishl, 1) := by decide +kernel
theorem dX3_giveToAll_36 : decode cX3_giveToAll 36 = .ok (.ior, 1) := by decide +kernel
theorem dX3_giveToAll_37 : decode cX3_giveToAll 37 = .ok (.invokestatic 56, 3) := by decide +kernel
theorem dX3_giveToAll_40 : decode cX3_giveToAll 40 = .ok (.aload_n 0, 1) := by decide +kernel
theorem dX3_giveToAll_41 : decode cX3_giveToAll 41 = .ok (.getfield 36, 3) := by decide +kernel
theorem dX3_giveToAll_44 : decode cX3_giveToAll 44 = .ok (.iload_n 2, 1) := by decide +kernel
theorem dX3_giveToAll_45 : decode cX3_giveToAll 45 = .ok (.aload_n 0, 1) := by decide +kernel
theorem dX3_giveToAll_46 : decode cX3_giveToAll 46 = .ok (.getfield 36, 3) := by decide +kernel
theorem dX3_giveToAll_49 : decode cX3_giveToAll 49 = .ok (.iload_n 2, 1) := by decide +kernel
theorem dX3_giveToAll_50 : decode cX3_giveToAll 50 = .ok (.invokestatic 60, 3) := by decide +kernel
theorem dX3_giveToAll_53 : decode cX3_giveToAll 53 = .ok (.aload_n 0, 1) := by decide +kernel
theorem dX3_giveToAll_54 : decode cX3_giveToAll 54 = .ok (.getfield 9, 3) := by decide +kernel
theorem dX3_giveToAll_57 : decode cX3_giveToAll 57 = .ok (.iload_n 1, 1) := by decide +kernel
theorem dX3_giveToAll_58 : decode cX3_giveToAll 58 = .ok (.invokestatic 60, 3) := by decide +kernel
theorem dX3_giveToAll_61 : decode cX3_giveToAll 61 = .ok (.iadd, 1) := by decide +kernel
theorem dX3_giveToAll_62 : decode cX3_giveToAll 62 = .ok (.invokestatic 56, 3) := by decide +kernel
theorem dX3_giveToAll_65 : decode cX3_giveToAll 65 = .ok (.iinc 2 1, 3) := by decide +kernel
theorem dX3_giveToAll_68 : decode cX3_giveToAll 68 = .ok (.goto (-66), 3) := by decide +kernel
theorem dX3_giveToAll_71 : decode cX3_giveToAll 71 = .ok (.aload_n 0, 1) := by decide +kernel
theorem dX3_giveToAll_72 : decode cX3_giveToAll 72 = .ok (.dup, 1) := by decide +kernel
theorem dX3_giveToAll_73 : decode cX3_giveToAll 73 = .ok (.getfield 83, 3) := by decide +kernel
theorem dX3_giveToAll_76 : decode cX3_giveToAll 76 = .ok (.iconst 1, 1) := by decide +kernel
theorem dX3_giveToAll_77 : decode cX3_giveToAll 77 = .ok (.iload_n 1, 1) := by decide +kernel
theorem dX3_giveToAll_78 : decode cX3_giveToAll 78 = .ok (.ishl, 1) := by decide +kernel
theorem dX3_giveToAll_79 : decode cX3_giveToAll 79 = .ok (.ior, 1) := by decide +kernel
theorem dX3_giveToAll_80 : decode cX3_giveToAll 80 = .ok (.putfield 83, 3) := by decide +kernel
theorem dX3_giveToAll_83 : decode cX3_giveToAll 83 = .ok (.return_, 1) := by decide +kernel
theorem dX9_act_0 : decode cX9_act 0 = .ok (.aload_n 1, 1) := by decide +kernel
theorem dX9_act_1 : decode cX9_act 1 = .ok (.iload_n 2, 1) := by decide +kernel
theorem dX9_act_2 : decode cX9_act 2 = .ok (.invokevirtual 7, 3) := by decide +kernel
theorem dX9_act_5 : decode cX9_act 5 = .ok (.istore_n 3, 1) := by decide +kernel
theorem dX9_act_6 : decode cX9_act 6 = .ok (.iload_n 3, 1) := by decide +kernel
theorem dX9_act_7 : decode cX9_act 7 = .ok (.ifCond .lt 8, 3) := by decide +kernel
theorem dX9_act_10 : decode cX9_act 10 = .ok (.aload_n 1, 1) := by decide +kernel
theorem dX9_act_11 : decode cX9_act 11 = .ok (.iload_n 3, 1) := by decide +kernel
theorem dX9_act_12 : decode cX9_act 12 = .ok (.invokevirtual 13, 3) := by decide +kernel
theorem dX9_act_15 : decode cX9_act 15 = .ok (.return_, 1) := by decide +kernel
theorem dX8_act_0 : decode cX8_act 0 = .ok (.aload_n 0, 1) := by decide +kernel
theorem dX8_act_1 : decode cX8_act 1 = .ok (.aload_n 1, 1) := by decide +kernel
theorem dX8_act_2 : decode cX8_act 2 = .ok (.iload_n 2, 1) := by decide +kernel
theorem dX8_act_3 : decode cX8_act 3 = .ok (.invokespecial 7, 3) := by decide +kernel
theorem dX8_act_6 : decode cX8_act 6 = .ok (.aload_n 1, 1) := by decide +kernel
theorem dX8_act_7 : decode cX8_act 7 = .ok (.invokevirtual 11, 3) := by decide +kernel
theorem dX8_act_10 : decode cX8_act 10 = .ok (.istore_n 3, 1) := by decide +kernel
theorem dX8_act_11 : decode cX8_act 11 = .ok (.aload_n 1, 1) := by decide +kernel
theorem dX8_act_12 : decode cX8_act 12 = .ok (.invokevirtual 17, 3) := by decide +kernel
theorem dX8_act_15 : decode cX8_act 15 = .ok (.istore 4, 2) := by decide +kernel
theorem dX8_act_17 : decode cX8_act 17 = .ok (.aload_n 1, 1) := by decide +kernel
theorem dX8_act_18 : decode cX8_act 18 = .ok (.getfield 20, 3) := by decide +kernel
theorem dX8_act_21 : decode cX8_act 21 = .ok (.iload_n 2, 1) := by decide +kernel
theorem dX8_act_22 : decode cX8_act 22 = .ok (.ishr, 1) := by decide +kernel
theorem dX8_act_23 : decode cX8_act 23 = .ok (.iconst 1, 1) := by decide +kernel
theorem dX8_act_24 : decode cX8_act 24 = .ok (.iand, 1) := by decide +kernel
theorem dX8_act_25 : decode cX8_act 25 = .ok (.iconst 1, 1) := by decide +kernel
theorem dX8_act_26 : decode cX8_act 26 = .ok (.if_icmp .ne 7, 3) := by decide +kernel
theorem dX8_act_29 : decode cX8_act 29 = .ok (.iconst 2, 1) := by decide +kernel
theorem dX8_act_30 : decode cX8_act 30 = .ok (.goto 5, 3) := by decide +kernel
theorem dX8_act_33 : decode cX8_act 33 = .ok (.bipush (-2), 2) := by decide +kernel
theorem dX8_act_35 : decode cX8_act 35 = .ok (.istore 5, 2) := by decide +kernel
theorem dX8_act_37 : decode cX8_act 37 = .ok (.iconst 0, 1) := by decide +kernel
theorem dX8_act_38 : decode cX8_act 38 = .ok (.istore 6, 2) := by decide +kernel
theorem dX8_act_40 : decode cX8_act 40 = .ok (.iload 6, 2) := by decide +kernel
theorem dX8_act_42 : decode cX8_act 42 = .ok (.aload_n 1, 1) := by decide +kernel
theorem dX8_act_43 : decode cX8_act 43 = .ok (.getfield 24, 3) := by decide +kernel
theorem dX8_act_46 : decode cX8_act 46 = .ok (.if_icmp .ge 73, 3) := by decide +kernel
theorem dX8_act_49 : decode cX8_act 49 = .ok (.aload_n 1, 1) := by decide +kernel
theorem dX8_act_50 : decode cX8_act 50 = .ok (.iload 6, 2) := by decide +kernel
theorem dX8_act_52 : decode cX8_act 52 = .ok (.invokevirtual 27, 3) := by decide +kernel
theorem dX8_act_55 : decode cX8_act 55 = .ok (.astore 7, 2) := by decide +kernel
theorem dX8_act_57 : decode cX8_act 57 = .ok (.aload 7, 2) := by decide +kernel
theorem dX8_act_59 : decode cX8_act 59 = .ok (.ifnonnull 9, 3) := by decide +kernel
theorem dX8_act_62 : decode cX8_act 62 = .ok (.ldc2_w 31, 3) := by decide +kernel
theorem dX8_act_65 : decode cX8_act 65 = .ok (.goto 20, 3) := by decide +kernel
theorem dX8_act_68 : decode cX8_act 68 = .ok (.aload_n 1, 1) := by decide +kernel
theorem dX8_act_69 : decode cX8_act 69 = .ok (.iload 6, 2) := by decide +kernel
theorem dX8_act_71 : decode cX8_act 71 = .ok (.iload_n 3, 1) := by decide +kernel
theorem dX8_act_72 : decode cX8_act 72 = .ok (.iload 4, 2) := by decide +kernel
theorem dX8_act_74 : decode cX8_act 74 = .ok (.invokevirtual 33, 3) := by decide +kernel
theorem dX8_act_77 : decode cX8_act 77 = .ok (.i2l, 1) := by decide +kernel
theorem dX8_act_78 : decode cX8_act 78 = .ok (.aload 7, 2) := by decide +kernel
theorem dX8_act_80 : decode cX8_act 80 = .ok (.getfield 37, 3) := by decide +kernel
theorem dX8_act_83 : decode cX8_act 83 = .ok (.i2l, 1) := by decide +kernel
theorem dX8_act_84 : decode cX8_act 84 = .ok (.lsub, 1) := by decide +kernel
theorem dX8_act_85 : decode cX8_act 85 = .ok (.lstore 8, 2) := by decide +kernel
theorem dX8_act_87 : decode cX8_act 87 = .ok (.lload 8, 2) := by decide +kernel
theorem dX8_act_89 : decode cX8_act 89 = .ok (.ldc2_w 42, 3) := by decide +kernel
theorem dX8_act_92 : decode cX8_act 92 = .ok (.lcmp, 1) := by decide +kernel
theorem dX8_act_93 : decode cX8_act 93 = .ok (.ifCond .le 20, 3) := by decide +kernel
theorem dX8_act_96 : decode cX8_act 96 = .ok (.lload 8, 2) := by decide +kernel
theorem dX8_act_98 : decode cX8_act 98 = .ok (.ldc2_w 31, 3) := by decide +kernel
theorem dX8_act_101 : decode cX8_act 101 = .ok (.lcmp, 1) := by decide +kernel
theorem dX8_act_102 : decode cX8_act 102 = .ok (.ifCond .ge 11, 3) := by decide +kernel
theorem dX8_act_105 : decode cX8_act 105 = .ok (.aload_n 1, 1) := by decide +kernel
theorem dX8_act_106 : decode cX8_act 106 = .ok (.iload 6, 2) := by decide +kernel
theorem dX8_act_108 : decode cX8_act 108 = .ok (.iload 5, 2) := by decide +kernel
theorem dX8_act_110 : decode cX8_act 110 = .ok (.invokevirtual 44, 3) := by decide +kernel
theorem dX8_act_113 : decode cX8_act 113 = .ok (.iinc 6 1, 3) := by decide +kernel
theorem dX8_act_116 : decode cX8_act 116 = .ok (.goto (-76), 3) := by decide +kernel
theorem dX8_act_119 : decode cX8_act 119 = .ok (.return_, 1) := by decide +kernel
theorem dX3_takeSlips_0 : decode cX3_takeSlips 0 = .ok (.aload_n 0, 1) := by decide +kernel
theorem dX3_takeSlips_1 : decode cX3_takeSlips 1 = .ok (.invokevirtual 79, 3) := by decide +kernel
theorem dX3_takeSlips_4 : decode cX3_takeSlips 4 = .ok (.istore_n 1, 1) := by decide +kernel
theorem dX3_takeSlips_5 : decode cX3_takeSlips 5 = .ok (.aload_n 0, 1) := by decide +kernel
theorem dX3_takeSlips_6 : decode cX3_takeSlips 6 = .ok (.invokevirtual 145, 3) := by decide +kernel
theorem dX3_takeSlips_9 : decode cX3_takeSlips 9 = .ok (.istore_n 2, 1) := by decide +kernel
theorem dX3_takeSlips_10 : decode cX3_takeSlips 10 = .ok (.iconst 0, 1) := by decide +kernel
theorem dX3_takeSlips_11 : decode cX3_takeSlips 11 = .ok (.istore_n 3, 1) := by decide +kernel
theorem dX3_takeSlips_12 : decode cX3_takeSlips 12 = .ok (.iconst 0, 1) := by decide +kernel
theorem dX3_takeSlips_13 : decode cX3_takeSlips 13 = .ok (.istore 4, 2) := by decide +kernel
theorem dX3_takeSlips_15 : decode cX3_takeSlips 15 = .ok (.iload 4, 2) := by decide +kernel
theorem dX3_takeSlips_17 : decode cX3_takeSlips 17 = .ok (.aload_n 0, 1) := by decide +kernel
theorem dX3_takeSlips_18 : decode cX3_takeSlips 18 = .ok (.getfield 45, 3) := by decide +kernel
theorem dX3_takeSlips_21 : decode cX3_takeSlips 21 = .ok (.if_icmp .ge 86, 3) := by decide +kernel
theorem dX3_takeSlips_24 : decode cX3_takeSlips 24 = .ok (.aload_n 0, 1) := by decide +kernel
theorem dX3_takeSlips_25 : decode cX3_takeSlips 25 = .ok (.iload 4, 2) := by decide +kernel
theorem dX3_takeSlips_27 : decode cX3_takeSlips 27 = .ok (.invokevirtual 89, 3) := by decide +kernel
theorem dX3_takeSlips_30 : decode cX3_takeSlips 30 = .ok (.astore 5, 2) := by decide +kernel
theorem dX3_takeSlips_32 : decode cX3_takeSlips 32 = .ok (.aload 5, 2) := by decide +kernel
theorem dX3_takeSlips_34 : decode cX3_takeSlips 34 = .ok (.ifnull 23, 3) := by decide +kernel
theorem dX3_takeSlips_37 : decode cX3_takeSlips 37 = .ok (.aload_n 0, 1) := by decide +kernel
theorem dX3_takeSlips_38 : decode cX3_takeSlips 38 = .ok (.iload 4, 2) := by decide +kernel
theorem dX3_takeSlips_40 : decode cX3_takeSlips 40 = .ok (.iload_n 1, 1) := by decide +kernel
theorem dX3_takeSlips_41 : decode cX3_takeSlips 41 = .ok (.iload_n 2, 1) := by decide +kernel
theorem dX3_takeSlips_42 : decode cX3_takeSlips 42 = .ok (.invokevirtual 135, 3) := by decide +kernel
theorem dX3_takeSlips_45 : decode cX3_takeSlips 45 = .ok (.aload 5, 2) := by decide +kernel
theorem dX3_takeSlips_47 : decode cX3_takeSlips 47 = .ok (.getfield 139, 3) := by decide +kernel
theorem dX3_takeSlips_50 : decode cX3_takeSlips 50 = .ok (.if_icmp .lt 7, 3) := by decide +kernel
theorem dX3_takeSlips_53 : decode cX3_takeSlips 53 = .ok (.iconst 1, 1) := by decide +kernel
theorem dX3_takeSlips_54 : decode cX3_takeSlips 54 = .ok (.goto 4, 3) := by decide +kernel
theorem dX3_takeSlips_57 : decode cX3_takeSlips 57 = .ok (.iconst 0, 1) := by decide +kernel
theorem dX3_takeSlips_58 : decode cX3_takeSlips 58 = .ok (.istore 6, 2) := by decide +kernel
theorem dX3_takeSlips_60 : decode cX3_takeSlips 60 = .ok (.aload_n 0, 1) := by decide +kernel
theorem dX3_takeSlips_61 : decode cX3_takeSlips 61 = .ok (.iload 4, 2) := by decide +kernel
theorem dX3_takeSlips_63 : decode cX3_takeSlips 63 = .ok (.invokevirtual 158, 3) := by decide +kernel
theorem dX3_takeSlips_66 : decode cX3_takeSlips 66 = .ok (.ifCond .eq 23, 3) := by decide +kernel
theorem dX3_takeSlips_69 : decode cX3_takeSlips 69 = .ok (.aload_n 0, 1) := by decide +kernel
theorem dX3_takeSlips_70 : decode cX3_takeSlips 70 = .ok (.getfield 42, 3) := by decide +kernel
theorem dX3_takeSlips_73 : decode cX3_takeSlips 73 = .ok (.iload 4, 2) := by decide +kernel
theorem dX3_takeSlips_75 : decode cX3_takeSlips 75 = .ok (.invokestatic 60, 3) := by decide +kernel
theorem dX3_takeSlips_78 : decode cX3_takeSlips 78 = .ok (.iconst 1, 1) := by decide +kernel
theorem dX3_takeSlips_79 : decode cX3_takeSlips 79 = .ok (.if_icmp .ne 7, 3) := by decide +kernel
theorem dX3_takeSlips_82 : decode cX3_takeSlips 82 = .ok (.iconst 1, 1) := by decide +kernel
theorem dX3_takeSlips_83 : decode cX3_takeSlips 83 = .ok (.goto 4, 3) := by decide +kernel
theorem dX3_takeSlips_86 : decode cX3_takeSlips 86 = .ok (.iconst 0, 1) := by decide +kernel
theorem dX3_takeSlips_87 : decode cX3_takeSlips 87 = .ok (.istore 6, 2) := by decide +kernel
theorem dX3_takeSlips_89 : decode cX3_takeSlips 89 = .ok (.iload 6, 2) := by decide +kernel
theorem dX3_takeSlips_91 : decode cX3_takeSlips 91 = .ok (.ifCond .eq 10, 3) := by decide +kernel
theorem dX3_takeSlips_94 : decode cX3_takeSlips 94 = .ok (.iload_n 3, 1) := by decide +kernel
theorem dX3_takeSlips_95 : decode cX3_takeSlips 95 = .ok (.iconst 1, 1) := by decide +kernel
theorem dX3_takeSlips_96 : decode cX3_takeSlips 96 = .ok (.iload 4, 2) := by decide +kernel
theorem dX3_takeSlips_98 : decode cX3_takeSlips 98 = .ok (.ishl, 1) := by decide +kernel
theorem dX3_takeSlips_99 : decode cX3_takeSlips 99 = .ok (.ior, 1) := by decide +kernel
theorem dX3_takeSlips_100 : decode cX3_takeSlips 100 = .ok (.istore_n 3, 1) := by decide +kernel
theorem dX3_takeSlips_101 : decode cX3_takeSlips 101 = .ok (.iinc 4 1, 3) := by decide +kernel
theorem dX3_takeSlips_104 : decode cX3_takeSlips 104 = .ok (.goto (-89), 3) := by decide +kernel
theorem dX3_takeSlips_107 : decode cX3_takeSlips 107 = .ok (.aload_n 0, 1) := by decide +kernel
theorem dX3_takeSlips_108 : decode cX3_takeSlips 108 = .ok (.iload_n 3, 1) := by decide +kernel
theorem dX3_takeSlips_109 : decode cX3_takeSlips 109 = .ok (.putfield 70, 3) := by decide +kernel
theorem dX3_takeSlips_112 : decode cX3_takeSlips 112 = .ok (.return_, 1) := by decide +kernel
theorem dX3_step_0 : decode cX3_step 0 = .ok (.aload_n 0, 1) := by decide +kernel
theorem dX3_step_1 : decode cX3_step 1 = .ok (.aload_n 0, 1) := by decide +kernel
theorem dX3_step_2 : decode cX3_step 2 = .ok (.getfield 104, 3) := by decide +kernel
theorem dX3_step_5 : decode cX3_step 5 = .ok (.invokevirtual 129, 3) := by decide +kernel
theorem dX3_step_8 : decode cX3_step 8 = .ok (.istore_n 1, 1) := by decide +kernel
theorem dX3_step_9 : decode cX3_step 9 = .ok (.aload_n 0, 1) := by decide +kernel
theorem dX3_step_10 : decode cX3_step 10 = .ok (.iload_n 1, 1) := by decide +kernel
theorem dX3_step_11 : decode cX3_step 11 = .ok (.invokevirtual 89, 3) := by decide +kernel
theorem dX3_step_14 : decode cX3_step 14 = .ok (.astore_n 2, 1) := by decide +kernel
theorem dX3_step_15 : decode cX3_step 15 = .ok (.aload_n 2, 1) := by decide +kernel
theorem dX3_step_16 : decode cX3_step 16 = .ok (.ifnull 22, 3) := by decide +kernel
theorem dX3_step_19 : decode cX3_step 19 = .ok (.aload_n 2, 1) := by decide +kernel
theorem dX3_step_20 : decode cX3_step 20 = .ok (.aload_n 0, 1) := by decide +kernel
theorem dX3_step_21 : decode cX3_step 21 = .ok (.iload_n 1, 1) := by decide +kernel
theorem dX3_step_22 : decode cX3_step 22 = .ok (.invokevirtual 148, 3) := by decide +kernel
theorem dX3_step_25 : decode cX3_step 25 = .ok (.aload_n 0, 1) := by decide +kernel
theorem dX3_step_26 : decode cX3_step 26 = .ok (.dup, 1) := by decide +kernel
theorem dX3_step_27 : decode cX3_step 27 = .ok (.getfield 97, 3) := by decide +kernel
theorem dX3_step_30 : decode cX3_step 30 = .ok (.aload_n 2, 1) := by decide +kernel
theorem dX3_step_31 : decode cX3_step 31 = .ok (.getfield 152, 3) := by decide +kernel
theorem dX3_step_34 : decode cX3_step 34 = .ok (.iadd, 1) := by decide +kernel
theorem dX3_step_35 : decode cX3_step 35 = .ok (.putfield 97, 3) := by decide +kernel
theorem dX3_step_38 : decode cX3_step 38 = .ok (.aload_n 0, 1) := by decide +kernel
theorem dX3_step_39 : decode cX3_step 39 = .ok (.dup, 1) := by decide +kernel
theorem dX3_step_40 : decode cX3_step 40 = .ok (.getfield 104, 3) := by decide +kernel
theorem dX3_step_43 : decode cX3_step 43 = .ok (.iconst 1, 1) := by decide +kernel
theorem dX3_step_44 : decode cX3_step 44 = .ok (.iadd, 1) := by decide +kernel
theorem dX3_step_45 : decode cX3_step 45 = .ok (.putfield 104, 3) := by decide +kernel
theorem dX3_step_48 : decode cX3_step 48 = .ok (.aload_n 0, 1) := by decide +kernel
theorem dX3_step_49 : decode cX3_step 49 = .ok (.invokevirtual 155, 3) := by decide +kernel
theorem dX3_step_52 : decode cX3_step 52 = .ok (.return_, 1) := by decide +kernel
