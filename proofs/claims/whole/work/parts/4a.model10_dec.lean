theorem dX12_six_0 : decode cX12_six 0 = .ok (.iload_n 1, 1) := by decide +kernel
theorem dX12_six_1 : decode cX12_six 1 = .ok (.i2l, 1) := by decide +kernel
theorem dX12_six_2 : decode cX12_six 2 = .ok (.lconst 1, 1) := by decide +kernel
theorem dX12_six_3 : decode cX12_six 3 = .ok (.aload_n 0, 1) := by decide +kernel
theorem dX12_six_4 : decode cX12_six 4 = .ok (.getfield 9, 3) := by decide +kernel
theorem dX12_six_7 : decode cX12_six 7 = .ok (.iconst 1, 1) := by decide +kernel
theorem dX12_six_8 : decode cX12_six 8 = .ok (.iaload, 1) := by decide +kernel
theorem dX12_six_9 : decode cX12_six 9 = .ok (.i2l, 1) := by decide +kernel
theorem dX12_six_10 : decode cX12_six 10 = .ok (.invokestatic 62, 3) := by decide +kernel
theorem dX12_six_13 : decode cX12_six 13 = .ok (.ifCond .eq 15, 3) := by decide +kernel
theorem dX12_six_16 : decode cX12_six 16 = .ok (.iload_n 2, 1) := by decide +kernel
theorem dX12_six_17 : decode cX12_six 17 = .ok (.i2l, 1) := by decide +kernel
theorem dX12_six_18 : decode cX12_six 18 = .ok (.lconst 0, 1) := by decide +kernel
theorem dX12_six_19 : decode cX12_six 19 = .ok (.ldc2_w 281, 3) := by decide +kernel
theorem dX12_six_22 : decode cX12_six 22 = .ok (.invokestatic 62, 3) := by decide +kernel
theorem dX12_six_25 : decode cX12_six 25 = .ok (.ifCond .ne 5, 3) := by decide +kernel
theorem dX12_six_28 : decode cX12_six 28 = .ok (.iconst (-1), 1) := by decide +kernel
theorem dX12_six_29 : decode cX12_six 29 = .ok (.ireturn, 1) := by decide +kernel
theorem dX12_six_30 : decode cX12_six 30 = .ok (.aload_n 0, 1) := by decide +kernel
theorem dX12_six_31 : decode cX12_six 31 = .ok (.aload_n 0, 1) := by decide +kernel
theorem dX12_six_32 : decode cX12_six 32 = .ok (.getfield 25, 3) := by decide +kernel
theorem dX12_six_35 : decode cX12_six 35 = .ok (.invokevirtual 235, 3) := by decide +kernel
theorem dX12_six_38 : decode cX12_six 38 = .ok (.aload_n 0, 1) := by decide +kernel
theorem dX12_six_39 : decode cX12_six 39 = .ok (.getfield 25, 3) := by decide +kernel
theorem dX12_six_42 : decode cX12_six 42 = .ok (.iconst 5, 1) := by decide +kernel
theorem dX12_six_43 : decode cX12_six 43 = .ok (.iload_n 1, 1) := by decide +kernel
theorem dX12_six_44 : decode cX12_six 44 = .ok (.iastore, 1) := by decide +kernel
theorem dX12_six_45 : decode cX12_six 45 = .ok (.aload_n 0, 1) := by decide +kernel
theorem dX12_six_46 : decode cX12_six 46 = .ok (.aload_n 0, 1) := by decide +kernel
theorem dX12_six_47 : decode cX12_six 47 = .ok (.iload_n 1, 1) := by decide +kernel
theorem dX12_six_48 : decode cX12_six 48 = .ok (.invokevirtual 238, 3) := by decide +kernel
theorem dX12_six_51 : decode cX12_six 51 = .ok (.aload_n 0, 1) := by decide +kernel
theorem dX12_six_52 : decode cX12_six 52 = .ok (.getfield 9, 3) := by decide +kernel
theorem dX12_six_55 : decode cX12_six 55 = .ok (.iconst 3, 1) := by decide +kernel
theorem dX12_six_56 : decode cX12_six 56 = .ok (.iaload, 1) := by decide +kernel
theorem dX12_six_57 : decode cX12_six 57 = .ok (.iload_n 1, 1) := by decide +kernel
theorem dX12_six_58 : decode cX12_six 58 = .ok (.invokestatic 232, 3) := by decide +kernel
theorem dX12_six_61 : decode cX12_six 61 = .ok (.aload_n 0, 1) := by decide +kernel
theorem dX12_six_62 : decode cX12_six 62 = .ok (.getfield 9, 3) := by decide +kernel
theorem dX12_six_65 : decode cX12_six 65 = .ok (.iconst 5, 1) := by decide +kernel
theorem dX12_six_66 : decode cX12_six 66 = .ok (.iaload, 1) := by decide +kernel
theorem dX12_six_67 : decode cX12_six 67 = .ok (.iconst 1, 1) := by decide +kernel
theorem dX12_six_68 : decode cX12_six 68 = .ok (.if_icmp .ne 7, 3) := by decide +kernel
theorem dX12_six_71 : decode cX12_six 71 = .ok (.iconst 1, 1) := by decide +kernel
theorem dX12_six_72 : decode cX12_six 72 = .ok (.goto 4, 3) := by decide +kernel
theorem dX12_six_75 : decode cX12_six 75 = .ok (.iconst 0, 1) := by decide +kernel
theorem dX12_six_76 : decode cX12_six 76 = .ok (.invokevirtual 269, 3) := by decide +kernel
theorem dX12_six_79 : decode cX12_six 79 = .ok (.istore_n 3, 1) := by decide +kernel
theorem dX12_six_80 : decode cX12_six 80 = .ok (.iload_n 2, 1) := by decide +kernel
theorem dX12_six_81 : decode cX12_six 81 = .ok (.ifCond .ne 7, 3) := by decide +kernel
theorem dX12_six_84 : decode cX12_six 84 = .ok (.iload_n 3, 1) := by decide +kernel
theorem dX12_six_85 : decode cX12_six 85 = .ok (.goto 25, 3) := by decide +kernel
theorem dX12_six_88 : decode cX12_six 88 = .ok (.iload_n 2, 1) := by decide +kernel
theorem dX12_six_89 : decode cX12_six 89 = .ok (.iconst 1, 1) := by decide +kernel
theorem dX12_six_90 : decode cX12_six 90 = .ok (.if_icmp .ne 12, 3) := by decide +kernel
theorem dX12_six_93 : decode cX12_six 93 = .ok (.aload_n 0, 1) := by decide +kernel
theorem dX12_six_94 : decode cX12_six 94 = .ok (.getfield 25, 3) := by decide +kernel
theorem dX12_six_97 : decode cX12_six 97 = .ok (.iconst 0, 1) := by decide +kernel
theorem dX12_six_98 : decode cX12_six 98 = .ok (.iaload, 1) := by decide +kernel
theorem dX12_six_99 : decode cX12_six 99 = .ok (.goto 11, 3) := by decide +kernel
theorem dX12_six_102 : decode cX12_six 102 = .ok (.aload_n 0, 1) := by decide +kernel
theorem dX12_six_103 : decode cX12_six 103 = .ok (.aload_n 0, 1) := by decide +kernel
theorem dX12_six_104 : decode cX12_six 104 = .ok (.getfield 25, 3) := by decide +kernel
theorem dX12_six_107 : decode cX12_six 107 = .ok (.invokevirtual 259, 3) := by decide +kernel
theorem dX12_six_110 : decode cX12_six 110 = .ok (.ireturn, 1) := by decide +kernel
theorem dX12_lost_0 : decode cX12_lost 0 = .ok (.iload_n 1, 1) := by decide +kernel
theorem dX12_lost_1 : decode cX12_lost 1 = .ok (.i2l, 1) := by decide +kernel
theorem dX12_lost_2 : decode cX12_lost 2 = .ok (.lconst 1, 1) := by decide +kernel
theorem dX12_lost_3 : decode cX12_lost 3 = .ok (.ldc2_w 190, 3) := by decide +kernel
theorem dX12_lost_6 : decode cX12_lost 6 = .ok (.invokestatic 62, 3) := by decide +kernel
theorem dX12_lost_9 : decode cX12_lost 9 = .ok (.ifCond .ne 5, 3) := by decide +kernel
theorem dX12_lost_12 : decode cX12_lost 12 = .ok (.iconst (-1), 1) := by decide +kernel
theorem dX12_lost_13 : decode cX12_lost 13 = .ok (.ireturn, 1) := by decide +kernel
theorem dX12_lost_14 : decode cX12_lost 14 = .ok (.aload_n 0, 1) := by decide +kernel
theorem dX12_lost_15 : decode cX12_lost 15 = .ok (.getfield 9, 3) := by decide +kernel
theorem dX12_lost_18 : decode cX12_lost 18 = .ok (.iconst 1, 1) := by decide +kernel
theorem dX12_lost_19 : decode cX12_lost 19 = .ok (.iaload, 1) := by decide +kernel
theorem dX12_lost_20 : decode cX12_lost 20 = .ok (.ifCond .ne 6, 3) := by decide +kernel
theorem dX12_lost_23 : decode cX12_lost 23 = .ok (.bipush (-3), 2) := by decide +kernel
theorem dX12_lost_25 : decode cX12_lost 25 = .ok (.ireturn, 1) := by decide +kernel
theorem dX12_lost_26 : decode cX12_lost 26 = .ok (.aload_n 0, 1) := by decide +kernel
theorem dX12_lost_27 : decode cX12_lost 27 = .ok (.bipush 12, 2) := by decide +kernel
theorem dX12_lost_29 : decode cX12_lost 29 = .ok (.invokevirtual 273, 3) := by decide +kernel
theorem dX12_lost_32 : decode cX12_lost 32 = .ok (.istore_n 2, 1) := by decide +kernel
theorem dX12_lost_33 : decode cX12_lost 33 = .ok (.aload_n 0, 1) := by decide +kernel
theorem dX12_lost_34 : decode cX12_lost 34 = .ok (.aload_n 0, 1) := by decide +kernel
theorem dX12_lost_35 : decode cX12_lost 35 = .ok (.getfield 25, 3) := by decide +kernel
theorem dX12_lost_38 : decode cX12_lost 38 = .ok (.invokevirtual 208, 3) := by decide +kernel
theorem dX12_lost_41 : decode cX12_lost 41 = .ok (.istore_n 3, 1) := by decide +kernel
theorem dX12_lost_42 : decode cX12_lost 42 = .ok (.aload_n 0, 1) := by decide +kernel
theorem dX12_lost_43 : decode cX12_lost 43 = .ok (.iload_n 1, 1) := by decide +kernel
theorem dX12_lost_44 : decode cX12_lost 44 = .ok (.invokevirtual 273, 3) := by decide +kernel
theorem dX12_lost_47 : decode cX12_lost 47 = .ok (.istore_n 2, 1) := by decide +kernel
theorem dX12_lost_48 : decode cX12_lost 48 = .ok (.iload_n 3, 1) := by decide +kernel
theorem dX12_lost_49 : decode cX12_lost 49 = .ok (.aload_n 0, 1) := by decide +kernel
theorem dX12_lost_50 : decode cX12_lost 50 = .ok (.aload_n 0, 1) := by decide +kernel
theorem dX12_lost_51 : decode cX12_lost 51 = .ok (.getfield 25, 3) := by decide +kernel
theorem dX12_lost_54 : decode cX12_lost 54 = .ok (.invokevirtual 208, 3) := by decide +kernel
theorem dX12_lost_57 : decode cX12_lost 57 = .ok (.iconst (-1), 1) := by decide +kernel
theorem dX12_lost_58 : decode cX12_lost 58 = .ok (.ixor, 1) := by decide +kernel
theorem dX12_lost_59 : decode cX12_lost 59 = .ok (.iand, 1) := by decide +kernel
theorem dX12_lost_60 : decode cX12_lost 60 = .ok (.ireturn, 1) := by decide +kernel
theorem dX12_leads_0 : decode cX12_leads 0 = .ok (.iload_n 1, 1) := by decide +kernel
theorem dX12_leads_1 : decode cX12_leads 1 = .ok (.i2l, 1) := by decide +kernel
theorem dX12_leads_2 : decode cX12_leads 2 = .ok (.lconst 0, 1) := by decide +kernel
theorem dX12_leads_3 : decode cX12_leads 3 = .ok (.ldc2_w 281, 3) := by decide +kernel
theorem dX12_leads_6 : decode cX12_leads 6 = .ok (.invokestatic 62, 3) := by decide +kernel
theorem dX12_leads_9 : decode cX12_leads 9 = .ok (.ifCond .ne 5, 3) := by decide +kernel
theorem dX12_leads_12 : decode cX12_leads 12 = .ok (.iconst (-1), 1) := by decide +kernel
theorem dX12_leads_13 : decode cX12_leads 13 = .ok (.ireturn, 1) := by decide +kernel
theorem dX12_leads_14 : decode cX12_leads 14 = .ok (.aload_n 0, 1) := by decide +kernel
theorem dX12_leads_15 : decode cX12_leads 15 = .ok (.getfield 9, 3) := by decide +kernel
theorem dX12_leads_18 : decode cX12_leads 18 = .ok (.iconst 1, 1) := by decide +kernel
theorem dX12_leads_19 : decode cX12_leads 19 = .ok (.iaload, 1) := by decide +kernel
theorem dX12_leads_20 : decode cX12_leads 20 = .ok (.ifCond .ne 6, 3) := by decide +kernel
theorem dX12_leads_23 : decode cX12_leads 23 = .ok (.bipush (-3), 2) := by decide +kernel
theorem dX12_leads_25 : decode cX12_leads 25 = .ok (.ireturn, 1) := by decide +kernel
theorem dX12_leads_26 : decode cX12_leads 26 = .ok (.iconst 0, 1) := by decide +kernel
theorem dX12_leads_27 : decode cX12_leads 27 = .ok (.istore_n 2, 1) := by decide +kernel
theorem dX12_leads_28 : decode cX12_leads 28 = .ok (.iconst 0, 1) := by decide +kernel
theorem dX12_leads_29 : decode cX12_leads 29 = .ok (.istore_n 3, 1) := by decide +kernel
theorem dX12_leads_30 : decode cX12_leads 30 = .ok (.iload_n 3, 1) := by decide +kernel
theorem dX12_leads_31 : decode cX12_leads 31 = .ok (.aload_n 0, 1) := by decide +kernel
theorem dX12_leads_32 : decode cX12_leads 32 = .ok (.getfield 9, 3) := by decide +kernel
theorem dX12_leads_35 : decode cX12_leads 35 = .ok (.iconst 1, 1) := by decide +kernel
theorem dX12_leads_36 : decode cX12_leads 36 = .ok (.iaload, 1) := by decide +kernel
theorem dX12_leads_37 : decode cX12_leads 37 = .ok (.if_icmp .ge 55, 3) := by decide +kernel
theorem dX12_leads_40 : decode cX12_leads 40 = .ok (.aload_n 0, 1) := by decide +kernel
theorem dX12_leads_41 : decode cX12_leads 41 = .ok (.aload_n 0, 1) := by decide +kernel
theorem dX12_leads_42 : decode cX12_leads 42 = .ok (.getfield 25, 3) := by decide +kernel
theorem dX12_leads_45 : decode cX12_leads 45 = .ok (.invokevirtual 235, 3) := by decide +kernel
theorem dX12_leads_48 : decode cX12_leads 48 = .ok (.iload_n 2, 1) := by decide +kernel
theorem dX12_leads_49 : decode cX12_leads 49 = .ok (.aload_n 0, 1) := by decide +kernel
theorem dX12_leads_50 : decode cX12_leads 50 = .ok (.iload_n 3, 1) := by decide +kernel
theorem dX12_leads_51 : decode cX12_leads 51 = .ok (.aload_n 0, 1) := by decide +kernel
theorem dX12_leads_52 : decode cX12_leads 52 = .ok (.invokevirtual 247, 3) := by decide +kernel
theorem dX12_leads_55 : decode cX12_leads 55 = .ok (.aload_n 0, 1) := by decide +kernel
theorem dX12_leads_56 : decode cX12_leads 56 = .ok (.getfield 9, 3) := by decide +kernel
theorem dX12_leads_59 : decode cX12_leads 59 = .ok (.iconst 5, 1) := by decide +kernel
theorem dX12_leads_60 : decode cX12_leads 60 = .ok (.iaload, 1) := by decide +kernel
theorem dX12_leads_61 : decode cX12_leads 61 = .ok (.iconst 1, 1) := by decide +kernel
theorem dX12_leads_62 : decode cX12_leads 62 = .ok (.if_icmp .ne 7, 3) := by decide +kernel
theorem dX12_leads_65 : decode cX12_leads 65 = .ok (.iconst 1, 1) := by decide +kernel
theorem dX12_leads_66 : decode cX12_leads 66 = .ok (.goto 4, 3) := by decide +kernel
theorem dX12_leads_69 : decode cX12_leads 69 = .ok (.iconst 0, 1) := by decide +kernel
theorem dX12_leads_70 : decode cX12_leads 70 = .ok (.invokevirtual 269, 3) := by decide +kernel
theorem dX12_leads_73 : decode cX12_leads 73 = .ok (.iload_n 1, 1) := by decide +kernel
theorem dX12_leads_74 : decode cX12_leads 74 = .ok (.if_icmp .ne 9, 3) := by decide +kernel
theorem dX12_leads_77 : decode cX12_leads 77 = .ok (.iconst 1, 1) := by decide +kernel
theorem dX12_leads_78 : decode cX12_leads 78 = .ok (.iload_n 3, 1) := by decide +kernel
theorem dX12_leads_79 : decode cX12_leads 79 = .ok (.ishl, 1) := by decide +kernel
theorem dX12_leads_80 : decode cX12_leads 80 = .ok (.goto 4, 3) := by decide +kernel
theorem dX12_leads_83 : decode cX12_leads 83 = .ok (.iconst 0, 1) := by decide +kernel
theorem dX12_leads_84 : decode cX12_leads 84 = .ok (.ior, 1) := by decide +kernel
theorem dX12_leads_85 : decode cX12_leads 85 = .ok (.istore_n 2, 1) := by decide +kernel
theorem dX12_leads_86 : decode cX12_leads 86 = .ok (.iinc 3 1, 3) := by decide +kernel
theorem dX12_leads_89 : decode cX12_leads 89 = .ok (.goto (-59), 3) := by decide +kernel
theorem dX12_leads_92 : decode cX12_leads 92 = .ok (.iload_n 2, 1) := by decide +kernel
theorem dX12_leads_93 : decode cX12_leads 93 = .ok (.ireturn, 1) := by decide +kernel
theorem dX12_hands_0 : decode cX12_hands 0 = .ok (.aload_n 0, 1) := by decide +kernel
theorem dX12_hands_1 : decode cX12_hands 1 = .ok (.getfield 9, 3) := by decide +kernel
theorem dX12_hands_4 : decode cX12_hands 4 = .ok (.iconst 1, 1) := by decide +kernel
theorem dX12_hands_5 : decode cX12_hands 5 = .ok (.iaload, 1) := by decide +kernel
theorem dX12_hands_6 : decode cX12_hands 6 = .ok (.ifCond .ne 6, 3) := by decide +kernel
theorem dX12_hands_9 : decode cX12_hands 9 = .ok (.bipush (-3), 2) := by decide +kernel
theorem dX12_hands_11 : decode cX12_hands 11 = .ok (.ireturn, 1) := by decide +kernel
theorem dX12_hands_12 : decode cX12_hands 12 = .ok (.aload_n 0, 1) := by decide +kernel
theorem dX12_hands_13 : decode cX12_hands 13 = .ok (.aload_n 0, 1) := by decide +kernel
theorem dX12_hands_14 : decode cX12_hands 14 = .ok (.getfield 25, 3) := by decide +kernel
theorem dX12_hands_17 : decode cX12_hands 17 = .ok (.invokevirtual 235, 3) := by decide +kernel
theorem dX12_hands_20 : decode cX12_hands 20 = .ok (.aload_n 0, 1) := by decide +kernel
theorem dX12_hands_21 : decode cX12_hands 21 = .ok (.aload_n 0, 1) := by decide +kernel
theorem dX12_hands_22 : decode cX12_hands 22 = .ok (.aload_n 0, 1) := by decide +kernel
theorem dX12_hands_23 : decode cX12_hands 23 = .ok (.getfield 9, 3) := by decide +kernel
theorem dX12_hands_26 : decode cX12_hands 26 = .ok (.iconst 1, 1) := by decide +kernel
theorem dX12_hands_27 : decode cX12_hands 27 = .ok (.iaload, 1) := by decide +kernel
theorem dX12_hands_28 : decode cX12_hands 28 = .ok (.invokevirtual 238, 3) := by decide +kernel
theorem dX12_hands_31 : decode cX12_hands 31 = .ok (.aload_n 0, 1) := by decide +kernel
theorem dX12_hands_32 : decode cX12_hands 32 = .ok (.invokevirtual 247, 3) := by decide +kernel
theorem dX12_hands_35 : decode cX12_hands 35 = .ok (.iconst 1, 1) := by decide +kernel
theorem dX12_hands_36 : decode cX12_hands 36 = .ok (.invokevirtual 269, 3) := by decide +kernel
theorem dX12_hands_39 : decode cX12_hands 39 = .ok (.istore_n 1, 1) := by decide +kernel
theorem dX12_hands_40 : decode cX12_hands 40 = .ok (.aload_n 0, 1) := by decide +kernel
theorem dX12_hands_41 : decode cX12_hands 41 = .ok (.aload_n 0, 1) := by decide +kernel
theorem dX12_hands_42 : decode cX12_hands 42 = .ok (.getfield 25, 3) := by decide +kernel
theorem dX12_hands_45 : decode cX12_hands 45 = .ok (.invokevirtual 235, 3) := by decide +kernel
theorem dX12_hands_48 : decode cX12_hands 48 = .ok (.bipush 10, 2) := by decide +kernel
theorem dX12_hands_50 : decode cX12_hands 50 = .ok (.iload_n 1, 1) := by decide +kernel
theorem dX12_hands_51 : decode cX12_hands 51 = .ok (.imul, 1) := by decide +kernel
theorem dX12_hands_52 : decode cX12_hands 52 = .ok (.aload_n 0, 1) := by decide +kernel
theorem dX12_hands_53 : decode cX12_hands 53 = .ok (.aload_n 0, 1) := by decide +kernel
theorem dX12_hands_54 : decode cX12_hands 54 = .ok (.aload_n 0, 1) := by decide +kernel
theorem dX12_hands_55 : decode cX12_hands 55 = .ok (.getfield 9, 3) := by decide +kernel
theorem dX12_hands_58 : decode cX12_hands 58 = .ok (.iconst 1, 1) := by decide +kernel
theorem dX12_hands_59 : decode cX12_hands 59 = .ok (.iaload, 1) := by decide +kernel
theorem dX12_hands_60 : decode cX12_hands 60 = .ok (.invokevirtual 238, 3) := by decide +kernel
theorem dX12_hands_63 : decode cX12_hands 63 = .ok (.aload_n 0, 1) := by decide +kernel
theorem dX12_hands_64 : decode cX12_hands 64 = .ok (.invokevirtual 247, 3) := by decide +kernel
theorem dX12_hands_67 : decode cX12_hands 67 = .ok (.iconst 0, 1) := by decide +kernel
theorem dX12_hands_68 : decode cX12_hands 68 = .ok (.invokevirtual 269, 3) := by decide +kernel
theorem dX12_hands_71 : decode cX12_hands 71 = .ok (.iadd, 1) := by decide +kernel
theorem dX12_hands_72 : decode cX12_hands 72 = .ok (.ireturn, 1) := by decide +kernel
