theorem dX12_takes_0 : decode cX12_takes 0 = .ok (.aload_n 0, 1) := by decide +kernel
theorem dX12_takes_1 : decode cX12_takes 1 = .ok (.invokevirtual 114, 3) := by decide +kernel
theorem dX12_takes_4 : decode cX12_takes 4 = .ok (.iload_n 1, 1) := by decide +kernel
theorem dX12_takes_5 : decode cX12_takes 5 = .ok (.if_icmp .eq 5, 3) := by decide +kernel
theorem dX12_takes_8 : decode cX12_takes 8 = .ok (.iconst 0, 1) := by decide +kernel
theorem dX12_takes_9 : decode cX12_takes 9 = .ok (.ireturn, 1) := by decide +kernel
theorem dX12_takes_10 : decode cX12_takes 10 = .ok (.aload_n 0, 1) := by decide +kernel
theorem dX12_takes_11 : decode cX12_takes 11 = .ok (.dup, 1) := by decide +kernel
theorem dX12_takes_12 : decode cX12_takes 12 = .ok (.getfield 105, 3) := by decide +kernel
theorem dX12_takes_15 : decode cX12_takes 15 = .ok (.iconst 1, 1) := by decide +kernel
theorem dX12_takes_16 : decode cX12_takes 16 = .ok (.iadd, 1) := by decide +kernel
theorem dX12_takes_17 : decode cX12_takes 17 = .ok (.putfield 105, 3) := by decide +kernel
theorem dX12_takes_20 : decode cX12_takes 20 = .ok (.iconst 1, 1) := by decide +kernel
theorem dX12_takes_21 : decode cX12_takes 21 = .ok (.ireturn, 1) := by decide +kernel
theorem dX12_readsNumber_0 : decode cX12_readsNumber 0 = .ok (.aload_n 0, 1) := by decide +kernel
theorem dX12_readsNumber_1 : decode cX12_readsNumber 1 = .ok (.invokevirtual 114, 3) := by decide +kernel
theorem dX12_readsNumber_4 : decode cX12_readsNumber 4 = .ok (.i2l, 1) := by decide +kernel
theorem dX12_readsNumber_5 : decode cX12_readsNumber 5 = .ok (.ldc2_w 118, 3) := by decide +kernel
theorem dX12_readsNumber_8 : decode cX12_readsNumber 8 = .ok (.ldc2_w 120, 3) := by decide +kernel
theorem dX12_readsNumber_11 : decode cX12_readsNumber 11 = .ok (.invokestatic 62, 3) := by decide +kernel
theorem dX12_readsNumber_14 : decode cX12_readsNumber 14 = .ok (.ifCond .ne 5, 3) := by decide +kernel
theorem dX12_readsNumber_17 : decode cX12_readsNumber 17 = .ok (.iconst 0, 1) := by decide +kernel
theorem dX12_readsNumber_18 : decode cX12_readsNumber 18 = .ok (.ireturn, 1) := by decide +kernel
theorem dX12_readsNumber_19 : decode cX12_readsNumber 19 = .ok (.aload_n 0, 1) := by decide +kernel
theorem dX12_readsNumber_20 : decode cX12_readsNumber 20 = .ok (.aload_n 0, 1) := by decide +kernel
theorem dX12_readsNumber_21 : decode cX12_readsNumber 21 = .ok (.invokevirtual 114, 3) := by decide +kernel
theorem dX12_readsNumber_24 : decode cX12_readsNumber 24 = .ok (.bipush 48, 2) := by decide +kernel
theorem dX12_readsNumber_26 : decode cX12_readsNumber 26 = .ok (.isub, 1) := by decide +kernel
theorem dX12_readsNumber_27 : decode cX12_readsNumber 27 = .ok (.putfield 122, 3) := by decide +kernel
theorem dX12_readsNumber_30 : decode cX12_readsNumber 30 = .ok (.aload_n 0, 1) := by decide +kernel
theorem dX12_readsNumber_31 : decode cX12_readsNumber 31 = .ok (.dup, 1) := by decide +kernel
theorem dX12_readsNumber_32 : decode cX12_readsNumber 32 = .ok (.getfield 105, 3) := by decide +kernel
theorem dX12_readsNumber_35 : decode cX12_readsNumber 35 = .ok (.iconst 1, 1) := by decide +kernel
theorem dX12_readsNumber_36 : decode cX12_readsNumber 36 = .ok (.iadd, 1) := by decide +kernel
theorem dX12_readsNumber_37 : decode cX12_readsNumber 37 = .ok (.putfield 105, 3) := by decide +kernel
theorem dX12_readsNumber_40 : decode cX12_readsNumber 40 = .ok (.iconst 1, 1) := by decide +kernel
theorem dX12_readsNumber_41 : decode cX12_readsNumber 41 = .ok (.istore_n 1, 1) := by decide +kernel
theorem dX12_readsNumber_42 : decode cX12_readsNumber 42 = .ok (.iload_n 1, 1) := by decide +kernel
theorem dX12_readsNumber_43 : decode cX12_readsNumber 43 = .ok (.iconst 3, 1) := by decide +kernel
theorem dX12_readsNumber_44 : decode cX12_readsNumber 44 = .ok (.if_icmp .ge 62, 3) := by decide +kernel
theorem dX12_readsNumber_47 : decode cX12_readsNumber 47 = .ok (.aload_n 0, 1) := by decide +kernel
theorem dX12_readsNumber_48 : decode cX12_readsNumber 48 = .ok (.getfield 122, 3) := by decide +kernel
theorem dX12_readsNumber_51 : decode cX12_readsNumber 51 = .ok (.ifCond .le 55, 3) := by decide +kernel
theorem dX12_readsNumber_54 : decode cX12_readsNumber 54 = .ok (.aload_n 0, 1) := by decide +kernel
theorem dX12_readsNumber_55 : decode cX12_readsNumber 55 = .ok (.invokevirtual 114, 3) := by decide +kernel
theorem dX12_readsNumber_58 : decode cX12_readsNumber 58 = .ok (.i2l, 1) := by decide +kernel
theorem dX12_readsNumber_59 : decode cX12_readsNumber 59 = .ok (.ldc2_w 118, 3) := by decide +kernel
theorem dX12_readsNumber_62 : decode cX12_readsNumber 62 = .ok (.ldc2_w 120, 3) := by decide +kernel
theorem dX12_readsNumber_65 : decode cX12_readsNumber 65 = .ok (.invokestatic 62, 3) := by decide +kernel
theorem dX12_readsNumber_68 : decode cX12_readsNumber 68 = .ok (.ifCond .eq 38, 3) := by decide +kernel
theorem dX12_readsNumber_71 : decode cX12_readsNumber 71 = .ok (.aload_n 0, 1) := by decide +kernel
theorem dX12_readsNumber_72 : decode cX12_readsNumber 72 = .ok (.bipush 10, 2) := by decide +kernel
theorem dX12_readsNumber_74 : decode cX12_readsNumber 74 = .ok (.aload_n 0, 1) := by decide +kernel
theorem dX12_readsNumber_75 : decode cX12_readsNumber 75 = .ok (.getfield 122, 3) := by decide +kernel
theorem dX12_readsNumber_78 : decode cX12_readsNumber 78 = .ok (.imul, 1) := by decide +kernel
theorem dX12_readsNumber_79 : decode cX12_readsNumber 79 = .ok (.aload_n 0, 1) := by decide +kernel
theorem dX12_readsNumber_80 : decode cX12_readsNumber 80 = .ok (.invokevirtual 114, 3) := by decide +kernel
theorem dX12_readsNumber_83 : decode cX12_readsNumber 83 = .ok (.iadd, 1) := by decide +kernel
theorem dX12_readsNumber_84 : decode cX12_readsNumber 84 = .ok (.bipush 48, 2) := by decide +kernel
theorem dX12_readsNumber_86 : decode cX12_readsNumber 86 = .ok (.isub, 1) := by decide +kernel
theorem dX12_readsNumber_87 : decode cX12_readsNumber 87 = .ok (.putfield 122, 3) := by decide +kernel
theorem dX12_readsNumber_90 : decode cX12_readsNumber 90 = .ok (.aload_n 0, 1) := by decide +kernel
theorem dX12_readsNumber_91 : decode cX12_readsNumber 91 = .ok (.dup, 1) := by decide +kernel
theorem dX12_readsNumber_92 : decode cX12_readsNumber 92 = .ok (.getfield 105, 3) := by decide +kernel
theorem dX12_readsNumber_95 : decode cX12_readsNumber 95 = .ok (.iconst 1, 1) := by decide +kernel
theorem dX12_readsNumber_96 : decode cX12_readsNumber 96 = .ok (.iadd, 1) := by decide +kernel
theorem dX12_readsNumber_97 : decode cX12_readsNumber 97 = .ok (.putfield 105, 3) := by decide +kernel
theorem dX12_readsNumber_100 : decode cX12_readsNumber 100 = .ok (.iinc 1 1, 3) := by decide +kernel
theorem dX12_readsNumber_103 : decode cX12_readsNumber 103 = .ok (.goto (-61), 3) := by decide +kernel
theorem dX12_readsNumber_106 : decode cX12_readsNumber 106 = .ok (.iconst 1, 1) := by decide +kernel
theorem dX12_readsNumber_107 : decode cX12_readsNumber 107 = .ok (.ireturn, 1) := by decide +kernel
theorem dX12_isField_0 : decode cX12_isField 0 = .ok (.iload_n 0, 1) := by decide +kernel
theorem dX12_isField_1 : decode cX12_isField 1 = .ok (.bipush 116, 2) := by decide +kernel
theorem dX12_isField_3 : decode cX12_isField 3 = .ok (.if_icmp .eq 27, 3) := by decide +kernel
theorem dX12_isField_6 : decode cX12_isField 6 = .ok (.iload_n 0, 1) := by decide +kernel
theorem dX12_isField_7 : decode cX12_isField 7 = .ok (.bipush 112, 2) := by decide +kernel
theorem dX12_isField_9 : decode cX12_isField 9 = .ok (.if_icmp .eq 21, 3) := by decide +kernel
theorem dX12_isField_12 : decode cX12_isField 12 = .ok (.iload_n 0, 1) := by decide +kernel
theorem dX12_isField_13 : decode cX12_isField 13 = .ok (.bipush 121, 2) := by decide +kernel
theorem dX12_isField_15 : decode cX12_isField 15 = .ok (.if_icmp .eq 15, 3) := by decide +kernel
theorem dX12_isField_18 : decode cX12_isField 18 = .ok (.iload_n 0, 1) := by decide +kernel
theorem dX12_isField_19 : decode cX12_isField 19 = .ok (.bipush 110, 2) := by decide +kernel
theorem dX12_isField_21 : decode cX12_isField 21 = .ok (.if_icmp .eq 9, 3) := by decide +kernel
theorem dX12_isField_24 : decode cX12_isField 24 = .ok (.iload_n 0, 1) := by decide +kernel
theorem dX12_isField_25 : decode cX12_isField 25 = .ok (.bipush 109, 2) := by decide +kernel
theorem dX12_isField_27 : decode cX12_isField 27 = .ok (.if_icmp .ne 7, 3) := by decide +kernel
theorem dX12_isField_30 : decode cX12_isField 30 = .ok (.iconst 1, 1) := by decide +kernel
theorem dX12_isField_31 : decode cX12_isField 31 = .ok (.goto 4, 3) := by decide +kernel
theorem dX12_isField_34 : decode cX12_isField 34 = .ok (.iconst 0, 1) := by decide +kernel
theorem dX12_isField_35 : decode cX12_isField 35 = .ok (.ireturn, 1) := by decide +kernel
theorem dX12_readsAtom_0 : decode cX12_readsAtom 0 = .ok (.aload_n 0, 1) := by decide +kernel
theorem dX12_readsAtom_1 : decode cX12_readsAtom 1 = .ok (.invokevirtual 114, 3) := by decide +kernel
theorem dX12_readsAtom_4 : decode cX12_readsAtom 4 = .ok (.istore_n 1, 1) := by decide +kernel
theorem dX12_readsAtom_5 : decode cX12_readsAtom 5 = .ok (.iload_n 1, 1) := by decide +kernel
theorem dX12_readsAtom_6 : decode cX12_readsAtom 6 = .ok (.bipush 40, 2) := by decide +kernel
theorem dX12_readsAtom_8 : decode cX12_readsAtom 8 = .ok (.if_icmp .eq 9, 3) := by decide +kernel
theorem dX12_readsAtom_11 : decode cX12_readsAtom 11 = .ok (.iload_n 1, 1) := by decide +kernel
theorem dX12_readsAtom_12 : decode cX12_readsAtom 12 = .ok (.bipush 91, 2) := by decide +kernel
theorem dX12_readsAtom_14 : decode cX12_readsAtom 14 = .ok (.if_icmp .ne 97, 3) := by decide +kernel
theorem dX12_readsAtom_17 : decode cX12_readsAtom 17 = .ok (.aload_n 0, 1) := by decide +kernel
theorem dX12_readsAtom_18 : decode cX12_readsAtom 18 = .ok (.getfield 134, 3) := by decide +kernel
theorem dX12_readsAtom_21 : decode cX12_readsAtom 21 = .ok (.bipush 6, 2) := by decide +kernel
theorem dX12_readsAtom_23 : decode cX12_readsAtom 23 = .ok (.if_icmp .ne 5, 3) := by decide +kernel
theorem dX12_readsAtom_26 : decode cX12_readsAtom 26 = .ok (.iconst 0, 1) := by decide +kernel
theorem dX12_readsAtom_27 : decode cX12_readsAtom 27 = .ok (.ireturn, 1) := by decide +kernel
theorem dX12_readsAtom_28 : decode cX12_readsAtom 28 = .ok (.aload_n 0, 1) := by decide +kernel
theorem dX12_readsAtom_29 : decode cX12_readsAtom 29 = .ok (.dup, 1) := by decide +kernel
theorem dX12_readsAtom_30 : decode cX12_readsAtom 30 = .ok (.getfield 105, 3) := by decide +kernel
theorem dX12_readsAtom_33 : decode cX12_readsAtom 33 = .ok (.iconst 1, 1) := by decide +kernel
theorem dX12_readsAtom_34 : decode cX12_readsAtom 34 = .ok (.iadd, 1) := by decide +kernel
theorem dX12_readsAtom_35 : decode cX12_readsAtom 35 = .ok (.putfield 105, 3) := by decide +kernel
theorem dX12_readsAtom_38 : decode cX12_readsAtom 38 = .ok (.aload_n 0, 1) := by decide +kernel
theorem dX12_readsAtom_39 : decode cX12_readsAtom 39 = .ok (.dup, 1) := by decide +kernel
theorem dX12_readsAtom_40 : decode cX12_readsAtom 40 = .ok (.getfield 134, 3) := by decide +kernel
theorem dX12_readsAtom_43 : decode cX12_readsAtom 43 = .ok (.iconst 1, 1) := by decide +kernel
theorem dX12_readsAtom_44 : decode cX12_readsAtom 44 = .ok (.iadd, 1) := by decide +kernel
theorem dX12_readsAtom_45 : decode cX12_readsAtom 45 = .ok (.putfield 134, 3) := by decide +kernel
theorem dX12_readsAtom_48 : decode cX12_readsAtom 48 = .ok (.aload_n 0, 1) := by decide +kernel
theorem dX12_readsAtom_49 : decode cX12_readsAtom 49 = .ok (.invokevirtual 137, 3) := by decide +kernel
theorem dX12_readsAtom_52 : decode cX12_readsAtom 52 = .ok (.ifCond .eq 45, 3) := by decide +kernel
theorem dX12_readsAtom_55 : decode cX12_readsAtom 55 = .ok (.iload_n 1, 1) := by decide +kernel
theorem dX12_readsAtom_56 : decode cX12_readsAtom 56 = .ok (.bipush 91, 2) := by decide +kernel
theorem dX12_readsAtom_58 : decode cX12_readsAtom 58 = .ok (.if_icmp .ne 19, 3) := by decide +kernel
theorem dX12_readsAtom_61 : decode cX12_readsAtom 61 = .ok (.aload_n 0, 1) := by decide +kernel
theorem dX12_readsAtom_62 : decode cX12_readsAtom 62 = .ok (.bipush 44, 2) := by decide +kernel
theorem dX12_readsAtom_64 : decode cX12_readsAtom 64 = .ok (.invokevirtual 128, 3) := by decide +kernel
theorem dX12_readsAtom_67 : decode cX12_readsAtom 67 = .ok (.ifCond .eq 30, 3) := by decide +kernel
theorem dX12_readsAtom_70 : decode cX12_readsAtom 70 = .ok (.aload_n 0, 1) := by decide +kernel
theorem dX12_readsAtom_71 : decode cX12_readsAtom 71 = .ok (.invokevirtual 137, 3) := by decide +kernel
theorem dX12_readsAtom_74 : decode cX12_readsAtom 74 = .ok (.ifCond .eq 23, 3) := by decide +kernel
theorem dX12_readsAtom_77 : decode cX12_readsAtom 77 = .ok (.aload_n 0, 1) := by decide +kernel
theorem dX12_readsAtom_78 : decode cX12_readsAtom 78 = .ok (.iload_n 1, 1) := by decide +kernel
theorem dX12_readsAtom_79 : decode cX12_readsAtom 79 = .ok (.bipush 91, 2) := by decide +kernel
theorem dX12_readsAtom_81 : decode cX12_readsAtom 81 = .ok (.if_icmp .ne 8, 3) := by decide +kernel
theorem dX12_readsAtom_84 : decode cX12_readsAtom 84 = .ok (.bipush 93, 2) := by decide +kernel
theorem dX12_readsAtom_86 : decode cX12_readsAtom 86 = .ok (.goto 5, 3) := by decide +kernel
theorem dX12_readsAtom_89 : decode cX12_readsAtom 89 = .ok (.bipush 41, 2) := by decide +kernel
theorem dX12_readsAtom_91 : decode cX12_readsAtom 91 = .ok (.invokevirtual 128, 3) := by decide +kernel
theorem dX12_readsAtom_94 : decode cX12_readsAtom 94 = .ok (.ifCond .ne 5, 3) := by decide +kernel
theorem dX12_readsAtom_97 : decode cX12_readsAtom 97 = .ok (.iconst 0, 1) := by decide +kernel
theorem dX12_readsAtom_98 : decode cX12_readsAtom 98 = .ok (.ireturn, 1) := by decide +kernel
theorem dX12_readsAtom_99 : decode cX12_readsAtom 99 = .ok (.aload_n 0, 1) := by decide +kernel
theorem dX12_readsAtom_100 : decode cX12_readsAtom 100 = .ok (.dup, 1) := by decide +kernel
theorem dX12_readsAtom_101 : decode cX12_readsAtom 101 = .ok (.getfield 134, 3) := by decide +kernel
theorem dX12_readsAtom_104 : decode cX12_readsAtom 104 = .ok (.iconst 1, 1) := by decide +kernel
theorem dX12_readsAtom_105 : decode cX12_readsAtom 105 = .ok (.isub, 1) := by decide +kernel
theorem dX12_readsAtom_106 : decode cX12_readsAtom 106 = .ok (.putfield 134, 3) := by decide +kernel
theorem dX12_readsAtom_109 : decode cX12_readsAtom 109 = .ok (.iconst 1, 1) := by decide +kernel
theorem dX12_readsAtom_110 : decode cX12_readsAtom 110 = .ok (.ireturn, 1) := by decide +kernel
theorem dX12_readsAtom_111 : decode cX12_readsAtom 111 = .ok (.iload_n 1, 1) := by decide +kernel
theorem dX12_readsAtom_112 : decode cX12_readsAtom 112 = .ok (.invokestatic 140, 3) := by decide +kernel
theorem dX12_readsAtom_115 : decode cX12_readsAtom 115 = .ok (.ifCond .eq 15, 3) := by decide +kernel
theorem dX12_readsAtom_118 : decode cX12_readsAtom 118 = .ok (.aload_n 0, 1) := by decide +kernel
theorem dX12_readsAtom_119 : decode cX12_readsAtom 119 = .ok (.dup, 1) := by decide +kernel
theorem dX12_readsAtom_120 : decode cX12_readsAtom 120 = .ok (.getfield 105, 3) := by decide +kernel
theorem dX12_readsAtom_123 : decode cX12_readsAtom 123 = .ok (.iconst 1, 1) := by decide +kernel
theorem dX12_readsAtom_124 : decode cX12_readsAtom 124 = .ok (.iadd, 1) := by decide +kernel
theorem dX12_readsAtom_125 : decode cX12_readsAtom 125 = .ok (.putfield 105, 3) := by decide +kernel
theorem dX12_readsAtom_128 : decode cX12_readsAtom 128 = .ok (.iconst 1, 1) := by decide +kernel
theorem dX12_readsAtom_129 : decode cX12_readsAtom 129 = .ok (.ireturn, 1) := by decide +kernel
theorem dX12_readsAtom_130 : decode cX12_readsAtom 130 = .ok (.aload_n 0, 1) := by decide +kernel
theorem dX12_readsAtom_131 : decode cX12_readsAtom 131 = .ok (.invokevirtual 143, 3) := by decide +kernel
theorem dX12_readsAtom_134 : decode cX12_readsAtom 134 = .ok (.ireturn, 1) := by decide +kernel
theorem dX12_readsProduct_0 : decode cX12_readsProduct 0 = .ok (.aload_n 0, 1) := by decide +kernel
theorem dX12_readsProduct_1 : decode cX12_readsProduct 1 = .ok (.invokevirtual 131, 3) := by decide +kernel
theorem dX12_readsProduct_4 : decode cX12_readsProduct 4 = .ok (.ifCond .ne 5, 3) := by decide +kernel
theorem dX12_readsProduct_7 : decode cX12_readsProduct 7 = .ok (.iconst 0, 1) := by decide +kernel
theorem dX12_readsProduct_8 : decode cX12_readsProduct 8 = .ok (.ireturn, 1) := by decide +kernel
theorem dX12_readsProduct_9 : decode cX12_readsProduct 9 = .ok (.aload_n 0, 1) := by decide +kernel
theorem dX12_readsProduct_10 : decode cX12_readsProduct 10 = .ok (.bipush 42, 2) := by decide +kernel
theorem dX12_readsProduct_12 : decode cX12_readsProduct 12 = .ok (.invokevirtual 128, 3) := by decide +kernel
theorem dX12_readsProduct_15 : decode cX12_readsProduct 15 = .ok (.ifCond .ne (-15), 3) := by decide +kernel
theorem dX12_readsProduct_18 : decode cX12_readsProduct 18 = .ok (.aload_n 0, 1) := by decide +kernel
theorem dX12_readsProduct_19 : decode cX12_readsProduct 19 = .ok (.bipush 47, 2) := by decide +kernel
theorem dX12_readsProduct_21 : decode cX12_readsProduct 21 = .ok (.invokevirtual 128, 3) := by decide +kernel
theorem dX12_readsProduct_24 : decode cX12_readsProduct 24 = .ok (.ifCond .ne (-24), 3) := by decide +kernel
theorem dX12_readsProduct_27 : decode cX12_readsProduct 27 = .ok (.iconst 1, 1) := by decide +kernel
theorem dX12_readsProduct_28 : decode cX12_readsProduct 28 = .ok (.ireturn, 1) := by decide +kernel
theorem dX12_readsSum_0 : decode cX12_readsSum 0 = .ok (.aload_n 0, 1) := by decide +kernel
theorem dX12_readsSum_1 : decode cX12_readsSum 1 = .ok (.invokevirtual 125, 3) := by decide +kernel
theorem dX12_readsSum_4 : decode cX12_readsSum 4 = .ok (.ifCond .ne 5, 3) := by decide +kernel
theorem dX12_readsSum_7 : decode cX12_readsSum 7 = .ok (.iconst 0, 1) := by decide +kernel
theorem dX12_readsSum_8 : decode cX12_readsSum 8 = .ok (.ireturn, 1) := by decide +kernel
theorem dX12_readsSum_9 : decode cX12_readsSum 9 = .ok (.aload_n 0, 1) := by decide +kernel
theorem dX12_readsSum_10 : decode cX12_readsSum 10 = .ok (.bipush 43, 2) := by decide +kernel
theorem dX12_readsSum_12 : decode cX12_readsSum 12 = .ok (.invokevirtual 128, 3) := by decide +kernel
theorem dX12_readsSum_15 : decode cX12_readsSum 15 = .ok (.ifCond .ne (-15), 3) := by decide +kernel
theorem dX12_readsSum_18 : decode cX12_readsSum 18 = .ok (.aload_n 0, 1) := by decide +kernel
theorem dX12_readsSum_19 : decode cX12_readsSum 19 = .ok (.bipush 45, 2) := by decide +kernel
theorem dX12_readsSum_21 : decode cX12_readsSum 21 = .ok (.invokevirtual 128, 3) := by decide +kernel
theorem dX12_readsSum_24 : decode cX12_readsSum 24 = .ok (.ifCond .ne (-24), 3) := by decide +kernel
theorem dX12_readsSum_27 : decode cX12_readsSum 27 = .ok (.iconst 1, 1) := by decide +kernel
theorem dX12_readsSum_28 : decode cX12_readsSum 28 = .ok (.ireturn, 1) := by decide +kernel
theorem dX12_wrongRow_0 : decode cX12_wrongRow 0 = .ok (.iload_n 1, 1) := by decide +kernel
theorem dX12_wrongRow_1 : decode cX12_wrongRow 1 = .ok (.invokestatic 146, 3) := by decide +kernel
theorem dX12_wrongRow_4 : decode cX12_wrongRow 4 = .ok (.ifCond .ne 7, 3) := by decide +kernel
theorem dX12_wrongRow_7 : decode cX12_wrongRow 7 = .ok (.iconst (-1), 1) := by decide +kernel
theorem dX12_wrongRow_8 : decode cX12_wrongRow 8 = .ok (.goto 47, 3) := by decide +kernel
theorem dX12_wrongRow_11 : decode cX12_wrongRow 11 = .ok (.aload_n 0, 1) := by decide +kernel
theorem dX12_wrongRow_12 : decode cX12_wrongRow 12 = .ok (.getfield 31, 3) := by decide +kernel
theorem dX12_wrongRow_15 : decode cX12_wrongRow 15 = .ok (.iload_n 1, 1) := by decide +kernel
theorem dX12_wrongRow_16 : decode cX12_wrongRow 16 = .ok (.iaload, 1) := by decide +kernel
theorem dX12_wrongRow_17 : decode cX12_wrongRow 17 = .ok (.ifCond .ne 8, 3) := by decide +kernel
theorem dX12_wrongRow_20 : decode cX12_wrongRow 20 = .ok (.bipush (-11), 2) := by decide +kernel
theorem dX12_wrongRow_22 : decode cX12_wrongRow 22 = .ok (.goto 33, 3) := by decide +kernel
theorem dX12_wrongRow_25 : decode cX12_wrongRow 25 = .ok (.aload_n 0, 1) := by decide +kernel
theorem dX12_wrongRow_26 : decode cX12_wrongRow 26 = .ok (.getfield 31, 3) := by decide +kernel
theorem dX12_wrongRow_29 : decode cX12_wrongRow 29 = .ok (.iload_n 1, 1) := by decide +kernel
theorem dX12_wrongRow_30 : decode cX12_wrongRow 30 = .ok (.iaload, 1) := by decide +kernel
theorem dX12_wrongRow_31 : decode cX12_wrongRow 31 = .ok (.iconst 2, 1) := by decide +kernel
theorem dX12_wrongRow_32 : decode cX12_wrongRow 32 = .ok (.if_icmp .ne 17, 3) := by decide +kernel
theorem dX12_wrongRow_35 : decode cX12_wrongRow 35 = .ok (.iload_n 2, 1) := by decide +kernel
theorem dX12_wrongRow_36 : decode cX12_wrongRow 36 = .ok (.ifCond .lt 18, 3) := by decide +kernel
theorem dX12_wrongRow_39 : decode cX12_wrongRow 39 = .ok (.aload_n 0, 1) := by decide +kernel
theorem dX12_wrongRow_40 : decode cX12_wrongRow 40 = .ok (.getfield 34, 3) := by decide +kernel
theorem dX12_wrongRow_43 : decode cX12_wrongRow 43 = .ok (.iload_n 1, 1) := by decide +kernel
theorem dX12_wrongRow_44 : decode cX12_wrongRow 44 = .ok (.iaload, 1) := by decide +kernel
theorem dX12_wrongRow_45 : decode cX12_wrongRow 45 = .ok (.iload_n 2, 1) := by decide +kernel
theorem dX12_wrongRow_46 : decode cX12_wrongRow 46 = .ok (.if_icmp .eq 8, 3) := by decide +kernel
theorem dX12_wrongRow_49 : decode cX12_wrongRow 49 = .ok (.bipush (-12), 2) := by decide +kernel
theorem dX12_wrongRow_51 : decode cX12_wrongRow 51 = .ok (.goto 4, 3) := by decide +kernel
theorem dX12_wrongRow_54 : decode cX12_wrongRow 54 = .ok (.iconst 0, 1) := by decide +kernel
theorem dX12_wrongRow_55 : decode cX12_wrongRow 55 = .ok (.ireturn, 1) := by decide +kernel
