theorem dX1_next_0 : decode cX1_next 0 = .ok (.aload_n 0, 1) := by decide +kernel
theorem dX1_next_1 : decode cX1_next 1 = .ok (.getfield 42, 3) := by decide +kernel
theorem dX1_next_4 : decode cX1_next 4 = .ok (.ifCond .lt 27, 3) := by decide +kernel
theorem dX1_next_7 : decode cX1_next 7 = .ok (.aload_n 0, 1) := by decide +kernel
theorem dX1_next_8 : decode cX1_next 8 = .ok (.getfield 42, 3) := by decide +kernel
theorem dX1_next_11 : decode cX1_next 11 = .ok (.aload_n 0, 1) := by decide +kernel
theorem dX1_next_12 : decode cX1_next 12 = .ok (.getfield 22, 3) := by decide +kernel
theorem dX1_next_15 : decode cX1_next 15 = .ok (.arraylength, 1) := by decide +kernel
theorem dX1_next_16 : decode cX1_next 16 = .ok (.if_icmp .ge 15, 3) := by decide +kernel
theorem dX1_next_19 : decode cX1_next 19 = .ok (.aload_n 0, 1) := by decide +kernel
theorem dX1_next_20 : decode cX1_next 20 = .ok (.getfield 22, 3) := by decide +kernel
theorem dX1_next_23 : decode cX1_next 23 = .ok (.aload_n 0, 1) := by decide +kernel
theorem dX1_next_24 : decode cX1_next 24 = .ok (.getfield 42, 3) := by decide +kernel
theorem dX1_next_27 : decode cX1_next 27 = .ok (.iaload, 1) := by decide +kernel
theorem dX1_next_28 : decode cX1_next 28 = .ok (.goto 6, 3) := by decide +kernel
theorem dX1_next_31 : decode cX1_next 31 = .ok (.sipush 1000, 3) := by decide +kernel
theorem dX1_next_34 : decode cX1_next 34 = .ok (.ireturn, 1) := by decide +kernel
theorem dX1_findFault_0 : decode cX1_findFault 0 = .ok (.aload_n 0, 1) := by decide +kernel
theorem dX1_findFault_1 : decode cX1_findFault 1 = .ok (.getfield 7, 3) := by decide +kernel
theorem dX1_findFault_4 : decode cX1_findFault 4 = .ok (.ifCond .ge 11, 3) := by decide +kernel
theorem dX1_findFault_7 : decode cX1_findFault 7 = .ok (.aload_n 0, 1) := by decide +kernel
theorem dX1_findFault_8 : decode cX1_findFault 8 = .ok (.aload_n 0, 1) := by decide +kernel
theorem dX1_findFault_9 : decode cX1_findFault 9 = .ok (.getfield 42, 3) := by decide +kernel
theorem dX1_findFault_12 : decode cX1_findFault 12 = .ok (.putfield 7, 3) := by decide +kernel
theorem dX1_findFault_15 : decode cX1_findFault 15 = .ok (.return_, 1) := by decide +kernel
theorem dX1_take_0 : decode cX1_take 0 = .ok (.aload_n 0, 1) := by decide +kernel
theorem dX1_take_1 : decode cX1_take 1 = .ok (.getfield 7, 3) := by decide +kernel
theorem dX1_take_4 : decode cX1_take 4 = .ok (.ifCond .ge 24, 3) := by decide +kernel
theorem dX1_take_7 : decode cX1_take 7 = .ok (.aload_n 0, 1) := by decide +kernel
theorem dX1_take_8 : decode cX1_take 8 = .ok (.invokevirtual 48, 3) := by decide +kernel
theorem dX1_take_11 : decode cX1_take 11 = .ok (.iload_n 1, 1) := by decide +kernel
theorem dX1_take_12 : decode cX1_take 12 = .ok (.if_icmp .ne 16, 3) := by decide +kernel
theorem dX1_take_15 : decode cX1_take 15 = .ok (.aload_n 0, 1) := by decide +kernel
theorem dX1_take_16 : decode cX1_take 16 = .ok (.dup, 1) := by decide +kernel
theorem dX1_take_17 : decode cX1_take 17 = .ok (.getfield 42, 3) := by decide +kernel
theorem dX1_take_20 : decode cX1_take 20 = .ok (.iconst 1, 1) := by decide +kernel
theorem dX1_take_21 : decode cX1_take 21 = .ok (.iadd, 1) := by decide +kernel
theorem dX1_take_22 : decode cX1_take 22 = .ok (.putfield 42, 3) := by decide +kernel
theorem dX1_take_25 : decode cX1_take 25 = .ok (.goto 7, 3) := by decide +kernel
theorem dX1_take_28 : decode cX1_take 28 = .ok (.aload_n 0, 1) := by decide +kernel
theorem dX1_take_29 : decode cX1_take 29 = .ok (.invokevirtual 45, 3) := by decide +kernel
theorem dX1_take_32 : decode cX1_take 32 = .ok (.return_, 1) := by decide +kernel
theorem dX1_write_0 : decode cX1_write 0 = .ok (.aload_n 0, 1) := by decide +kernel
theorem dX1_write_1 : decode cX1_write 1 = .ok (.getfield 26, 3) := by decide +kernel
theorem dX1_write_4 : decode cX1_write 4 = .ok (.aload_n 0, 1) := by decide +kernel
theorem dX1_write_5 : decode cX1_write 5 = .ok (.getfield 52, 3) := by decide +kernel
theorem dX1_write_8 : decode cX1_write 8 = .ok (.iload_n 1, 1) := by decide +kernel
theorem dX1_write_9 : decode cX1_write 9 = .ok (.invokestatic 55, 3) := by decide +kernel
theorem dX1_write_12 : decode cX1_write 12 = .ok (.aload_n 0, 1) := by decide +kernel
theorem dX1_write_13 : decode cX1_write 13 = .ok (.dup, 1) := by decide +kernel
theorem dX1_write_14 : decode cX1_write 14 = .ok (.getfield 52, 3) := by decide +kernel
theorem dX1_write_17 : decode cX1_write 17 = .ok (.iconst 1, 1) := by decide +kernel
theorem dX1_write_18 : decode cX1_write 18 = .ok (.iadd, 1) := by decide +kernel
theorem dX1_write_19 : decode cX1_write 19 = .ok (.putfield 52, 3) := by decide +kernel
theorem dX1_write_22 : decode cX1_write 22 = .ok (.return_, 1) := by decide +kernel
theorem dX1_readBracket_0 : decode cX1_readBracket 0 = .ok (.iload_n 2, 1) := by decide +kernel
theorem dX1_readBracket_1 : decode cX1_readBracket 1 = .ok (.bipush 6, 2) := by decide +kernel
theorem dX1_readBracket_3 : decode cX1_readBracket 3 = .ok (.if_icmp .lt 8, 3) := by decide +kernel
theorem dX1_readBracket_6 : decode cX1_readBracket 6 = .ok (.aload_n 0, 1) := by decide +kernel
theorem dX1_readBracket_7 : decode cX1_readBracket 7 = .ok (.invokevirtual 45, 3) := by decide +kernel
theorem dX1_readBracket_10 : decode cX1_readBracket 10 = .ok (.return_, 1) := by decide +kernel
theorem dX1_readBracket_11 : decode cX1_readBracket 11 = .ok (.aload_n 0, 1) := by decide +kernel
theorem dX1_readBracket_12 : decode cX1_readBracket 12 = .ok (.dup, 1) := by decide +kernel
theorem dX1_readBracket_13 : decode cX1_readBracket 13 = .ok (.getfield 42, 3) := by decide +kernel
theorem dX1_readBracket_16 : decode cX1_readBracket 16 = .ok (.iconst 1, 1) := by decide +kernel
theorem dX1_readBracket_17 : decode cX1_readBracket 17 = .ok (.iadd, 1) := by decide +kernel
theorem dX1_readBracket_18 : decode cX1_readBracket 18 = .ok (.putfield 42, 3) := by decide +kernel
theorem dX1_readBracket_21 : decode cX1_readBracket 21 = .ok (.aload_n 0, 1) := by decide +kernel
theorem dX1_readBracket_22 : decode cX1_readBracket 22 = .ok (.iload_n 2, 1) := by decide +kernel
theorem dX1_readBracket_23 : decode cX1_readBracket 23 = .ok (.iconst 1, 1) := by decide +kernel
theorem dX1_readBracket_24 : decode cX1_readBracket 24 = .ok (.iadd, 1) := by decide +kernel
theorem dX1_readBracket_25 : decode cX1_readBracket 25 = .ok (.invokevirtual 38, 3) := by decide +kernel
theorem dX1_readBracket_28 : decode cX1_readBracket 28 = .ok (.iload_n 1, 1) := by decide +kernel
theorem dX1_readBracket_29 : decode cX1_readBracket 29 = .ok (.bipush 40, 2) := by decide +kernel
theorem dX1_readBracket_31 : decode cX1_readBracket 31 = .ok (.if_icmp .ne 10, 3) := by decide +kernel
theorem dX1_readBracket_34 : decode cX1_readBracket 34 = .ok (.aload_n 0, 1) := by decide +kernel
theorem dX1_readBracket_35 : decode cX1_readBracket 35 = .ok (.bipush 41, 2) := by decide +kernel
theorem dX1_readBracket_37 : decode cX1_readBracket 37 = .ok (.invokevirtual 75, 3) := by decide +kernel
theorem dX1_readBracket_40 : decode cX1_readBracket 40 = .ok (.return_, 1) := by decide +kernel
theorem dX1_readBracket_41 : decode cX1_readBracket 41 = .ok (.aload_n 0, 1) := by decide +kernel
theorem dX1_readBracket_42 : decode cX1_readBracket 42 = .ok (.bipush 44, 2) := by decide +kernel
theorem dX1_readBracket_44 : decode cX1_readBracket 44 = .ok (.invokevirtual 75, 3) := by decide +kernel
theorem dX1_readBracket_47 : decode cX1_readBracket 47 = .ok (.aload_n 0, 1) := by decide +kernel
theorem dX1_readBracket_48 : decode cX1_readBracket 48 = .ok (.getfield 7, 3) := by decide +kernel
theorem dX1_readBracket_51 : decode cX1_readBracket 51 = .ok (.ifCond .ge 22, 3) := by decide +kernel
theorem dX1_readBracket_54 : decode cX1_readBracket 54 = .ok (.aload_n 0, 1) := by decide +kernel
theorem dX1_readBracket_55 : decode cX1_readBracket 55 = .ok (.iload_n 2, 1) := by decide +kernel
theorem dX1_readBracket_56 : decode cX1_readBracket 56 = .ok (.iconst 1, 1) := by decide +kernel
theorem dX1_readBracket_57 : decode cX1_readBracket 57 = .ok (.iadd, 1) := by decide +kernel
theorem dX1_readBracket_58 : decode cX1_readBracket 58 = .ok (.invokevirtual 38, 3) := by decide +kernel
theorem dX1_readBracket_61 : decode cX1_readBracket 61 = .ok (.aload_n 0, 1) := by decide +kernel
theorem dX1_readBracket_62 : decode cX1_readBracket 62 = .ok (.bipush 93, 2) := by decide +kernel
theorem dX1_readBracket_64 : decode cX1_readBracket 64 = .ok (.invokevirtual 75, 3) := by decide +kernel
theorem dX1_readBracket_67 : decode cX1_readBracket 67 = .ok (.aload_n 0, 1) := by decide +kernel
theorem dX1_readBracket_68 : decode cX1_readBracket 68 = .ok (.bipush 44, 2) := by decide +kernel
theorem dX1_readBracket_70 : decode cX1_readBracket 70 = .ok (.invokevirtual 62, 3) := by decide +kernel
theorem dX1_readBracket_73 : decode cX1_readBracket 73 = .ok (.return_, 1) := by decide +kernel
theorem dX1_readNumber_0 : decode cX1_readNumber 0 = .ok (.iconst 0, 1) := by decide +kernel
theorem dX1_readNumber_1 : decode cX1_readNumber 1 = .ok (.istore_n 1, 1) := by decide +kernel
theorem dX1_readNumber_2 : decode cX1_readNumber 2 = .ok (.iconst 0, 1) := by decide +kernel
theorem dX1_readNumber_3 : decode cX1_readNumber 3 = .ok (.istore_n 2, 1) := by decide +kernel
theorem dX1_readNumber_4 : decode cX1_readNumber 4 = .ok (.iload_n 2, 1) := by decide +kernel
theorem dX1_readNumber_5 : decode cX1_readNumber 5 = .ok (.iconst 3, 1) := by decide +kernel
theorem dX1_readNumber_6 : decode cX1_readNumber 6 = .ok (.if_icmp .ge 57, 3) := by decide +kernel
theorem dX1_readNumber_9 : decode cX1_readNumber 9 = .ok (.aload_n 0, 1) := by decide +kernel
theorem dX1_readNumber_10 : decode cX1_readNumber 10 = .ok (.invokevirtual 48, 3) := by decide +kernel
theorem dX1_readNumber_13 : decode cX1_readNumber 13 = .ok (.bipush 48, 2) := by decide +kernel
theorem dX1_readNumber_15 : decode cX1_readNumber 15 = .ok (.if_icmp .lt 48, 3) := by decide +kernel
theorem dX1_readNumber_18 : decode cX1_readNumber 18 = .ok (.aload_n 0, 1) := by decide +kernel
theorem dX1_readNumber_19 : decode cX1_readNumber 19 = .ok (.invokevirtual 48, 3) := by decide +kernel
theorem dX1_readNumber_22 : decode cX1_readNumber 22 = .ok (.bipush 57, 2) := by decide +kernel
theorem dX1_readNumber_24 : decode cX1_readNumber 24 = .ok (.if_icmp .gt 39, 3) := by decide +kernel
theorem dX1_readNumber_27 : decode cX1_readNumber 27 = .ok (.bipush 10, 2) := by decide +kernel
theorem dX1_readNumber_29 : decode cX1_readNumber 29 = .ok (.iload_n 1, 1) := by decide +kernel
theorem dX1_readNumber_30 : decode cX1_readNumber 30 = .ok (.imul, 1) := by decide +kernel
theorem dX1_readNumber_31 : decode cX1_readNumber 31 = .ok (.aload_n 0, 1) := by decide +kernel
theorem dX1_readNumber_32 : decode cX1_readNumber 32 = .ok (.invokevirtual 48, 3) := by decide +kernel
theorem dX1_readNumber_35 : decode cX1_readNumber 35 = .ok (.iadd, 1) := by decide +kernel
theorem dX1_readNumber_36 : decode cX1_readNumber 36 = .ok (.bipush 48, 2) := by decide +kernel
theorem dX1_readNumber_38 : decode cX1_readNumber 38 = .ok (.isub, 1) := by decide +kernel
theorem dX1_readNumber_39 : decode cX1_readNumber 39 = .ok (.istore_n 1, 1) := by decide +kernel
theorem dX1_readNumber_40 : decode cX1_readNumber 40 = .ok (.aload_n 0, 1) := by decide +kernel
theorem dX1_readNumber_41 : decode cX1_readNumber 41 = .ok (.dup, 1) := by decide +kernel
theorem dX1_readNumber_42 : decode cX1_readNumber 42 = .ok (.getfield 42, 3) := by decide +kernel
theorem dX1_readNumber_45 : decode cX1_readNumber 45 = .ok (.iconst 1, 1) := by decide +kernel
theorem dX1_readNumber_46 : decode cX1_readNumber 46 = .ok (.iadd, 1) := by decide +kernel
theorem dX1_readNumber_47 : decode cX1_readNumber 47 = .ok (.putfield 42, 3) := by decide +kernel
theorem dX1_readNumber_50 : decode cX1_readNumber 50 = .ok (.iload_n 1, 1) := by decide +kernel
theorem dX1_readNumber_51 : decode cX1_readNumber 51 = .ok (.ifCond .ne 6, 3) := by decide +kernel
theorem dX1_readNumber_54 : decode cX1_readNumber 54 = .ok (.goto 9, 3) := by decide +kernel
theorem dX1_readNumber_57 : decode cX1_readNumber 57 = .ok (.iinc 2 1, 3) := by decide +kernel
theorem dX1_readNumber_60 : decode cX1_readNumber 60 = .ok (.goto (-56), 3) := by decide +kernel
theorem dX1_readNumber_63 : decode cX1_readNumber 63 = .ok (.aload_n 0, 1) := by decide +kernel
theorem dX1_readNumber_64 : decode cX1_readNumber 64 = .ok (.iconst (-1), 1) := by decide +kernel
theorem dX1_readNumber_65 : decode cX1_readNumber 65 = .ok (.iload_n 1, 1) := by decide +kernel
theorem dX1_readNumber_66 : decode cX1_readNumber 66 = .ok (.isub, 1) := by decide +kernel
theorem dX1_readNumber_67 : decode cX1_readNumber 67 = .ok (.invokevirtual 62, 3) := by decide +kernel
theorem dX1_readNumber_70 : decode cX1_readNumber 70 = .ok (.return_, 1) := by decide +kernel
theorem dX1_readAtom_0 : decode cX1_readAtom 0 = .ok (.aload_n 0, 1) := by decide +kernel
theorem dX1_readAtom_1 : decode cX1_readAtom 1 = .ok (.invokevirtual 48, 3) := by decide +kernel
theorem dX1_readAtom_4 : decode cX1_readAtom 4 = .ok (.istore_n 2, 1) := by decide +kernel
theorem dX1_readAtom_5 : decode cX1_readAtom 5 = .ok (.iload_n 2, 1) := by decide +kernel
theorem dX1_readAtom_6 : decode cX1_readAtom 6 = .ok (.bipush 40, 2) := by decide +kernel
theorem dX1_readAtom_8 : decode cX1_readAtom 8 = .ok (.if_icmp .eq 9, 3) := by decide +kernel
theorem dX1_readAtom_11 : decode cX1_readAtom 11 = .ok (.iload_n 2, 1) := by decide +kernel
theorem dX1_readAtom_12 : decode cX1_readAtom 12 = .ok (.bipush 91, 2) := by decide +kernel
theorem dX1_readAtom_14 : decode cX1_readAtom 14 = .ok (.if_icmp .ne 12, 3) := by decide +kernel
theorem dX1_readAtom_17 : decode cX1_readAtom 17 = .ok (.aload_n 0, 1) := by decide +kernel
theorem dX1_readAtom_18 : decode cX1_readAtom 18 = .ok (.iload_n 2, 1) := by decide +kernel
theorem dX1_readAtom_19 : decode cX1_readAtom 19 = .ok (.iload_n 1, 1) := by decide +kernel
theorem dX1_readAtom_20 : decode cX1_readAtom 20 = .ok (.invokevirtual 68, 3) := by decide +kernel
theorem dX1_readAtom_23 : decode cX1_readAtom 23 = .ok (.goto 74, 3) := by decide +kernel
theorem dX1_readAtom_26 : decode cX1_readAtom 26 = .ok (.iload_n 2, 1) := by decide +kernel
theorem dX1_readAtom_27 : decode cX1_readAtom 27 = .ok (.bipush 48, 2) := by decide +kernel
theorem dX1_readAtom_29 : decode cX1_readAtom 29 = .ok (.if_icmp .lt 16, 3) := by decide +kernel
theorem dX1_readAtom_32 : decode cX1_readAtom 32 = .ok (.iload_n 2, 1) := by decide +kernel
theorem dX1_readAtom_33 : decode cX1_readAtom 33 = .ok (.bipush 57, 2) := by decide +kernel
theorem dX1_readAtom_35 : decode cX1_readAtom 35 = .ok (.if_icmp .gt 10, 3) := by decide +kernel
theorem dX1_readAtom_38 : decode cX1_readAtom 38 = .ok (.aload_n 0, 1) := by decide +kernel
theorem dX1_readAtom_39 : decode cX1_readAtom 39 = .ok (.invokevirtual 72, 3) := by decide +kernel
theorem dX1_readAtom_42 : decode cX1_readAtom 42 = .ok (.goto 55, 3) := by decide +kernel
theorem dX1_readAtom_45 : decode cX1_readAtom 45 = .ok (.iload_n 2, 1) := by decide +kernel
theorem dX1_readAtom_46 : decode cX1_readAtom 46 = .ok (.bipush 116, 2) := by decide +kernel
theorem dX1_readAtom_48 : decode cX1_readAtom 48 = .ok (.if_icmp .eq 27, 3) := by decide +kernel
theorem dX1_readAtom_51 : decode cX1_readAtom 51 = .ok (.iload_n 2, 1) := by decide +kernel
theorem dX1_readAtom_52 : decode cX1_readAtom 52 = .ok (.bipush 112, 2) := by decide +kernel
theorem dX1_readAtom_54 : decode cX1_readAtom 54 = .ok (.if_icmp .eq 21, 3) := by decide +kernel
theorem dX1_readAtom_57 : decode cX1_readAtom 57 = .ok (.iload_n 2, 1) := by decide +kernel
theorem dX1_readAtom_58 : decode cX1_readAtom 58 = .ok (.bipush 121, 2) := by decide +kernel
theorem dX1_readAtom_60 : decode cX1_readAtom 60 = .ok (.if_icmp .eq 15, 3) := by decide +kernel
theorem dX1_readAtom_63 : decode cX1_readAtom 63 = .ok (.iload_n 2, 1) := by decide +kernel
theorem dX1_readAtom_64 : decode cX1_readAtom 64 = .ok (.bipush 110, 2) := by decide +kernel
theorem dX1_readAtom_66 : decode cX1_readAtom 66 = .ok (.if_icmp .eq 9, 3) := by decide +kernel
theorem dX1_readAtom_69 : decode cX1_readAtom 69 = .ok (.iload_n 2, 1) := by decide +kernel
theorem dX1_readAtom_70 : decode cX1_readAtom 70 = .ok (.bipush 109, 2) := by decide +kernel
theorem dX1_readAtom_72 : decode cX1_readAtom 72 = .ok (.if_icmp .ne 21, 3) := by decide +kernel
theorem dX1_readAtom_75 : decode cX1_readAtom 75 = .ok (.aload_n 0, 1) := by decide +kernel
theorem dX1_readAtom_76 : decode cX1_readAtom 76 = .ok (.dup, 1) := by decide +kernel
theorem dX1_readAtom_77 : decode cX1_readAtom 77 = .ok (.getfield 42, 3) := by decide +kernel
theorem dX1_readAtom_80 : decode cX1_readAtom 80 = .ok (.iconst 1, 1) := by decide +kernel
theorem dX1_readAtom_81 : decode cX1_readAtom 81 = .ok (.iadd, 1) := by decide +kernel
theorem dX1_readAtom_82 : decode cX1_readAtom 82 = .ok (.putfield 42, 3) := by decide +kernel
theorem dX1_readAtom_85 : decode cX1_readAtom 85 = .ok (.aload_n 0, 1) := by decide +kernel
theorem dX1_readAtom_86 : decode cX1_readAtom 86 = .ok (.iload_n 2, 1) := by decide +kernel
theorem dX1_readAtom_87 : decode cX1_readAtom 87 = .ok (.invokevirtual 62, 3) := by decide +kernel
theorem dX1_readAtom_90 : decode cX1_readAtom 90 = .ok (.goto 7, 3) := by decide +kernel
theorem dX1_readAtom_93 : decode cX1_readAtom 93 = .ok (.aload_n 0, 1) := by decide +kernel
theorem dX1_readAtom_94 : decode cX1_readAtom 94 = .ok (.invokevirtual 45, 3) := by decide +kernel
theorem dX1_readAtom_97 : decode cX1_readAtom 97 = .ok (.return_, 1) := by decide +kernel
theorem dX1_readProduct_0 : decode cX1_readProduct 0 = .ok (.aload_n 0, 1) := by decide +kernel
theorem dX1_readProduct_1 : decode cX1_readProduct 1 = .ok (.iload_n 1, 1) := by decide +kernel
theorem dX1_readProduct_2 : decode cX1_readProduct 2 = .ok (.invokevirtual 65, 3) := by decide +kernel
theorem dX1_readProduct_5 : decode cX1_readProduct 5 = .ok (.iconst 0, 1) := by decide +kernel
theorem dX1_readProduct_6 : decode cX1_readProduct 6 = .ok (.istore_n 2, 1) := by decide +kernel
theorem dX1_readProduct_7 : decode cX1_readProduct 7 = .ok (.iload_n 2, 1) := by decide +kernel
theorem dX1_readProduct_8 : decode cX1_readProduct 8 = .ok (.aload_n 0, 1) := by decide +kernel
theorem dX1_readProduct_9 : decode cX1_readProduct 9 = .ok (.getfield 22, 3) := by decide +kernel
theorem dX1_readProduct_12 : decode cX1_readProduct 12 = .ok (.arraylength, 1) := by decide +kernel
theorem dX1_readProduct_13 : decode cX1_readProduct 13 = .ok (.if_icmp .ge 59, 3) := by decide +kernel
theorem dX1_readProduct_16 : decode cX1_readProduct 16 = .ok (.aload_n 0, 1) := by decide +kernel
theorem dX1_readProduct_17 : decode cX1_readProduct 17 = .ok (.getfield 7, 3) := by decide +kernel
theorem dX1_readProduct_20 : decode cX1_readProduct 20 = .ok (.ifCond .ge 52, 3) := by decide +kernel
theorem dX1_readProduct_23 : decode cX1_readProduct 23 = .ok (.aload_n 0, 1) := by decide +kernel
theorem dX1_readProduct_24 : decode cX1_readProduct 24 = .ok (.invokevirtual 48, 3) := by decide +kernel
theorem dX1_readProduct_27 : decode cX1_readProduct 27 = .ok (.bipush 42, 2) := by decide +kernel
theorem dX1_readProduct_29 : decode cX1_readProduct 29 = .ok (.if_icmp .eq 12, 3) := by decide +kernel
theorem dX1_readProduct_32 : decode cX1_readProduct 32 = .ok (.aload_n 0, 1) := by decide +kernel
theorem dX1_readProduct_33 : decode cX1_readProduct 33 = .ok (.invokevirtual 48, 3) := by decide +kernel
theorem dX1_readProduct_36 : decode cX1_readProduct 36 = .ok (.bipush 47, 2) := by decide +kernel
theorem dX1_readProduct_38 : decode cX1_readProduct 38 = .ok (.if_icmp .ne 34, 3) := by decide +kernel
theorem dX1_readProduct_41 : decode cX1_readProduct 41 = .ok (.aload_n 0, 1) := by decide +kernel
theorem dX1_readProduct_42 : decode cX1_readProduct 42 = .ok (.invokevirtual 48, 3) := by decide +kernel
theorem dX1_readProduct_45 : decode cX1_readProduct 45 = .ok (.istore_n 3, 1) := by decide +kernel
theorem dX1_readProduct_46 : decode cX1_readProduct 46 = .ok (.aload_n 0, 1) := by decide +kernel
theorem dX1_readProduct_47 : decode cX1_readProduct 47 = .ok (.dup, 1) := by decide +kernel
theorem dX1_readProduct_48 : decode cX1_readProduct 48 = .ok (.getfield 42, 3) := by decide +kernel
theorem dX1_readProduct_51 : decode cX1_readProduct 51 = .ok (.iconst 1, 1) := by decide +kernel
theorem dX1_readProduct_52 : decode cX1_readProduct 52 = .ok (.iadd, 1) := by decide +kernel
theorem dX1_readProduct_53 : decode cX1_readProduct 53 = .ok (.putfield 42, 3) := by decide +kernel
theorem dX1_readProduct_56 : decode cX1_readProduct 56 = .ok (.aload_n 0, 1) := by decide +kernel
theorem dX1_readProduct_57 : decode cX1_readProduct 57 = .ok (.iload_n 1, 1) := by decide +kernel
theorem dX1_readProduct_58 : decode cX1_readProduct 58 = .ok (.invokevirtual 65, 3) := by decide +kernel
theorem dX1_readProduct_61 : decode cX1_readProduct 61 = .ok (.aload_n 0, 1) := by decide +kernel
theorem dX1_readProduct_62 : decode cX1_readProduct 62 = .ok (.iload_n 3, 1) := by decide +kernel
theorem dX1_readProduct_63 : decode cX1_readProduct 63 = .ok (.invokevirtual 62, 3) := by decide +kernel
theorem dX1_readProduct_66 : decode cX1_readProduct 66 = .ok (.iinc 2 1, 3) := by decide +kernel
theorem dX1_readProduct_69 : decode cX1_readProduct 69 = .ok (.goto (-62), 3) := by decide +kernel
theorem dX1_readProduct_72 : decode cX1_readProduct 72 = .ok (.return_, 1) := by decide +kernel
