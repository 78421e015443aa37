theorem dX3_init_0 : decode cX3_init 0 = .ok (.aload_n 0, 1) := by decide +kernel
theorem dX3_init_1 : decode cX3_init 1 = .ok (.invokespecial 3, 3) := by decide +kernel
theorem dX3_init_4 : decode cX3_init 4 = .ok (.aload_n 0, 1) := by decide +kernel
theorem dX3_init_5 : decode cX3_init 5 = .ok (.bipush 12, 2) := by decide +kernel
theorem dX3_init_7 : decode cX3_init 7 = .ok (.newarray .int, 2) := by decide +kernel
theorem dX3_init_9 : decode cX3_init 9 = .ok (.putfield 9, 3) := by decide +kernel
theorem dX3_init_12 : decode cX3_init 12 = .ok (.aload_n 0, 1) := by decide +kernel
theorem dX3_init_13 : decode cX3_init 13 = .ok (.bipush 12, 2) := by decide +kernel
theorem dX3_init_15 : decode cX3_init 15 = .ok (.anewarray 15, 3) := by decide +kernel
theorem dX3_init_18 : decode cX3_init 18 = .ok (.putfield 17, 3) := by decide +kernel
theorem dX3_init_21 : decode cX3_init 21 = .ok (.aload_n 0, 1) := by decide +kernel
theorem dX3_init_22 : decode cX3_init 22 = .ok (.bipush 12, 2) := by decide +kernel
theorem dX3_init_24 : decode cX3_init 24 = .ok (.newarray .int, 2) := by decide +kernel
theorem dX3_init_26 : decode cX3_init 26 = .ok (.putfield 21, 3) := by decide +kernel
theorem dX3_init_29 : decode cX3_init 29 = .ok (.aload_n 0, 1) := by decide +kernel
theorem dX3_init_30 : decode cX3_init 30 = .ok (.bipush 6, 2) := by decide +kernel
theorem dX3_init_32 : decode cX3_init 32 = .ok (.anewarray 24, 3) := by decide +kernel
theorem dX3_init_35 : decode cX3_init 35 = .ok (.putfield 26, 3) := by decide +kernel
theorem dX3_init_38 : decode cX3_init 38 = .ok (.aload_n 0, 1) := by decide +kernel
theorem dX3_init_39 : decode cX3_init 39 = .ok (.iconst 4, 1) := by decide +kernel
theorem dX3_init_40 : decode cX3_init 40 = .ok (.newarray .int, 2) := by decide +kernel
theorem dX3_init_42 : decode cX3_init 42 = .ok (.dup, 1) := by decide +kernel
theorem dX3_init_43 : decode cX3_init 43 = .ok (.iconst 0, 1) := by decide +kernel
theorem dX3_init_44 : decode cX3_init 44 = .ok (.bipush 12, 2) := by decide +kernel
theorem dX3_init_46 : decode cX3_init 46 = .ok (.iastore, 1) := by decide +kernel
theorem dX3_init_47 : decode cX3_init 47 = .ok (.dup, 1) := by decide +kernel
theorem dX3_init_48 : decode cX3_init 48 = .ok (.iconst 1, 1) := by decide +kernel
theorem dX3_init_49 : decode cX3_init 49 = .ok (.iconst 0, 1) := by decide +kernel
theorem dX3_init_50 : decode cX3_init 50 = .ok (.iastore, 1) := by decide +kernel
theorem dX3_init_51 : decode cX3_init 51 = .ok (.dup, 1) := by decide +kernel
theorem dX3_init_52 : decode cX3_init 52 = .ok (.iconst 2, 1) := by decide +kernel
theorem dX3_init_53 : decode cX3_init 53 = .ok (.iconst 0, 1) := by decide +kernel
theorem dX3_init_54 : decode cX3_init 54 = .ok (.iastore, 1) := by decide +kernel
theorem dX3_init_55 : decode cX3_init 55 = .ok (.dup, 1) := by decide +kernel
theorem dX3_init_56 : decode cX3_init 56 = .ok (.iconst 3, 1) := by decide +kernel
theorem dX3_init_57 : decode cX3_init 57 = .ok (.sipush 600, 3) := by decide +kernel
theorem dX3_init_60 : decode cX3_init 60 = .ok (.iastore, 1) := by decide +kernel
theorem dX3_init_61 : decode cX3_init 61 = .ok (.putfield 30, 3) := by decide +kernel
theorem dX3_init_64 : decode cX3_init 64 = .ok (.aload_n 0, 1) := by decide +kernel
theorem dX3_init_65 : decode cX3_init 65 = .ok (.bipush 12, 2) := by decide +kernel
theorem dX3_init_67 : decode cX3_init 67 = .ok (.newarray .int, 2) := by decide +kernel
theorem dX3_init_69 : decode cX3_init 69 = .ok (.putfield 33, 3) := by decide +kernel
theorem dX3_init_72 : decode cX3_init 72 = .ok (.aload_n 0, 1) := by decide +kernel
theorem dX3_init_73 : decode cX3_init 73 = .ok (.bipush 12, 2) := by decide +kernel
theorem dX3_init_75 : decode cX3_init 75 = .ok (.newarray .int, 2) := by decide +kernel
theorem dX3_init_77 : decode cX3_init 77 = .ok (.putfield 36, 3) := by decide +kernel
theorem dX3_init_80 : decode cX3_init 80 = .ok (.aload_n 0, 1) := by decide +kernel
theorem dX3_init_81 : decode cX3_init 81 = .ok (.bipush 12, 2) := by decide +kernel
theorem dX3_init_83 : decode cX3_init 83 = .ok (.newarray .int, 2) := by decide +kernel
theorem dX3_init_85 : decode cX3_init 85 = .ok (.putfield 39, 3) := by decide +kernel
theorem dX3_init_88 : decode cX3_init 88 = .ok (.aload_n 0, 1) := by decide +kernel
theorem dX3_init_89 : decode cX3_init 89 = .ok (.bipush 12, 2) := by decide +kernel
theorem dX3_init_91 : decode cX3_init 91 = .ok (.newarray .int, 2) := by decide +kernel
theorem dX3_init_93 : decode cX3_init 93 = .ok (.putfield 42, 3) := by decide +kernel
theorem dX3_init_96 : decode cX3_init 96 = .ok (.return_, 1) := by decide +kernel
theorem dX5_init_0 : decode cX5_init 0 = .ok (.aload_n 0, 1) := by decide +kernel
theorem dX5_init_1 : decode cX5_init 1 = .ok (.invokespecial 3, 3) := by decide +kernel
theorem dX5_init_4 : decode cX5_init 4 = .ok (.aload_n 0, 1) := by decide +kernel
theorem dX5_init_5 : decode cX5_init 5 = .ok (.iconst (-1), 1) := by decide +kernel
theorem dX5_init_6 : decode cX5_init 6 = .ok (.putfield 11, 3) := by decide +kernel
theorem dX5_init_9 : decode cX5_init 9 = .ok (.aload_n 0, 1) := by decide +kernel
theorem dX5_init_10 : decode cX5_init 10 = .ok (.bipush 100, 2) := by decide +kernel
theorem dX5_init_12 : decode cX5_init 12 = .ok (.newarray .int, 2) := by decide +kernel
theorem dX5_init_14 : decode cX5_init 14 = .ok (.putfield 15, 3) := by decide +kernel
theorem dX5_init_17 : decode cX5_init 17 = .ok (.return_, 1) := by decide +kernel
theorem dX11_init_0 : decode cX11_init 0 = .ok (.aload_n 0, 1) := by decide +kernel
theorem dX11_init_1 : decode cX11_init 1 = .ok (.invokespecial 1, 3) := by decide +kernel
theorem dX11_init_4 : decode cX11_init 4 = .ok (.aload_n 0, 1) := by decide +kernel
theorem dX11_init_5 : decode cX11_init 5 = .ok (.new 7, 3) := by decide +kernel
theorem dX11_init_8 : decode cX11_init 8 = .ok (.dup, 1) := by decide +kernel
theorem dX11_init_9 : decode cX11_init 9 = .ok (.invokespecial 9, 3) := by decide +kernel
theorem dX11_init_12 : decode cX11_init 12 = .ok (.putfield 10, 3) := by decide +kernel
theorem dX11_init_15 : decode cX11_init 15 = .ok (.aload_n 0, 1) := by decide +kernel
theorem dX11_init_16 : decode cX11_init 16 = .ok (.new 7, 3) := by decide +kernel
theorem dX11_init_19 : decode cX11_init 19 = .ok (.dup, 1) := by decide +kernel
theorem dX11_init_20 : decode cX11_init 20 = .ok (.invokespecial 9, 3) := by decide +kernel
theorem dX11_init_23 : decode cX11_init 23 = .ok (.putfield 16, 3) := by decide +kernel
theorem dX11_init_26 : decode cX11_init 26 = .ok (.aload_n 0, 1) := by decide +kernel
theorem dX11_init_27 : decode cX11_init 27 = .ok (.new 7, 3) := by decide +kernel
theorem dX11_init_30 : decode cX11_init 30 = .ok (.dup, 1) := by decide +kernel
theorem dX11_init_31 : decode cX11_init 31 = .ok (.invokespecial 9, 3) := by decide +kernel
theorem dX11_init_34 : decode cX11_init 34 = .ok (.putfield 19, 3) := by decide +kernel
theorem dX11_init_37 : decode cX11_init 37 = .ok (.aload_n 0, 1) := by decide +kernel
theorem dX11_init_38 : decode cX11_init 38 = .ok (.bipush 8, 2) := by decide +kernel
theorem dX11_init_40 : decode cX11_init 40 = .ok (.anewarray 22, 3) := by decide +kernel
theorem dX11_init_43 : decode cX11_init 43 = .ok (.putfield 24, 3) := by decide +kernel
theorem dX11_init_46 : decode cX11_init 46 = .ok (.iconst 0, 1) := by decide +kernel
theorem dX11_init_47 : decode cX11_init 47 = .ok (.istore_n 1, 1) := by decide +kernel
theorem dX11_init_48 : decode cX11_init 48 = .ok (.iload_n 1, 1) := by decide +kernel
theorem dX11_init_49 : decode cX11_init 49 = .ok (.aload_n 0, 1) := by decide +kernel
theorem dX11_init_50 : decode cX11_init 50 = .ok (.getfield 24, 3) := by decide +kernel
theorem dX11_init_53 : decode cX11_init 53 = .ok (.arraylength, 1) := by decide +kernel
theorem dX11_init_54 : decode cX11_init 54 = .ok (.if_icmp .ge 22, 3) := by decide +kernel
theorem dX11_init_57 : decode cX11_init 57 = .ok (.aload_n 0, 1) := by decide +kernel
theorem dX11_init_58 : decode cX11_init 58 = .ok (.getfield 24, 3) := by decide +kernel
theorem dX11_init_61 : decode cX11_init 61 = .ok (.iload_n 1, 1) := by decide +kernel
theorem dX11_init_62 : decode cX11_init 62 = .ok (.new 22, 3) := by decide +kernel
theorem dX11_init_65 : decode cX11_init 65 = .ok (.dup, 1) := by decide +kernel
theorem dX11_init_66 : decode cX11_init 66 = .ok (.invokespecial 28, 3) := by decide +kernel
theorem dX11_init_69 : decode cX11_init 69 = .ok (.aastore, 1) := by decide +kernel
theorem dX11_init_70 : decode cX11_init 70 = .ok (.iinc 1 1, 3) := by decide +kernel
theorem dX11_init_73 : decode cX11_init 73 = .ok (.goto (-25), 3) := by decide +kernel
theorem dX11_init_76 : decode cX11_init 76 = .ok (.return_, 1) := by decide +kernel
theorem dX11_store_0 : decode cX11_store 0 = .ok (.iload_n 1, 1) := by decide +kernel
theorem dX11_store_1 : decode cX11_store 1 = .ok (.ifCond .lt 13, 3) := by decide +kernel
theorem dX11_store_4 : decode cX11_store 4 = .ok (.iload_n 1, 1) := by decide +kernel
theorem dX11_store_5 : decode cX11_store 5 = .ok (.aload_n 0, 1) := by decide +kernel
theorem dX11_store_6 : decode cX11_store 6 = .ok (.arraylength, 1) := by decide +kernel
theorem dX11_store_7 : decode cX11_store 7 = .ok (.if_icmp .ge 7, 3) := by decide +kernel
theorem dX11_store_10 : decode cX11_store 10 = .ok (.aload_n 0, 1) := by decide +kernel
theorem dX11_store_11 : decode cX11_store 11 = .ok (.iload_n 1, 1) := by decide +kernel
theorem dX11_store_12 : decode cX11_store 12 = .ok (.iload_n 2, 1) := by decide +kernel
theorem dX11_store_13 : decode cX11_store 13 = .ok (.iastore, 1) := by decide +kernel
theorem dX11_store_14 : decode cX11_store 14 = .ok (.return_, 1) := by decide +kernel
theorem dX11_thing_0 : decode cX11_thing 0 = .ok (.iload_n 1, 1) := by decide +kernel
theorem dX11_thing_1 : decode cX11_thing 1 = .ok (.bipush (-20), 2) := by decide +kernel
theorem dX11_thing_3 : decode cX11_thing 3 = .ok (.if_icmp .lt 9, 3) := by decide +kernel
theorem dX11_thing_6 : decode cX11_thing 6 = .ok (.iload_n 1, 1) := by decide +kernel
theorem dX11_thing_7 : decode cX11_thing 7 = .ok (.bipush 20, 2) := by decide +kernel
theorem dX11_thing_9 : decode cX11_thing 9 = .ok (.if_icmp .le 5, 3) := by decide +kernel
theorem dX11_thing_12 : decode cX11_thing 12 = .ok (.iconst (-1), 1) := by decide +kernel
theorem dX11_thing_13 : decode cX11_thing 13 = .ok (.ireturn, 1) := by decide +kernel
theorem dX11_thing_14 : decode cX11_thing 14 = .ok (.aload_n 0, 1) := by decide +kernel
theorem dX11_thing_15 : decode cX11_thing 15 = .ok (.getfield 10, 3) := by decide +kernel
theorem dX11_thing_18 : decode cX11_thing 18 = .ok (.getfield 29, 3) := by decide +kernel
theorem dX11_thing_21 : decode cX11_thing 21 = .ok (.bipush 12, 2) := by decide +kernel
theorem dX11_thing_23 : decode cX11_thing 23 = .ok (.if_icmp .lt 6, 3) := by decide +kernel
theorem dX11_thing_26 : decode cX11_thing 26 = .ok (.bipush (-2), 2) := by decide +kernel
theorem dX11_thing_28 : decode cX11_thing 28 = .ok (.ireturn, 1) := by decide +kernel
theorem dX11_thing_29 : decode cX11_thing 29 = .ok (.aload_n 0, 1) := by decide +kernel
theorem dX11_thing_30 : decode cX11_thing 30 = .ok (.getfield 10, 3) := by decide +kernel
theorem dX11_thing_33 : decode cX11_thing 33 = .ok (.getfield 33, 3) := by decide +kernel
theorem dX11_thing_36 : decode cX11_thing 36 = .ok (.aload_n 0, 1) := by decide +kernel
theorem dX11_thing_37 : decode cX11_thing 37 = .ok (.getfield 10, 3) := by decide +kernel
theorem dX11_thing_40 : decode cX11_thing 40 = .ok (.getfield 29, 3) := by decide +kernel
theorem dX11_thing_43 : decode cX11_thing 43 = .ok (.iload_n 1, 1) := by decide +kernel
theorem dX11_thing_44 : decode cX11_thing 44 = .ok (.invokestatic 37, 3) := by decide +kernel
theorem dX11_thing_47 : decode cX11_thing 47 = .ok (.aload_n 0, 1) := by decide +kernel
theorem dX11_thing_48 : decode cX11_thing 48 = .ok (.getfield 10, 3) := by decide +kernel
theorem dX11_thing_51 : decode cX11_thing 51 = .ok (.dup, 1) := by decide +kernel
theorem dX11_thing_52 : decode cX11_thing 52 = .ok (.getfield 29, 3) := by decide +kernel
theorem dX11_thing_55 : decode cX11_thing 55 = .ok (.iconst 1, 1) := by decide +kernel
theorem dX11_thing_56 : decode cX11_thing 56 = .ok (.iadd, 1) := by decide +kernel
theorem dX11_thing_57 : decode cX11_thing 57 = .ok (.putfield 29, 3) := by decide +kernel
theorem dX11_thing_60 : decode cX11_thing 60 = .ok (.aload_n 0, 1) := by decide +kernel
theorem dX11_thing_61 : decode cX11_thing 61 = .ok (.getfield 10, 3) := by decide +kernel
theorem dX11_thing_64 : decode cX11_thing 64 = .ok (.getfield 29, 3) := by decide +kernel
theorem dX11_thing_67 : decode cX11_thing 67 = .ok (.iconst 1, 1) := by decide +kernel
theorem dX11_thing_68 : decode cX11_thing 68 = .ok (.isub, 1) := by decide +kernel
theorem dX11_thing_69 : decode cX11_thing 69 = .ok (.ireturn, 1) := by decide +kernel
theorem dX11_isToldRight_0 : decode cX11_isToldRight 0 = .ok (.iload_n 0, 1) := by decide +kernel
theorem dX11_isToldRight_1 : decode cX11_isToldRight 1 = .ok (.ifCond .lt 31, 3) := by decide +kernel
theorem dX11_isToldRight_4 : decode cX11_isToldRight 4 = .ok (.iload_n 0, 1) := by decide +kernel
theorem dX11_isToldRight_5 : decode cX11_isToldRight 5 = .ok (.sipush 8000, 3) := by decide +kernel
theorem dX11_isToldRight_8 : decode cX11_isToldRight 8 = .ok (.if_icmp .ge 24, 3) := by decide +kernel
theorem dX11_isToldRight_11 : decode cX11_isToldRight 11 = .ok (.iload_n 0, 1) := by decide +kernel
theorem dX11_isToldRight_12 : decode cX11_isToldRight 12 = .ok (.bipush 100, 2) := by decide +kernel
theorem dX11_isToldRight_14 : decode cX11_isToldRight 14 = .ok (.irem, 1) := by decide +kernel
theorem dX11_isToldRight_15 : decode cX11_isToldRight 15 = .ok (.iconst 1, 1) := by decide +kernel
theorem dX11_isToldRight_16 : decode cX11_isToldRight 16 = .ok (.if_icmp .lt 16, 3) := by decide +kernel
theorem dX11_isToldRight_19 : decode cX11_isToldRight 19 = .ok (.iload_n 0, 1) := by decide +kernel
theorem dX11_isToldRight_20 : decode cX11_isToldRight 20 = .ok (.bipush 100, 2) := by decide +kernel
theorem dX11_isToldRight_22 : decode cX11_isToldRight 22 = .ok (.irem, 1) := by decide +kernel
theorem dX11_isToldRight_23 : decode cX11_isToldRight 23 = .ok (.bipush 30, 2) := by decide +kernel
theorem dX11_isToldRight_25 : decode cX11_isToldRight 25 = .ok (.if_icmp .gt 7, 3) := by decide +kernel
theorem dX11_isToldRight_28 : decode cX11_isToldRight 28 = .ok (.iconst 1, 1) := by decide +kernel
theorem dX11_isToldRight_29 : decode cX11_isToldRight 29 = .ok (.goto 4, 3) := by decide +kernel
theorem dX11_isToldRight_32 : decode cX11_isToldRight 32 = .ok (.iconst 0, 1) := by decide +kernel
theorem dX11_isToldRight_33 : decode cX11_isToldRight 33 = .ok (.ireturn, 1) := by decide +kernel
theorem dX3_lawAt_0 : decode cX3_lawAt 0 = .ok (.iload_n 1, 1) := by decide +kernel
theorem dX3_lawAt_1 : decode cX3_lawAt 1 = .ok (.ifCond .lt 29, 3) := by decide +kernel
theorem dX3_lawAt_4 : decode cX3_lawAt 4 = .ok (.iload_n 1, 1) := by decide +kernel
theorem dX3_lawAt_5 : decode cX3_lawAt 5 = .ok (.aload_n 0, 1) := by decide +kernel
theorem dX3_lawAt_6 : decode cX3_lawAt 6 = .ok (.getfield 53, 3) := by decide +kernel
theorem dX3_lawAt_9 : decode cX3_lawAt 9 = .ok (.if_icmp .ge 21, 3) := by decide +kernel
theorem dX3_lawAt_12 : decode cX3_lawAt 12 = .ok (.iload_n 1, 1) := by decide +kernel
theorem dX3_lawAt_13 : decode cX3_lawAt 13 = .ok (.aload_n 0, 1) := by decide +kernel
theorem dX3_lawAt_14 : decode cX3_lawAt 14 = .ok (.getfield 26, 3) := by decide +kernel
theorem dX3_lawAt_17 : decode cX3_lawAt 17 = .ok (.arraylength, 1) := by decide +kernel
theorem dX3_lawAt_18 : decode cX3_lawAt 18 = .ok (.if_icmp .ge 12, 3) := by decide +kernel
theorem dX3_lawAt_21 : decode cX3_lawAt 21 = .ok (.aload_n 0, 1) := by decide +kernel
theorem dX3_lawAt_22 : decode cX3_lawAt 22 = .ok (.getfield 26, 3) := by decide +kernel
theorem dX3_lawAt_25 : decode cX3_lawAt 25 = .ok (.iload_n 1, 1) := by decide +kernel
theorem dX3_lawAt_26 : decode cX3_lawAt 26 = .ok (.aaload, 1) := by decide +kernel
theorem dX3_lawAt_27 : decode cX3_lawAt 27 = .ok (.goto 4, 3) := by decide +kernel
theorem dX3_lawAt_30 : decode cX3_lawAt 30 = .ok (.aconst_null, 1) := by decide +kernel
theorem dX3_lawAt_31 : decode cX3_lawAt 31 = .ok (.areturn, 1) := by decide +kernel
theorem dX10_init_0 : decode cX10_init 0 = .ok (.aload_n 0, 1) := by decide +kernel
theorem dX10_init_1 : decode cX10_init 1 = .ok (.invokespecial 1, 3) := by decide +kernel
theorem dX10_init_4 : decode cX10_init 4 = .ok (.aload_n 0, 1) := by decide +kernel
theorem dX10_init_5 : decode cX10_init 5 = .ok (.iload_n 1, 1) := by decide +kernel
theorem dX10_init_6 : decode cX10_init 6 = .ok (.putfield 7, 3) := by decide +kernel
theorem dX10_init_9 : decode cX10_init 9 = .ok (.aload_n 0, 1) := by decide +kernel
theorem dX10_init_10 : decode cX10_init 10 = .ok (.iload_n 2, 1) := by decide +kernel
theorem dX10_init_11 : decode cX10_init 11 = .ok (.sipush 1000, 3) := by decide +kernel
theorem dX10_init_14 : decode cX10_init 14 = .ok (.idiv, 1) := by decide +kernel
theorem dX10_init_15 : decode cX10_init 15 = .ok (.putfield 13, 3) := by decide +kernel
theorem dX10_init_18 : decode cX10_init 18 = .ok (.aload_n 0, 1) := by decide +kernel
theorem dX10_init_19 : decode cX10_init 19 = .ok (.iload_n 2, 1) := by decide +kernel
theorem dX10_init_20 : decode cX10_init 20 = .ok (.bipush 100, 2) := by decide +kernel
theorem dX10_init_22 : decode cX10_init 22 = .ok (.idiv, 1) := by decide +kernel
theorem dX10_init_23 : decode cX10_init 23 = .ok (.bipush 10, 2) := by decide +kernel
theorem dX10_init_25 : decode cX10_init 25 = .ok (.irem, 1) := by decide +kernel
theorem dX10_init_26 : decode cX10_init 26 = .ok (.putfield 16, 3) := by decide +kernel
theorem dX10_init_29 : decode cX10_init 29 = .ok (.aload_n 0, 1) := by decide +kernel
theorem dX10_init_30 : decode cX10_init 30 = .ok (.iload_n 2, 1) := by decide +kernel
theorem dX10_init_31 : decode cX10_init 31 = .ok (.bipush 100, 2) := by decide +kernel
theorem dX10_init_33 : decode cX10_init 33 = .ok (.irem, 1) := by decide +kernel
theorem dX10_init_34 : decode cX10_init 34 = .ok (.putfield 19, 3) := by decide +kernel
theorem dX10_init_37 : decode cX10_init 37 = .ok (.aload_n 0, 1) := by decide +kernel
theorem dX10_init_38 : decode cX10_init 38 = .ok (.iload_n 3, 1) := by decide +kernel
theorem dX10_init_39 : decode cX10_init 39 = .ok (.putfield 22, 3) := by decide +kernel
theorem dX10_init_42 : decode cX10_init 42 = .ok (.aload_n 0, 1) := by decide +kernel
theorem dX10_init_43 : decode cX10_init 43 = .ok (.iload 4, 2) := by decide +kernel
theorem dX10_init_45 : decode cX10_init 45 = .ok (.putfield 25, 3) := by decide +kernel
theorem dX10_init_48 : decode cX10_init 48 = .ok (.aload_n 0, 1) := by decide +kernel
theorem dX10_init_49 : decode cX10_init 49 = .ok (.iload 5, 2) := by decide +kernel
theorem dX10_init_51 : decode cX10_init 51 = .ok (.putfield 28, 3) := by decide +kernel
theorem dX10_init_54 : decode cX10_init 54 = .ok (.aload_n 0, 1) := by decide +kernel
theorem dX10_init_55 : decode cX10_init 55 = .ok (.aload 6, 2) := by decide +kernel
theorem dX10_init_57 : decode cX10_init 57 = .ok (.putfield 31, 3) := by decide +kernel
theorem dX10_init_60 : decode cX10_init 60 = .ok (.return_, 1) := by decide +kernel
theorem dX9_init_0 : decode cX9_init 0 = .ok (.aload_n 0, 1) := by decide +kernel
theorem dX9_init_1 : decode cX9_init 1 = .ok (.iload_n 1, 1) := by decide +kernel
theorem dX9_init_2 : decode cX9_init 2 = .ok (.iload_n 2, 1) := by decide +kernel
theorem dX9_init_3 : decode cX9_init 3 = .ok (.iload_n 3, 1) := by decide +kernel
theorem dX9_init_4 : decode cX9_init 4 = .ok (.iload 4, 2) := by decide +kernel
theorem dX9_init_6 : decode cX9_init 6 = .ok (.iload 5, 2) := by decide +kernel
theorem dX9_init_8 : decode cX9_init 8 = .ok (.aload 6, 2) := by decide +kernel
theorem dX9_init_10 : decode cX9_init 10 = .ok (.invokespecial 1, 3) := by decide +kernel
theorem dX9_init_13 : decode cX9_init 13 = .ok (.return_, 1) := by decide +kernel
theorem dX0_init_0 : decode cX0_init 0 = .ok (.aload_n 0, 1) := by decide +kernel
theorem dX0_init_1 : decode cX0_init 1 = .ok (.iload_n 1, 1) := by decide +kernel
theorem dX0_init_2 : decode cX0_init 2 = .ok (.iload_n 2, 1) := by decide +kernel
theorem dX0_init_3 : decode cX0_init 3 = .ok (.iload_n 3, 1) := by decide +kernel
theorem dX0_init_4 : decode cX0_init 4 = .ok (.iload 4, 2) := by decide +kernel
theorem dX0_init_6 : decode cX0_init 6 = .ok (.iload 5, 2) := by decide +kernel
theorem dX0_init_8 : decode cX0_init 8 = .ok (.aload 6, 2) := by decide +kernel
theorem dX0_init_10 : decode cX0_init 10 = .ok (.invokespecial 1, 3) := by decide +kernel
theorem dX0_init_13 : decode cX0_init 13 = .ok (.return_, 1) := by decide +kernel
theorem dX2_init_0 : decode cX2_init 0 = .ok (.aload_n 0, 1) := by decide +kernel
theorem dX2_init_1 : decode cX2_init 1 = .ok (.iload_n 1, 1) := by decide +kernel
theorem dX2_init_2 : decode cX2_init 2 = .ok (.iload_n 2, 1) := by decide +kernel
theorem dX2_init_3 : decode cX2_init 3 = .ok (.iload_n 3, 1) := by decide +kernel
theorem dX2_init_4 : decode cX2_init 4 = .ok (.iload 4, 2) := by decide +kernel
theorem dX2_init_6 : decode cX2_init 6 = .ok (.iload 5, 2) := by decide +kernel
theorem dX2_init_8 : decode cX2_init 8 = .ok (.aload 6, 2) := by decide +kernel
theorem dX2_init_10 : decode cX2_init 10 = .ok (.invokespecial 3, 3) := by decide +kernel
theorem dX2_init_13 : decode cX2_init 13 = .ok (.return_, 1) := by decide +kernel
theorem dX8_init_0 : decode cX8_init 0 = .ok (.aload_n 0, 1) := by decide +kernel
theorem dX8_init_1 : decode cX8_init 1 = .ok (.iload_n 1, 1) := by decide +kernel
theorem dX8_init_2 : decode cX8_init 2 = .ok (.iload_n 2, 1) := by decide +kernel
theorem dX8_init_3 : decode cX8_init 3 = .ok (.iload_n 3, 1) := by decide +kernel
theorem dX8_init_4 : decode cX8_init 4 = .ok (.iload 4, 2) := by decide +kernel
theorem dX8_init_6 : decode cX8_init 6 = .ok (.iload 5, 2) := by decide +kernel
theorem dX8_init_8 : decode cX8_init 8 = .ok (.aload 6, 2) := by decide +kernel
theorem dX8_init_10 : decode cX8_init 10 = .ok (.invokespecial 1, 3) := by decide +kernel
theorem dX8_init_13 : decode cX8_init 13 = .ok (.return_, 1) := by decide +kernel
