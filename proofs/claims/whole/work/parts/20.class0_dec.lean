theorem dX11_store_0 : decode cX11_store 0 = .ok (.iload_n 1, 1) := by decide +kernel
theorem dX11_store_1 : decode cX11_store 1 = .ok (.ifCond .lt 13, 3) := by decide +kernel
theorem dX11_store_4 : decode cX11_store 4 = .ok (.iload_n 1, 1) := by decide +kernel
theorem dX11_store_5 : decode cX11_store 5 = .ok (.aload_n 0, 1) := by decide +kernel
theorem dX11_store_6 : decode cX11_store 6 = .ok (.arraylength, 1) := by decide +kernel
theorem dX11_store_7 : decode cX11_store 7 = .ok (.if_icmp .ge 7, 3) := by decide +kernel
theorem dX11_store_10 : decode cX11_store 10 = .ok (.aload_n 0, 1) := by decide +kernel
theorem dX11_store_11 : decode cX11_store 11 = .ok (.iload_n 1, 1) := by decide +kernel
theorem dX11_store_12 : decode cX11_store 12 = .ok (.iload_n 2, 1) := by decide +kernel
theorem dX11_store_13 : decode cX11_store 13 = .ok (.iastore, 1) := by decide +kernel
theorem dX11_store_14 : decode cX11_store 14 = .ok (.return_, 1) := by decide +kernel
theorem dX11_thing_0 : decode cX11_thing 0 = .ok (.iload_n 1, 1) := by decide +kernel
theorem dX11_thing_1 : decode cX11_thing 1 = .ok (.bipush (-20), 2) := by decide +kernel
theorem dX11_thing_3 : decode cX11_thing 3 = .ok (.if_icmp .lt 9, 3) := by decide +kernel
theorem dX11_thing_6 : decode cX11_thing 6 = .ok (.iload_n 1, 1) := by decide +kernel
theorem dX11_thing_7 : decode cX11_thing 7 = .ok (.bipush 20, 2) := by decide +kernel
theorem dX11_thing_9 : decode cX11_thing 9 = .ok (.if_icmp .le 5, 3) := by decide +kernel
theorem dX11_thing_12 : decode cX11_thing 12 = .ok (.iconst (-1), 1) := by decide +kernel
theorem dX11_thing_13 : decode cX11_thing 13 = .ok (.ireturn, 1) := by decide +kernel
theorem dX11_thing_14 : decode cX11_thing 14 = .ok (.aload_n 0, 1) := by decide +kernel
theorem dX11_thing_15 : decode cX11_thing 15 = .ok (.getfield 10, 3) := by decide +kernel
theorem dX11_thing_18 : decode cX11_thing 18 = .ok (.getfield 29, 3) := by decide +kernel
theorem dX11_thing_21 : decode cX11_thing 21 = .ok (.bipush 12, 2) := by decide +kernel
theorem dX11_thing_23 : decode cX11_thing 23 = .ok (.if_icmp .lt 6, 3) := by decide +kernel
theorem dX11_thing_26 : decode cX11_thing 26 = .ok (.bipush (-2), 2) := by decide +kernel
theorem dX11_thing_28 : decode cX11_thing 28 = .ok (.ireturn, 1) := by decide +kernel
theorem dX11_thing_29 : decode cX11_thing 29 = .ok (.aload_n 0, 1) := by decide +kernel
theorem dX11_thing_30 : decode cX11_thing 30 = .ok (.getfield 10, 3) := by decide +kernel
theorem dX11_thing_33 : decode cX11_thing 33 = .ok (.getfield 33, 3) := by decide +kernel
theorem dX11_thing_36 : decode cX11_thing 36 = .ok (.aload_n 0, 1) := by decide +kernel
theorem dX11_thing_37 : decode cX11_thing 37 = .ok (.getfield 10, 3) := by decide +kernel
theorem dX11_thing_40 : decode cX11_thing 40 = .ok (.getfield 29, 3) := by decide +kernel
theorem dX11_thing_43 : decode cX11_thing 43 = .ok (.iload_n 1, 1) := by decide +kernel
theorem dX11_thing_44 : decode cX11_thing 44 = .ok (.invokestatic 37, 3) := by decide +kernel
theorem dX11_thing_47 : decode cX11_thing 47 = .ok (.aload_n 0, 1) := by decide +kernel
theorem dX11_thing_48 : decode cX11_thing 48 = .ok (.getfield 10, 3) := by decide +kernel
theorem dX11_thing_51 : decode cX11_thing 51 = .ok (.dup, 1) := by decide +kernel
theorem dX11_thing_52 : decode cX11_thing 52 = .ok (.getfield 29, 3) := by decide +kernel
theorem dX11_thing_55 : decode cX11_thing 55 = .ok (.iconst 1, 1) := by decide +kernel
theorem dX11_thing_56 : decode cX11_thing 56 = .ok (.iadd, 1) := by decide +kernel
theorem dX11_thing_57 : decode cX11_thing 57 = .ok (.putfield 29, 3) := by decide +kernel
theorem dX11_thing_60 : decode cX11_thing 60 = .ok (.aload_n 0, 1) := by decide +kernel
theorem dX11_thing_61 : decode cX11_thing 61 = .ok (.getfield 10, 3) := by decide +kernel
theorem dX11_thing_64 : decode cX11_thing 64 = .ok (.getfield 29, 3) := by decide +kernel
theorem dX11_thing_67 : decode cX11_thing 67 = .ok (.iconst 1, 1) := by decide +kernel
theorem dX11_thing_68 : decode cX11_thing 68 = .ok (.isub, 1) := by decide +kernel
theorem dX11_thing_69 : decode cX11_thing 69 = .ok (.ireturn, 1) := by decide +kernel
theorem dX11_isToldRight_0 : decode cX11_isToldRight 0 = .ok (.iload_n 0, 1) := by decide +kernel
theorem dX11_isToldRight_1 : decode cX11_isToldRight 1 = .ok (.ifCond .lt 31, 3) := by decide +kernel
theorem dX11_isToldRight_4 : decode cX11_isToldRight 4 = .ok (.iload_n 0, 1) := by decide +kernel
theorem dX11_isToldRight_5 : decode cX11_isToldRight 5 = .ok (.sipush 8000, 3) := by decide +kernel
theorem dX11_isToldRight_8 : decode cX11_isToldRight 8 = .ok (.if_icmp .ge 24, 3) := by decide +kernel
theorem dX11_isToldRight_11 : decode cX11_isToldRight 11 = .ok (.iload_n 0, 1) := by decide +kernel
theorem dX11_isToldRight_12 : decode cX11_isToldRight 12 = .ok (.bipush 100, 2) := by decide +kernel
theorem dX11_isToldRight_14 : decode cX11_isToldRight 14 = .ok (.irem, 1) := by decide +kernel
theorem dX11_isToldRight_15 : decode cX11_isToldRight 15 = .ok (.iconst 1, 1) := by decide +kernel
theorem dX11_isToldRight_16 : decode cX11_isToldRight 16 = .ok (.if_icmp .lt 16, 3) := by decide +kernel
theorem dX11_isToldRight_19 : decode cX11_isToldRight 19 = .ok (.iload_n 0, 1) := by decide +kernel
theorem dX11_isToldRight_20 : decode cX11_isToldRight 20 = .ok (.bipush 100, 2) := by decide +kernel
theorem dX11_isToldRight_22 : decode cX11_isToldRight 22 = .ok (.irem, 1) := by decide +kernel
theorem dX11_isToldRight_23 : decode cX11_isToldRight 23 = .ok (.bipush 30, 2) := by decide +kernel
theorem dX11_isToldRight_25 : decode cX11_isToldRight 25 = .ok (.if_icmp .gt 7, 3) := by decide +kernel
theorem dX11_isToldRight_28 : decode cX11_isToldRight 28 = .ok (.iconst 1, 1) := by decide +kernel
theorem dX11_isToldRight_29 : decode cX11_isToldRight 29 = .ok (.goto 4, 3) := by decide +kernel
theorem dX11_isToldRight_32 : decode cX11_isToldRight 32 = .ok (.iconst 0, 1) := by decide +kernel
theorem dX11_isToldRight_33 : decode cX11_isToldRight 33 = .ok (.ireturn, 1) := by decide +kernel
theorem dX3_lawAt_0 : decode cX3_lawAt 0 = .ok (.iload_n 1, 1) := by decide +kernel
theorem dX3_lawAt_1 : decode cX3_lawAt 1 = .ok (.ifCond .lt 29, 3) := by decide +kernel
theorem dX3_lawAt_4 : decode cX3_lawAt 4 = .ok (.iload_n 1, 1) := by decide +kernel
theorem dX3_lawAt_5 : decode cX3_lawAt 5 = .ok (.aload_n 0, 1) := by decide +kernel
theorem dX3_lawAt_6 : decode cX3_lawAt 6 = .ok (.getfield 53, 3) := by decide +kernel
theorem dX3_lawAt_9 : decode cX3_lawAt 9 = .ok (.if_icmp .ge 21, 3) := by decide +kernel
theorem dX3_lawAt_12 : decode cX3_lawAt 12 = .ok (.iload_n 1, 1) := by decide +kernel
theorem dX3_lawAt_13 : decode cX3_lawAt 13 = .ok (.aload_n 0, 1) := by decide +kernel
theorem dX3_lawAt_14 : decode cX3_lawAt 14 = .ok (.getfield 26, 3) := by decide +kernel
theorem dX3_lawAt_17 : decode cX3_lawAt 17 = .ok (.arraylength, 1) := by decide +kernel
theorem dX3_lawAt_18 : decode cX3_lawAt 18 = .ok (.if_icmp .ge 12, 3) := by decide +kernel
theorem dX3_lawAt_21 : decode cX3_lawAt 21 = .ok (.aload_n 0, 1) := by decide +kernel
theorem dX3_lawAt_22 : decode cX3_lawAt 22 = .ok (.getfield 26, 3) := by decide +kernel
theorem dX3_lawAt_25 : decode cX3_lawAt 25 = .ok (.iload_n 1, 1) := by decide +kernel
theorem dX3_lawAt_26 : decode cX3_lawAt 26 = .ok (.aaload, 1) := by decide +kernel
theorem dX3_lawAt_27 : decode cX3_lawAt 27 = .ok (.goto 4, 3) := by decide +kernel
theorem dX3_lawAt_30 : decode cX3_lawAt 30 = .ok (.aconst_null, 1) := by decide +kernel
theorem dX3_lawAt_31 : decode cX3_lawAt 31 = .ok (.areturn, 1) := by decide +kernel
theorem dX3_sit_0 : decode cX3_sit 0 = .ok (.aload_n 0, 1) := by decide +kernel
theorem dX3_sit_1 : decode cX3_sit 1 = .ok (.getfield 45, 3) := by decide +kernel
theorem dX3_sit_4 : decode cX3_sit 4 = .ok (.aload_n 0, 1) := by decide +kernel
theorem dX3_sit_5 : decode cX3_sit 5 = .ok (.getfield 17, 3) := by decide +kernel
theorem dX3_sit_8 : decode cX3_sit 8 = .ok (.arraylength, 1) := by decide +kernel
theorem dX3_sit_9 : decode cX3_sit 9 = .ok (.if_icmp .ge 35, 3) := by decide +kernel
theorem dX3_sit_12 : decode cX3_sit 12 = .ok (.aload_n 0, 1) := by decide +kernel
theorem dX3_sit_13 : decode cX3_sit 13 = .ok (.getfield 17, 3) := by decide +kernel
theorem dX3_sit_16 : decode cX3_sit 16 = .ok (.aload_n 0, 1) := by decide +kernel
theorem dX3_sit_17 : decode cX3_sit 17 = .ok (.getfield 45, 3) := by decide +kernel
theorem dX3_sit_20 : decode cX3_sit 20 = .ok (.aload_n 1, 1) := by decide +kernel
theorem dX3_sit_21 : decode cX3_sit 21 = .ok (.aastore, 1) := by decide +kernel
theorem dX3_sit_22 : decode cX3_sit 22 = .ok (.aload_n 0, 1) := by decide +kernel
theorem dX3_sit_23 : decode cX3_sit 23 = .ok (.getfield 21, 3) := by decide +kernel
theorem dX3_sit_26 : decode cX3_sit 26 = .ok (.aload_n 0, 1) := by decide +kernel
theorem dX3_sit_27 : decode cX3_sit 27 = .ok (.getfield 45, 3) := by decide +kernel
theorem dX3_sit_30 : decode cX3_sit 30 = .ok (.iload_n 2, 1) := by decide +kernel
theorem dX3_sit_31 : decode cX3_sit 31 = .ok (.invokestatic 56, 3) := by decide +kernel
theorem dX3_sit_34 : decode cX3_sit 34 = .ok (.aload_n 0, 1) := by decide +kernel
theorem dX3_sit_35 : decode cX3_sit 35 = .ok (.dup, 1) := by decide +kernel
theorem dX3_sit_36 : decode cX3_sit 36 = .ok (.getfield 45, 3) := by decide +kernel
theorem dX3_sit_39 : decode cX3_sit 39 = .ok (.iconst 1, 1) := by decide +kernel
theorem dX3_sit_40 : decode cX3_sit 40 = .ok (.iadd, 1) := by decide +kernel
theorem dX3_sit_41 : decode cX3_sit 41 = .ok (.putfield 45, 3) := by decide +kernel
theorem dX3_sit_44 : decode cX3_sit 44 = .ok (.return_, 1) := by decide +kernel
theorem dX11_at_0 : decode cX11_at 0 = .ok (.iload_n 1, 1) := by decide +kernel
theorem dX11_at_1 : decode cX11_at 1 = .ok (.ifCond .lt 15, 3) := by decide +kernel
theorem dX11_at_4 : decode cX11_at 4 = .ok (.iload_n 1, 1) := by decide +kernel
theorem dX11_at_5 : decode cX11_at 5 = .ok (.aload_n 0, 1) := by decide +kernel
theorem dX11_at_6 : decode cX11_at 6 = .ok (.arraylength, 1) := by decide +kernel
theorem dX11_at_7 : decode cX11_at 7 = .ok (.if_icmp .ge 9, 3) := by decide +kernel
theorem dX11_at_10 : decode cX11_at 10 = .ok (.aload_n 0, 1) := by decide +kernel
theorem dX11_at_11 : decode cX11_at 11 = .ok (.iload_n 1, 1) := by decide +kernel
theorem dX11_at_12 : decode cX11_at 12 = .ok (.iaload, 1) := by decide +kernel
theorem dX11_at_13 : decode cX11_at 13 = .ok (.goto 4, 3) := by decide +kernel
theorem dX11_at_16 : decode cX11_at 16 = .ok (.iconst 0, 1) := by decide +kernel
theorem dX11_at_17 : decode cX11_at 17 = .ok (.ireturn, 1) := by decide +kernel
theorem dX3_toldToAll_0 : decode cX3_toldToAll 0 = .ok (.iconst 1, 1) := by decide +kernel
theorem dX3_toldToAll_1 : decode cX3_toldToAll 1 = .ok (.aload_n 0, 1) := by decide +kernel
theorem dX3_toldToAll_2 : decode cX3_toldToAll 2 = .ok (.getfield 86, 3) := by decide +kernel
theorem dX3_toldToAll_5 : decode cX3_toldToAll 5 = .ok (.ishl, 1) := by decide +kernel
theorem dX3_toldToAll_6 : decode cX3_toldToAll 6 = .ok (.iconst 1, 1) := by decide +kernel
theorem dX3_toldToAll_7 : decode cX3_toldToAll 7 = .ok (.isub, 1) := by decide +kernel
theorem dX3_toldToAll_8 : decode cX3_toldToAll 8 = .ok (.istore_n 1, 1) := by decide +kernel
theorem dX3_toldToAll_9 : decode cX3_toldToAll 9 = .ok (.iconst 0, 1) := by decide +kernel
theorem dX3_toldToAll_10 : decode cX3_toldToAll 10 = .ok (.istore_n 2, 1) := by decide +kernel
theorem dX3_toldToAll_11 : decode cX3_toldToAll 11 = .ok (.iload_n 2, 1) := by decide +kernel
theorem dX3_toldToAll_12 : decode cX3_toldToAll 12 = .ok (.aload_n 0, 1) := by decide +kernel
theorem dX3_toldToAll_13 : decode cX3_toldToAll 13 = .ok (.getfield 45, 3) := by decide +kernel
theorem dX3_toldToAll_16 : decode cX3_toldToAll 16 = .ok (.if_icmp .ge 20, 3) := by decide +kernel
theorem dX3_toldToAll_19 : decode cX3_toldToAll 19 = .ok (.iload_n 1, 1) := by decide +kernel
theorem dX3_toldToAll_20 : decode cX3_toldToAll 20 = .ok (.aload_n 0, 1) := by decide +kernel
theorem dX3_toldToAll_21 : decode cX3_toldToAll 21 = .ok (.getfield 21, 3) := by decide +kernel
theorem dX3_toldToAll_24 : decode cX3_toldToAll 24 = .ok (.iload_n 2, 1) := by decide +kernel
theorem dX3_toldToAll_25 : decode cX3_toldToAll 25 = .ok (.invokestatic 60, 3) := by decide +kernel
theorem dX3_toldToAll_28 : decode cX3_toldToAll 28 = .ok (.iand, 1) := by decide +kernel
theorem dX3_toldToAll_29 : decode cX3_toldToAll 29 = .ok (.istore_n 1, 1) := by decide +kernel
theorem dX3_toldToAll_30 : decode cX3_toldToAll 30 = .ok (.iinc 2 1, 3) := by decide +kernel
theorem dX3_toldToAll_33 : decode cX3_toldToAll 33 = .ok (.goto (-22), 3) := by decide +kernel
theorem dX3_toldToAll_36 : decode cX3_toldToAll 36 = .ok (.iload_n 1, 1) := by decide +kernel
theorem dX3_toldToAll_37 : decode cX3_toldToAll 37 = .ok (.ireturn, 1) := by decide +kernel
theorem dX3_weigh_0 : decode cX3_weigh 0 = .ok (.iconst 0, 1) := by decide +kernel
theorem dX3_weigh_1 : decode cX3_weigh 1 = .ok (.istore_n 2, 1) := by decide +kernel
theorem dX3_weigh_2 : decode cX3_weigh 2 = .ok (.iconst 0, 1) := by decide +kernel
theorem dX3_weigh_3 : decode cX3_weigh 3 = .ok (.istore_n 3, 1) := by decide +kernel
theorem dX3_weigh_4 : decode cX3_weigh 4 = .ok (.iload_n 3, 1) := by decide +kernel
theorem dX3_weigh_5 : decode cX3_weigh 5 = .ok (.aload_n 0, 1) := by decide +kernel
theorem dX3_weigh_6 : decode cX3_weigh 6 = .ok (.getfield 86, 3) := by decide +kernel
theorem dX3_weigh_9 : decode cX3_weigh 9 = .ok (.if_icmp .ge 29, 3) := by decide +kernel
theorem dX3_weigh_12 : decode cX3_weigh 12 = .ok (.iload_n 1, 1) := by decide +kernel
theorem dX3_weigh_13 : decode cX3_weigh 13 = .ok (.iload_n 3, 1) := by decide +kernel
theorem dX3_weigh_14 : decode cX3_weigh 14 = .ok (.ishr, 1) := by decide +kernel
theorem dX3_weigh_15 : decode cX3_weigh 15 = .ok (.iconst 1, 1) := by decide +kernel
theorem dX3_weigh_16 : decode cX3_weigh 16 = .ok (.iand, 1) := by decide +kernel
theorem dX3_weigh_17 : decode cX3_weigh 17 = .ok (.iconst 1, 1) := by decide +kernel
theorem dX3_weigh_18 : decode cX3_weigh 18 = .ok (.if_icmp .ne 14, 3) := by decide +kernel
theorem dX3_weigh_21 : decode cX3_weigh 21 = .ok (.iload_n 2, 1) := by decide +kernel
theorem dX3_weigh_22 : decode cX3_weigh 22 = .ok (.aload_n 0, 1) := by decide +kernel
theorem dX3_weigh_23 : decode cX3_weigh 23 = .ok (.getfield 9, 3) := by decide +kernel
theorem dX3_weigh_26 : decode cX3_weigh 26 = .ok (.iload_n 3, 1) := by decide +kernel
theorem dX3_weigh_27 : decode cX3_weigh 27 = .ok (.invokestatic 60, 3) := by decide +kernel
theorem dX3_weigh_30 : decode cX3_weigh 30 = .ok (.iadd, 1) := by decide +kernel
theorem dX3_weigh_31 : decode cX3_weigh 31 = .ok (.istore_n 2, 1) := by decide +kernel
theorem dX3_weigh_32 : decode cX3_weigh 32 = .ok (.iinc 3 1, 3) := by decide +kernel
theorem dX3_weigh_35 : decode cX3_weigh 35 = .ok (.goto (-31), 3) := by decide +kernel
theorem dX3_weigh_38 : decode cX3_weigh 38 = .ok (.iload_n 2, 1) := by decide +kernel
theorem dX3_weigh_39 : decode cX3_weigh 39 = .ok (.ireturn, 1) := by decide +kernel
theorem dX3_standAsTold_0 : decode cX3_standAsTold 0 = .ok (.aload_n 0, 1) := by decide +kernel
theorem dX3_standAsTold_1 : decode cX3_standAsTold 1 = .ok (.iconst 0, 1) := by decide +kernel
theorem dX3_standAsTold_2 : decode cX3_standAsTold 2 = .ok (.putfield 97, 3) := by decide +kernel
theorem dX3_standAsTold_5 : decode cX3_standAsTold 5 = .ok (.aload_n 0, 1) := by decide +kernel
theorem dX3_standAsTold_6 : decode cX3_standAsTold 6 = .ok (.iconst 0, 1) := by decide +kernel
theorem dX3_standAsTold_7 : decode cX3_standAsTold 7 = .ok (.putfield 104, 3) := by decide +kernel
theorem dX3_standAsTold_10 : decode cX3_standAsTold 10 = .ok (.aload_n 0, 1) := by decide +kernel
theorem dX3_standAsTold_11 : decode cX3_standAsTold 11 = .ok (.iconst 0, 1) := by decide +kernel
theorem dX3_standAsTold_12 : decode cX3_standAsTold 12 = .ok (.putfield 70, 3) := by decide +kernel
theorem dX3_standAsTold_15 : decode cX3_standAsTold 15 = .ok (.aload_n 0, 1) := by decide +kernel
theorem dX3_standAsTold_16 : decode cX3_standAsTold 16 = .ok (.iconst 0, 1) := by decide +kernel
theorem dX3_standAsTold_17 : decode cX3_standAsTold 17 = .ok (.putfield 107, 3) := by decide +kernel
theorem dX3_standAsTold_20 : decode cX3_standAsTold 20 = .ok (.aload_n 0, 1) := by decide +kernel
theorem dX3_standAsTold_21 : decode cX3_standAsTold 21 = .ok (.aload_n 0, 1) := by decide +kernel
theorem dX3_standAsTold_22 : decode cX3_standAsTold 22 = .ok (.invokevirtual 110, 3) := by decide +kernel
theorem dX3_standAsTold_25 : decode cX3_standAsTold 25 = .ok (.putfield 83, 3) := by decide +kernel
theorem dX3_standAsTold_28 : decode cX3_standAsTold 28 = .ok (.iconst 0, 1) := by decide +kernel
theorem dX3_standAsTold_29 : decode cX3_standAsTold 29 = .ok (.istore_n 1, 1) := by decide +kernel
theorem dX3_standAsTold_30 : decode cX3_standAsTold 30 = .ok (.iload_n 1, 1) := by decide +kernel
theorem dX3_standAsTold_31 : decode cX3_standAsTold 31 = .ok (.aload_n 0, 1) := by decide +kernel
theorem dX3_standAsTold_32 : decode cX3_standAsTold 32 = .ok (.getfield 45, 3) := by decide +kernel
theorem dX3_standAsTold_35 : decode cX3_standAsTold 35 = .ok (.if_icmp .ge 63, 3) := by decide +kernel
theorem dX3_standAsTold_38 : decode cX3_standAsTold 38 = .ok (.aload_n 0, 1) := by decide +kernel
theorem dX3_standAsTold_39 : decode cX3_standAsTold 39 = .ok (.getfield 33, 3) := by decide +kernel
theorem dX3_standAsTold_42 : decode cX3_standAsTold 42 = .ok (.iload_n 1, 1) := by decide +kernel
theorem dX3_standAsTold_43 : decode cX3_standAsTold 43 = .ok (.aload_n 0, 1) := by decide +kernel
theorem dX3_standAsTold_44 : decode cX3_standAsTold 44 = .ok (.getfield 21, 3) := by decide +kernel
theorem dX3_standAsTold_47 : decode cX3_standAsTold 47 = .ok (.iload_n 1, 1) := by decide +kernel
theorem dX3_standAsTold_48 : decode cX3_standAsTold 48 = .ok (.invokestatic 60, 3) := by decide +kernel
theorem dX3_standAsTold_51 : decode cX3_standAsTold 51 = .ok (.invokestatic 56, 3) := by decide +kernel
theorem dX3_standAsTold_54 : decode cX3_standAsTold 54 = .ok (.aload_n 0, 1) := by decide +kernel
theorem dX3_standAsTold_55 : decode cX3_standAsTold 55 = .ok (.getfield 36, 3) := by decide +kernel
theorem dX3_standAsTold_58 : decode cX3_standAsTold 58 = .ok (.iload_n 1, 1) := by decide +kernel
theorem dX3_standAsTold_59 : decode cX3_standAsTold 59 = .ok (.aload_n 0, 1) := by decide +kernel
theorem dX3_standAsTold_60 : decode cX3_standAsTold 60 = .ok (.aload_n 0, 1) := by decide +kernel
theorem dX3_standAsTold_61 : decode cX3_standAsTold 61 = .ok (.getfield 21, 3) := by decide +kernel
theorem dX3_standAsTold_64 : decode cX3_standAsTold 64 = .ok (.iload_n 1, 1) := by decide +kernel
theorem dX3_standAsTold_65 : decode cX3_standAsTold 65 = .ok (.invokestatic 60, 3) := by decide +kernel
theorem dX3_standAsTold_68 : decode cX3_standAsTold 68 = .ok (.invokevirtual 113, 3) := by decide +kernel
theorem dX3_standAsTold_71 : decode cX3_standAsTold 71 = .ok (.invokestatic 56, 3) := by decide +kernel
theorem dX3_standAsTold_74 : decode cX3_standAsTold 74 = .ok (.aload_n 0, 1) := by decide +kernel
theorem dX3_standAsTold_75 : decode cX3_standAsTold 75 = .ok (.getfield 39, 3) := by decide +kernel
theorem dX3_standAsTold_78 : decode cX3_standAsTold 78 = .ok (.iload_n 1, 1) := by decide +kernel
theorem dX3_standAsTold_79 : decode cX3_standAsTold 79 = .ok (.iconst 0, 1) := by decide +kernel
theorem dX3_standAsTold_80 : decode cX3_standAsTold 80 = .ok (.invokestatic 56, 3) := by decide +kernel
theorem dX3_standAsTold_83 : decode cX3_standAsTold 83 = .ok (.aload_n 0, 1) := by decide +kernel
theorem dX3_standAsTold_84 : decode cX3_standAsTold 84 = .ok (.getfield 42, 3) := by decide +kernel
theorem dX3_standAsTold_87 : decode cX3_standAsTold 87 = .ok (.iload_n 1, 1) := by decide +kernel
theorem dX3_standAsTold_88 : decode cX3_standAsTold 88 = .ok (.iconst (-1), 1) := by decide +kernel
theorem dX3_standAsTold_89 : decode cX3_standAsTold 89 = .ok (.invokestatic 56, 3) := by decide +kernel
theorem dX3_standAsTold_92 : decode cX3_standAsTold 92 = .ok (.iinc 1 1, 3) := by decide +kernel
theorem dX3_standAsTold_95 : decode cX3_standAsTold 95 = .ok (.goto (-65), 3) := by decide +kernel
theorem dX3_standAsTold_98 : decode cX3_standAsTold 98 = .ok (.return_, 1) := by decide +kernel
theorem dX3_isSeat_0 : decode cX3_isSeat 0 = .ok (.iload_n 1, 1) := by decide +kernel
theorem dX3_isSeat_1 : decode cX3_isSeat 1 = .ok (.ifCond .lt 15, 3) := by decide +kernel
theorem dX3_isSeat_4 : decode cX3_isSeat 4 = .ok (.iload_n 1, 1) := by decide +kernel
theorem dX3_isSeat_5 : decode cX3_isSeat 5 = .ok (.aload_n 0, 1) := by decide +kernel
theorem dX3_isSeat_6 : decode cX3_isSeat 6 = .ok (.getfield 45, 3) := by decide +kernel
theorem dX3_isSeat_9 : decode cX3_isSeat 9 = .ok (.if_icmp .ge 7, 3) := by decide +kernel
theorem dX3_isSeat_12 : decode cX3_isSeat 12 = .ok (.iconst 1, 1) := by decide +kernel
theorem dX3_isSeat_13 : decode cX3_isSeat 13 = .ok (.goto 4, 3) := by decide +kernel
theorem dX3_isSeat_16 : decode cX3_isSeat 16 = .ok (.iconst 0, 1) := by decide +kernel
theorem dX3_isSeat_17 : decode cX3_isSeat 17 = .ok (.ireturn, 1) := by decide +kernel
