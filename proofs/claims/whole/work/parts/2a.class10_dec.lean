theorem dX11_leads_0 : decode cX11_leads 0 = .ok (.iload_n 1, 1) := by decide +kernel
theorem dX11_leads_1 : decode cX11_leads 1 = .ok (.invokestatic 209, 3) := by decide +kernel
theorem dX11_leads_4 : decode cX11_leads 4 = .ok (.ifCond .ne 5, 3) := by decide +kernel
theorem dX11_leads_7 : decode cX11_leads 7 = .ok (.iconst (-1), 1) := by decide +kernel
theorem dX11_leads_8 : decode cX11_leads 8 = .ok (.ireturn, 1) := by decide +kernel
theorem dX11_leads_9 : decode cX11_leads 9 = .ok (.aload_n 0, 1) := by decide +kernel
theorem dX11_leads_10 : decode cX11_leads 10 = .ok (.getfield 10, 3) := by decide +kernel
theorem dX11_leads_13 : decode cX11_leads 13 = .ok (.getfield 48, 3) := by decide +kernel
theorem dX11_leads_16 : decode cX11_leads 16 = .ok (.ifCond .ne 6, 3) := by decide +kernel
theorem dX11_leads_19 : decode cX11_leads 19 = .ok (.bipush (-3), 2) := by decide +kernel
theorem dX11_leads_21 : decode cX11_leads 21 = .ok (.ireturn, 1) := by decide +kernel
theorem dX11_leads_22 : decode cX11_leads 22 = .ok (.iconst 0, 1) := by decide +kernel
theorem dX11_leads_23 : decode cX11_leads 23 = .ok (.istore_n 2, 1) := by decide +kernel
theorem dX11_leads_24 : decode cX11_leads 24 = .ok (.iconst 0, 1) := by decide +kernel
theorem dX11_leads_25 : decode cX11_leads 25 = .ok (.istore_n 3, 1) := by decide +kernel
theorem dX11_leads_26 : decode cX11_leads 26 = .ok (.iload_n 3, 1) := by decide +kernel
theorem dX11_leads_27 : decode cX11_leads 27 = .ok (.aload_n 0, 1) := by decide +kernel
theorem dX11_leads_28 : decode cX11_leads 28 = .ok (.getfield 10, 3) := by decide +kernel
theorem dX11_leads_31 : decode cX11_leads 31 = .ok (.getfield 48, 3) := by decide +kernel
theorem dX11_leads_34 : decode cX11_leads 34 = .ok (.if_icmp .ge 25, 3) := by decide +kernel
theorem dX11_leads_37 : decode cX11_leads 37 = .ok (.aload_n 0, 1) := by decide +kernel
theorem dX11_leads_38 : decode cX11_leads 38 = .ok (.iconst 1, 1) := by decide +kernel
theorem dX11_leads_39 : decode cX11_leads 39 = .ok (.iload_n 3, 1) := by decide +kernel
theorem dX11_leads_40 : decode cX11_leads 40 = .ok (.invokevirtual 205, 3) := by decide +kernel
theorem dX11_leads_43 : decode cX11_leads 43 = .ok (.iload_n 1, 1) := by decide +kernel
theorem dX11_leads_44 : decode cX11_leads 44 = .ok (.if_icmp .ne 9, 3) := by decide +kernel
theorem dX11_leads_47 : decode cX11_leads 47 = .ok (.iload_n 2, 1) := by decide +kernel
theorem dX11_leads_48 : decode cX11_leads 48 = .ok (.iconst 1, 1) := by decide +kernel
theorem dX11_leads_49 : decode cX11_leads 49 = .ok (.iload_n 3, 1) := by decide +kernel
theorem dX11_leads_50 : decode cX11_leads 50 = .ok (.ishl, 1) := by decide +kernel
theorem dX11_leads_51 : decode cX11_leads 51 = .ok (.ior, 1) := by decide +kernel
theorem dX11_leads_52 : decode cX11_leads 52 = .ok (.istore_n 2, 1) := by decide +kernel
theorem dX11_leads_53 : decode cX11_leads 53 = .ok (.iinc 3 1, 3) := by decide +kernel
theorem dX11_leads_56 : decode cX11_leads 56 = .ok (.goto (-30), 3) := by decide +kernel
theorem dX11_leads_59 : decode cX11_leads 59 = .ok (.iload_n 2, 1) := by decide +kernel
theorem dX11_leads_60 : decode cX11_leads 60 = .ok (.ireturn, 1) := by decide +kernel
theorem dX11_hands_0 : decode cX11_hands 0 = .ok (.aload_n 0, 1) := by decide +kernel
theorem dX11_hands_1 : decode cX11_hands 1 = .ok (.getfield 10, 3) := by decide +kernel
theorem dX11_hands_4 : decode cX11_hands 4 = .ok (.getfield 48, 3) := by decide +kernel
theorem dX11_hands_7 : decode cX11_hands 7 = .ok (.ifCond .ne 6, 3) := by decide +kernel
theorem dX11_hands_10 : decode cX11_hands 10 = .ok (.bipush (-3), 2) := by decide +kernel
theorem dX11_hands_12 : decode cX11_hands 12 = .ok (.ireturn, 1) := by decide +kernel
theorem dX11_hands_13 : decode cX11_hands 13 = .ok (.bipush 10, 2) := by decide +kernel
theorem dX11_hands_15 : decode cX11_hands 15 = .ok (.aload_n 0, 1) := by decide +kernel
theorem dX11_hands_16 : decode cX11_hands 16 = .ok (.iconst 2, 1) := by decide +kernel
theorem dX11_hands_17 : decode cX11_hands 17 = .ok (.iconst 1, 1) := by decide +kernel
theorem dX11_hands_18 : decode cX11_hands 18 = .ok (.invokevirtual 205, 3) := by decide +kernel
theorem dX11_hands_21 : decode cX11_hands 21 = .ok (.imul, 1) := by decide +kernel
theorem dX11_hands_22 : decode cX11_hands 22 = .ok (.aload_n 0, 1) := by decide +kernel
theorem dX11_hands_23 : decode cX11_hands 23 = .ok (.iconst 2, 1) := by decide +kernel
theorem dX11_hands_24 : decode cX11_hands 24 = .ok (.iconst 0, 1) := by decide +kernel
theorem dX11_hands_25 : decode cX11_hands 25 = .ok (.invokevirtual 205, 3) := by decide +kernel
theorem dX11_hands_28 : decode cX11_hands 28 = .ok (.iadd, 1) := by decide +kernel
theorem dX11_hands_29 : decode cX11_hands 29 = .ok (.ireturn, 1) := by decide +kernel
theorem dX11_endWithout_0 : decode cX11_endWithout 0 = .ok (.aload_n 0, 1) := by decide +kernel
theorem dX11_endWithout_1 : decode cX11_endWithout 1 = .ok (.getfield 16, 3) := by decide +kernel
theorem dX11_endWithout_4 : decode cX11_endWithout 4 = .ok (.aload_n 0, 1) := by decide +kernel
theorem dX11_endWithout_5 : decode cX11_endWithout 5 = .ok (.getfield 10, 3) := by decide +kernel
theorem dX11_endWithout_8 : decode cX11_endWithout 8 = .ok (.iload_n 1, 1) := by decide +kernel
theorem dX11_endWithout_9 : decode cX11_endWithout 9 = .ok (.invokevirtual 195, 3) := by decide +kernel
theorem dX11_endWithout_12 : decode cX11_endWithout 12 = .ok (.aload_n 0, 1) := by decide +kernel
theorem dX11_endWithout_13 : decode cX11_endWithout 13 = .ok (.getfield 16, 3) := by decide +kernel
theorem dX11_endWithout_16 : decode cX11_endWithout 16 = .ok (.getfield 159, 3) := by decide +kernel
theorem dX11_endWithout_19 : decode cX11_endWithout 19 = .ok (.iconst 0, 1) := by decide +kernel
theorem dX11_endWithout_20 : decode cX11_endWithout 20 = .ok (.iconst 1, 1) := by decide +kernel
theorem dX11_endWithout_21 : decode cX11_endWithout 21 = .ok (.aload_n 0, 1) := by decide +kernel
theorem dX11_endWithout_22 : decode cX11_endWithout 22 = .ok (.getfield 10, 3) := by decide +kernel
theorem dX11_endWithout_25 : decode cX11_endWithout 25 = .ok (.invokevirtual 307, 3) := by decide +kernel
theorem dX11_endWithout_28 : decode cX11_endWithout 28 = .ok (.iload_n 2, 1) := by decide +kernel
theorem dX11_endWithout_29 : decode cX11_endWithout 29 = .ok (.isub, 1) := by decide +kernel
theorem dX11_endWithout_30 : decode cX11_endWithout 30 = .ok (.invokestatic 310, 3) := by decide +kernel
theorem dX11_endWithout_33 : decode cX11_endWithout 33 = .ok (.invokestatic 37, 3) := by decide +kernel
theorem dX11_endWithout_36 : decode cX11_endWithout 36 = .ok (.aload_n 0, 1) := by decide +kernel
theorem dX11_endWithout_37 : decode cX11_endWithout 37 = .ok (.getfield 16, 3) := by decide +kernel
theorem dX11_endWithout_40 : decode cX11_endWithout 40 = .ok (.invokevirtual 202, 3) := by decide +kernel
theorem dX11_endWithout_43 : decode cX11_endWithout 43 = .ok (.ireturn, 1) := by decide +kernel
theorem dX11_leftOut_0 : decode cX11_leftOut 0 = .ok (.iload_n 1, 1) := by decide +kernel
theorem dX11_leftOut_1 : decode cX11_leftOut 1 = .ok (.invokestatic 209, 3) := by decide +kernel
theorem dX11_leftOut_4 : decode cX11_leftOut 4 = .ok (.ifCond .ne 5, 3) := by decide +kernel
theorem dX11_leftOut_7 : decode cX11_leftOut 7 = .ok (.iconst (-1), 1) := by decide +kernel
theorem dX11_leftOut_8 : decode cX11_leftOut 8 = .ok (.ireturn, 1) := by decide +kernel
theorem dX11_leftOut_9 : decode cX11_leftOut 9 = .ok (.aload_n 0, 1) := by decide +kernel
theorem dX11_leftOut_10 : decode cX11_leftOut 10 = .ok (.getfield 10, 3) := by decide +kernel
theorem dX11_leftOut_13 : decode cX11_leftOut 13 = .ok (.getfield 48, 3) := by decide +kernel
theorem dX11_leftOut_16 : decode cX11_leftOut 16 = .ok (.ifCond .ne 6, 3) := by decide +kernel
theorem dX11_leftOut_19 : decode cX11_leftOut 19 = .ok (.bipush (-3), 2) := by decide +kernel
theorem dX11_leftOut_21 : decode cX11_leftOut 21 = .ok (.ireturn, 1) := by decide +kernel
theorem dX11_leftOut_22 : decode cX11_leftOut 22 = .ok (.iconst 0, 1) := by decide +kernel
theorem dX11_leftOut_23 : decode cX11_leftOut 23 = .ok (.istore_n 2, 1) := by decide +kernel
theorem dX11_leftOut_24 : decode cX11_leftOut 24 = .ok (.iload_n 2, 1) := by decide +kernel
theorem dX11_leftOut_25 : decode cX11_leftOut 25 = .ok (.iconst 3, 1) := by decide +kernel
theorem dX11_leftOut_26 : decode cX11_leftOut 26 = .ok (.if_icmp .gt 61, 3) := by decide +kernel
theorem dX11_leftOut_29 : decode cX11_leftOut 29 = .ok (.iload_n 2, 1) := by decide +kernel
theorem dX11_leftOut_30 : decode cX11_leftOut 30 = .ok (.aload_n 0, 1) := by decide +kernel
theorem dX11_leftOut_31 : decode cX11_leftOut 31 = .ok (.getfield 10, 3) := by decide +kernel
theorem dX11_leftOut_34 : decode cX11_leftOut 34 = .ok (.getfield 48, 3) := by decide +kernel
theorem dX11_leftOut_37 : decode cX11_leftOut 37 = .ok (.if_icmp .ge 50, 3) := by decide +kernel
theorem dX11_leftOut_40 : decode cX11_leftOut 40 = .ok (.iconst 0, 1) := by decide +kernel
theorem dX11_leftOut_41 : decode cX11_leftOut 41 = .ok (.istore_n 3, 1) := by decide +kernel
theorem dX11_leftOut_42 : decode cX11_leftOut 42 = .ok (.iload_n 3, 1) := by decide +kernel
theorem dX11_leftOut_43 : decode cX11_leftOut 43 = .ok (.iconst 1, 1) := by decide +kernel
theorem dX11_leftOut_44 : decode cX11_leftOut 44 = .ok (.aload_n 0, 1) := by decide +kernel
theorem dX11_leftOut_45 : decode cX11_leftOut 45 = .ok (.getfield 10, 3) := by decide +kernel
theorem dX11_leftOut_48 : decode cX11_leftOut 48 = .ok (.getfield 48, 3) := by decide +kernel
theorem dX11_leftOut_51 : decode cX11_leftOut 51 = .ok (.ishl, 1) := by decide +kernel
theorem dX11_leftOut_52 : decode cX11_leftOut 52 = .ok (.if_icmp .ge 29, 3) := by decide +kernel
theorem dX11_leftOut_55 : decode cX11_leftOut 55 = .ok (.iload_n 3, 1) := by decide +kernel
theorem dX11_leftOut_56 : decode cX11_leftOut 56 = .ok (.invokestatic 186, 3) := by decide +kernel
theorem dX11_leftOut_59 : decode cX11_leftOut 59 = .ok (.iload_n 2, 1) := by decide +kernel
theorem dX11_leftOut_60 : decode cX11_leftOut 60 = .ok (.if_icmp .ne 15, 3) := by decide +kernel
theorem dX11_leftOut_63 : decode cX11_leftOut 63 = .ok (.aload_n 0, 1) := by decide +kernel
theorem dX11_leftOut_64 : decode cX11_leftOut 64 = .ok (.iload_n 3, 1) := by decide +kernel
theorem dX11_leftOut_65 : decode cX11_leftOut 65 = .ok (.iload_n 2, 1) := by decide +kernel
theorem dX11_leftOut_66 : decode cX11_leftOut 66 = .ok (.invokevirtual 212, 3) := by decide +kernel
theorem dX11_leftOut_69 : decode cX11_leftOut 69 = .ok (.iload_n 1, 1) := by decide +kernel
theorem dX11_leftOut_70 : decode cX11_leftOut 70 = .ok (.if_icmp .ne 5, 3) := by decide +kernel
theorem dX11_leftOut_73 : decode cX11_leftOut 73 = .ok (.iload_n 3, 1) := by decide +kernel
theorem dX11_leftOut_74 : decode cX11_leftOut 74 = .ok (.ireturn, 1) := by decide +kernel
theorem dX11_leftOut_75 : decode cX11_leftOut 75 = .ok (.iinc 3 1, 3) := by decide +kernel
theorem dX11_leftOut_78 : decode cX11_leftOut 78 = .ok (.goto (-36), 3) := by decide +kernel
theorem dX11_leftOut_81 : decode cX11_leftOut 81 = .ok (.iinc 2 1, 3) := by decide +kernel
theorem dX11_leftOut_84 : decode cX11_leftOut 84 = .ok (.goto (-60), 3) := by decide +kernel
theorem dX11_leftOut_87 : decode cX11_leftOut 87 = .ok (.bipush (-4), 2) := by decide +kernel
theorem dX11_leftOut_89 : decode cX11_leftOut 89 = .ok (.ireturn, 1) := by decide +kernel
theorem dX3_deal_0 : decode cX3_deal 0 = .ok (.iload_n 1, 1) := by decide +kernel
theorem dX3_deal_1 : decode cX3_deal 1 = .ok (.istore_n 3, 1) := by decide +kernel
theorem dX3_deal_2 : decode cX3_deal 2 = .ok (.iconst 0, 1) := by decide +kernel
theorem dX3_deal_3 : decode cX3_deal 3 = .ok (.istore 4, 2) := by decide +kernel
theorem dX3_deal_5 : decode cX3_deal 5 = .ok (.iload 4, 2) := by decide +kernel
theorem dX3_deal_7 : decode cX3_deal 7 = .ok (.aload_n 0, 1) := by decide +kernel
theorem dX3_deal_8 : decode cX3_deal 8 = .ok (.getfield 45, 3) := by decide +kernel
theorem dX3_deal_11 : decode cX3_deal 11 = .ok (.if_icmp .ge 73, 3) := by decide +kernel
theorem dX3_deal_14 : decode cX3_deal 14 = .ok (.iconst 0, 1) := by decide +kernel
theorem dX3_deal_15 : decode cX3_deal 15 = .ok (.istore 5, 2) := by decide +kernel
theorem dX3_deal_17 : decode cX3_deal 17 = .ok (.iconst 0, 1) := by decide +kernel
theorem dX3_deal_18 : decode cX3_deal 18 = .ok (.istore 6, 2) := by decide +kernel
theorem dX3_deal_20 : decode cX3_deal 20 = .ok (.iload 6, 2) := by decide +kernel
theorem dX3_deal_22 : decode cX3_deal 22 = .ok (.aload_n 0, 1) := by decide +kernel
theorem dX3_deal_23 : decode cX3_deal 23 = .ok (.getfield 86, 3) := by decide +kernel
theorem dX3_deal_26 : decode cX3_deal 26 = .ok (.if_icmp .ge 41, 3) := by decide +kernel
theorem dX3_deal_29 : decode cX3_deal 29 = .ok (.iload_n 3, 1) := by decide +kernel
theorem dX3_deal_30 : decode cX3_deal 30 = .ok (.ldc 173, 2) := by decide +kernel
theorem dX3_deal_32 : decode cX3_deal 32 = .ok (.imul, 1) := by decide +kernel
theorem dX3_deal_33 : decode cX3_deal 33 = .ok (.sipush 12345, 3) := by decide +kernel
theorem dX3_deal_36 : decode cX3_deal 36 = .ok (.iadd, 1) := by decide +kernel
theorem dX3_deal_37 : decode cX3_deal 37 = .ok (.istore_n 3, 1) := by decide +kernel
theorem dX3_deal_38 : decode cX3_deal 38 = .ok (.iload_n 3, 1) := by decide +kernel
theorem dX3_deal_39 : decode cX3_deal 39 = .ok (.ldc 174, 2) := by decide +kernel
theorem dX3_deal_41 : decode cX3_deal 41 = .ok (.iand, 1) := by decide +kernel
theorem dX3_deal_42 : decode cX3_deal 42 = .ok (.ldc 175, 2) := by decide +kernel
theorem dX3_deal_44 : decode cX3_deal 44 = .ok (.idiv, 1) := by decide +kernel
theorem dX3_deal_45 : decode cX3_deal 45 = .ok (.bipush 100, 2) := by decide +kernel
theorem dX3_deal_47 : decode cX3_deal 47 = .ok (.irem, 1) := by decide +kernel
theorem dX3_deal_48 : decode cX3_deal 48 = .ok (.iload_n 2, 1) := by decide +kernel
theorem dX3_deal_49 : decode cX3_deal 49 = .ok (.if_icmp .ge 12, 3) := by decide +kernel
theorem dX3_deal_52 : decode cX3_deal 52 = .ok (.iload 5, 2) := by decide +kernel
theorem dX3_deal_54 : decode cX3_deal 54 = .ok (.iconst 1, 1) := by decide +kernel
theorem dX3_deal_55 : decode cX3_deal 55 = .ok (.iload 6, 2) := by decide +kernel
theorem dX3_deal_57 : decode cX3_deal 57 = .ok (.ishl, 1) := by decide +kernel
theorem dX3_deal_58 : decode cX3_deal 58 = .ok (.ior, 1) := by decide +kernel
theorem dX3_deal_59 : decode cX3_deal 59 = .ok (.istore 5, 2) := by decide +kernel
theorem dX3_deal_61 : decode cX3_deal 61 = .ok (.iinc 6 1, 3) := by decide +kernel
theorem dX3_deal_64 : decode cX3_deal 64 = .ok (.goto (-44), 3) := by decide +kernel
theorem dX3_deal_67 : decode cX3_deal 67 = .ok (.aload_n 0, 1) := by decide +kernel
theorem dX3_deal_68 : decode cX3_deal 68 = .ok (.getfield 21, 3) := by decide +kernel
theorem dX3_deal_71 : decode cX3_deal 71 = .ok (.iload 4, 2) := by decide +kernel
theorem dX3_deal_73 : decode cX3_deal 73 = .ok (.iload 5, 2) := by decide +kernel
theorem dX3_deal_75 : decode cX3_deal 75 = .ok (.invokestatic 56, 3) := by decide +kernel
theorem dX3_deal_78 : decode cX3_deal 78 = .ok (.iinc 4 1, 3) := by decide +kernel
theorem dX3_deal_81 : decode cX3_deal 81 = .ok (.goto (-76), 3) := by decide +kernel
theorem dX3_deal_84 : decode cX3_deal 84 = .ok (.iload_n 3, 1) := by decide +kernel
theorem dX3_deal_85 : decode cX3_deal 85 = .ok (.ireturn, 1) := by decide +kernel
theorem dX3_knewAtFirst_0 : decode cX3_knewAtFirst 0 = .ok (.aload_n 0, 1) := by decide +kernel
theorem dX3_knewAtFirst_1 : decode cX3_knewAtFirst 1 = .ok (.getfield 107, 3) := by decide +kernel
theorem dX3_knewAtFirst_4 : decode cX3_knewAtFirst 4 = .ok (.invokestatic 73, 3) := by decide +kernel
theorem dX3_knewAtFirst_7 : decode cX3_knewAtFirst 7 = .ok (.istore_n 1, 1) := by decide +kernel
theorem dX3_knewAtFirst_8 : decode cX3_knewAtFirst 8 = .ok (.aload_n 0, 1) := by decide +kernel
theorem dX3_knewAtFirst_9 : decode cX3_knewAtFirst 9 = .ok (.getfield 45, 3) := by decide +kernel
theorem dX3_knewAtFirst_12 : decode cX3_knewAtFirst 12 = .ok (.iload_n 1, 1) := by decide +kernel
theorem dX3_knewAtFirst_13 : decode cX3_knewAtFirst 13 = .ok (.isub, 1) := by decide +kernel
theorem dX3_knewAtFirst_14 : decode cX3_knewAtFirst 14 = .ok (.istore_n 2, 1) := by decide +kernel
theorem dX3_knewAtFirst_15 : decode cX3_knewAtFirst 15 = .ok (.iload_n 1, 1) := by decide +kernel
theorem dX3_knewAtFirst_16 : decode cX3_knewAtFirst 16 = .ok (.iload_n 2, 1) := by decide +kernel
theorem dX3_knewAtFirst_17 : decode cX3_knewAtFirst 17 = .ok (.if_icmp .le 11, 3) := by decide +kernel
theorem dX3_knewAtFirst_20 : decode cX3_knewAtFirst 20 = .ok (.aload_n 0, 1) := by decide +kernel
theorem dX3_knewAtFirst_21 : decode cX3_knewAtFirst 21 = .ok (.invokevirtual 164, 3) := by decide +kernel
theorem dX3_knewAtFirst_24 : decode cX3_knewAtFirst 24 = .ok (.iconst 1, 1) := by decide +kernel
theorem dX3_knewAtFirst_25 : decode cX3_knewAtFirst 25 = .ok (.if_icmp .eq 15, 3) := by decide +kernel
theorem dX3_knewAtFirst_28 : decode cX3_knewAtFirst 28 = .ok (.iload_n 2, 1) := by decide +kernel
theorem dX3_knewAtFirst_29 : decode cX3_knewAtFirst 29 = .ok (.iload_n 1, 1) := by decide +kernel
theorem dX3_knewAtFirst_30 : decode cX3_knewAtFirst 30 = .ok (.if_icmp .le 14, 3) := by decide +kernel
theorem dX3_knewAtFirst_33 : decode cX3_knewAtFirst 33 = .ok (.aload_n 0, 1) := by decide +kernel
theorem dX3_knewAtFirst_34 : decode cX3_knewAtFirst 34 = .ok (.invokevirtual 164, 3) := by decide +kernel
theorem dX3_knewAtFirst_37 : decode cX3_knewAtFirst 37 = .ok (.ifCond .ne 7, 3) := by decide +kernel
theorem dX3_knewAtFirst_40 : decode cX3_knewAtFirst 40 = .ok (.iconst 1, 1) := by decide +kernel
theorem dX3_knewAtFirst_41 : decode cX3_knewAtFirst 41 = .ok (.goto 4, 3) := by decide +kernel
theorem dX3_knewAtFirst_44 : decode cX3_knewAtFirst 44 = .ok (.iconst 0, 1) := by decide +kernel
theorem dX3_knewAtFirst_45 : decode cX3_knewAtFirst 45 = .ok (.ireturn, 1) := by decide +kernel
