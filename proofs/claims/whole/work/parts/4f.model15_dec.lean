theorem dX12_wrongKept_0 : decode cX12_wrongKept 0 = .ok (.iload_n 1, 1) := by decide +kernel
theorem dX12_wrongKept_1 : decode cX12_wrongKept 1 = .ok (.invokestatic 146, 3) := by decide +kernel
theorem dX12_wrongKept_4 : decode cX12_wrongKept 4 = .ok (.ifCond .ne 7, 3) := by decide +kernel
theorem dX12_wrongKept_7 : decode cX12_wrongKept 7 = .ok (.iconst (-1), 1) := by decide +kernel
theorem dX12_wrongKept_8 : decode cX12_wrongKept 8 = .ok (.goto 33, 3) := by decide +kernel
theorem dX12_wrongKept_11 : decode cX12_wrongKept 11 = .ok (.aload_n 0, 1) := by decide +kernel
theorem dX12_wrongKept_12 : decode cX12_wrongKept 12 = .ok (.getfield 31, 3) := by decide +kernel
theorem dX12_wrongKept_15 : decode cX12_wrongKept 15 = .ok (.iload_n 1, 1) := by decide +kernel
theorem dX12_wrongKept_16 : decode cX12_wrongKept 16 = .ok (.iaload, 1) := by decide +kernel
theorem dX12_wrongKept_17 : decode cX12_wrongKept 17 = .ok (.ifCond .ne 8, 3) := by decide +kernel
theorem dX12_wrongKept_20 : decode cX12_wrongKept 20 = .ok (.bipush (-11), 2) := by decide +kernel
theorem dX12_wrongKept_22 : decode cX12_wrongKept 22 = .ok (.goto 19, 3) := by decide +kernel
theorem dX12_wrongKept_25 : decode cX12_wrongKept 25 = .ok (.aload_n 0, 1) := by decide +kernel
theorem dX12_wrongKept_26 : decode cX12_wrongKept 26 = .ok (.getfield 31, 3) := by decide +kernel
theorem dX12_wrongKept_29 : decode cX12_wrongKept 29 = .ok (.iload_n 1, 1) := by decide +kernel
theorem dX12_wrongKept_30 : decode cX12_wrongKept 30 = .ok (.iaload, 1) := by decide +kernel
theorem dX12_wrongKept_31 : decode cX12_wrongKept 31 = .ok (.iconst 1, 1) := by decide +kernel
theorem dX12_wrongKept_32 : decode cX12_wrongKept 32 = .ok (.if_icmp .ne 7, 3) := by decide +kernel
theorem dX12_wrongKept_35 : decode cX12_wrongKept 35 = .ok (.iconst 0, 1) := by decide +kernel
theorem dX12_wrongKept_36 : decode cX12_wrongKept 36 = .ok (.goto 5, 3) := by decide +kernel
theorem dX12_wrongKept_39 : decode cX12_wrongKept 39 = .ok (.bipush (-12), 2) := by decide +kernel
theorem dX12_wrongKept_41 : decode cX12_wrongKept 41 = .ok (.ireturn, 1) := by decide +kernel
theorem dX12_voice_0 : decode cX12_voice 0 = .ok (.aload_n 0, 1) := by decide +kernel
theorem dX12_voice_1 : decode cX12_voice 1 = .ok (.iload_n 1, 1) := by decide +kernel
theorem dX12_voice_2 : decode cX12_voice 2 = .ok (.invokevirtual 301, 3) := by decide +kernel
theorem dX12_voice_5 : decode cX12_voice 5 = .ok (.istore_n 2, 1) := by decide +kernel
theorem dX12_voice_6 : decode cX12_voice 6 = .ok (.iload_n 2, 1) := by decide +kernel
theorem dX12_voice_7 : decode cX12_voice 7 = .ok (.ifCond .eq 7, 3) := by decide +kernel
theorem dX12_voice_10 : decode cX12_voice 10 = .ok (.iload_n 2, 1) := by decide +kernel
theorem dX12_voice_11 : decode cX12_voice 11 = .ok (.goto 9, 3) := by decide +kernel
theorem dX12_voice_14 : decode cX12_voice 14 = .ok (.aload_n 0, 1) := by decide +kernel
theorem dX12_voice_15 : decode cX12_voice 15 = .ok (.getfield 43, 3) := by decide +kernel
theorem dX12_voice_18 : decode cX12_voice 18 = .ok (.iload_n 1, 1) := by decide +kernel
theorem dX12_voice_19 : decode cX12_voice 19 = .ok (.iaload, 1) := by decide +kernel
theorem dX12_voice_20 : decode cX12_voice 20 = .ok (.ireturn, 1) := by decide +kernel
theorem dX12_toss_0 : decode cX12_toss 0 = .ok (.aload_n 0, 1) := by decide +kernel
theorem dX12_toss_1 : decode cX12_toss 1 = .ok (.iload_n 1, 1) := by decide +kernel
theorem dX12_toss_2 : decode cX12_toss 2 = .ok (.invokevirtual 301, 3) := by decide +kernel
theorem dX12_toss_5 : decode cX12_toss 5 = .ok (.istore_n 2, 1) := by decide +kernel
theorem dX12_toss_6 : decode cX12_toss 6 = .ok (.iload_n 2, 1) := by decide +kernel
theorem dX12_toss_7 : decode cX12_toss 7 = .ok (.ifCond .eq 7, 3) := by decide +kernel
theorem dX12_toss_10 : decode cX12_toss 10 = .ok (.iload_n 2, 1) := by decide +kernel
theorem dX12_toss_11 : decode cX12_toss 11 = .ok (.goto 9, 3) := by decide +kernel
theorem dX12_toss_14 : decode cX12_toss 14 = .ok (.aload_n 0, 1) := by decide +kernel
theorem dX12_toss_15 : decode cX12_toss 15 = .ok (.getfield 46, 3) := by decide +kernel
theorem dX12_toss_18 : decode cX12_toss 18 = .ok (.iload_n 1, 1) := by decide +kernel
theorem dX12_toss_19 : decode cX12_toss 19 = .ok (.iaload, 1) := by decide +kernel
theorem dX12_toss_20 : decode cX12_toss 20 = .ok (.ireturn, 1) := by decide +kernel
