theorem dX11_voice_0 : decode cX11_voice 0 = .ok (.aload_n 0, 1) := by decide +kernel
theorem dX11_voice_1 : decode cX11_voice 1 = .ok (.iload_n 1, 1) := by decide +kernel
theorem dX11_voice_2 : decode cX11_voice 2 = .ok (.invokevirtual 124, 3) := by decide +kernel
theorem dX11_voice_5 : decode cX11_voice 5 = .ok (.astore_n 2, 1) := by decide +kernel
theorem dX11_voice_6 : decode cX11_voice 6 = .ok (.aload_n 2, 1) := by decide +kernel
theorem dX11_voice_7 : decode cX11_voice 7 = .ok (.ifnonnull 5, 3) := by decide +kernel
theorem dX11_voice_10 : decode cX11_voice 10 = .ok (.iconst (-1), 1) := by decide +kernel
theorem dX11_voice_11 : decode cX11_voice 11 = .ok (.ireturn, 1) := by decide +kernel
theorem dX11_voice_12 : decode cX11_voice 12 = .ok (.aload_n 2, 1) := by decide +kernel
theorem dX11_voice_13 : decode cX11_voice 13 = .ok (.invokevirtual 128, 3) := by decide +kernel
theorem dX11_voice_16 : decode cX11_voice 16 = .ok (.ifCond .eq 6, 3) := by decide +kernel
theorem dX11_voice_19 : decode cX11_voice 19 = .ok (.bipush (-11), 2) := by decide +kernel
theorem dX11_voice_21 : decode cX11_voice 21 = .ok (.ireturn, 1) := by decide +kernel
theorem dX11_voice_22 : decode cX11_voice 22 = .ok (.aload_n 2, 1) := by decide +kernel
theorem dX11_voice_23 : decode cX11_voice 23 = .ok (.getfield 263, 3) := by decide +kernel
theorem dX11_voice_26 : decode cX11_voice 26 = .ok (.astore_n 3, 1) := by decide +kernel
theorem dX11_voice_27 : decode cX11_voice 27 = .ok (.aload_n 3, 1) := by decide +kernel
theorem dX11_voice_28 : decode cX11_voice 28 = .ok (.ifnonnull 8, 3) := by decide +kernel
theorem dX11_voice_31 : decode cX11_voice 31 = .ok (.bipush (-12), 2) := by decide +kernel
theorem dX11_voice_33 : decode cX11_voice 33 = .ok (.goto 11, 3) := by decide +kernel
theorem dX11_voice_36 : decode cX11_voice 36 = .ok (.aload_n 3, 1) := by decide +kernel
theorem dX11_voice_37 : decode cX11_voice 37 = .ok (.aload_n 2, 1) := by decide +kernel
theorem dX11_voice_38 : decode cX11_voice 38 = .ok (.getfield 267, 3) := by decide +kernel
theorem dX11_voice_41 : decode cX11_voice 41 = .ok (.invokevirtual 268, 3) := by decide +kernel
theorem dX11_voice_44 : decode cX11_voice 44 = .ok (.ireturn, 1) := by decide +kernel
