theorem k_19 : (Jvm.Cond.initialized "java/lang/IllegalArgumentException") ∈ TB := tb_i 19 (by decide +kernel) (by decide +kernel)
theorem k_20 : (Jvm.Cond.initialized "java/lang/IllegalStateException") ∈ TB := tb_i 20 (by decide +kernel) (by decide +kernel)
theorem k_21 : (Jvm.Cond.initialized "java/lang/UnsupportedOperationException") ∈ TB := tb_i 21 (by decide +kernel) (by decide +kernel)
theorem k_199 : (Jvm.Cond.fieldLink "ElevenOne" (274 : Nat) "ElevenOne$Turn" "number" "I") ∈ TB := tb_i 199 (by decide +kernel) (by decide +kernel)
theorem k_207 : (Jvm.Cond.fieldLink "ElevenOne$PressTurn" (43 : Nat) "ElevenOne$PressTurn" "heeds" "I") ∈ TB := tb_i 207 (by decide +kernel) (by decide +kernel)
theorem k_208 : (Jvm.Cond.sameField "ElevenOne$PressTurn" "ElevenOne$Turn" "heeds" "I") ∈ TB := tb_i 208 (by decide +kernel) (by decide +kernel)
theorem k_209 : (Jvm.Cond.fieldLink "ElevenOne$StoryTurn" (52 : Nat) "ElevenOne$StoryTurn" "heeds" "I") ∈ TB := tb_i 209 (by decide +kernel) (by decide +kernel)
theorem k_210 : (Jvm.Cond.sameField "ElevenOne$StoryTurn" "ElevenOne$Turn" "heeds" "I") ∈ TB := tb_i 210 (by decide +kernel) (by decide +kernel)
theorem k_524 : (Jvm.Cond.fieldLink "ElevenOne" (153 : Nat) "ElevenOne" "RULE_LEAST" "[I") ∈ TB := tb_i 524 (by decide +kernel) (by decide +kernel)
theorem k_526 : (Jvm.Cond.fieldLink "ElevenOne" (156 : Nat) "ElevenOne" "RULE_MOST" "[I") ∈ TB := tb_i 526 (by decide +kernel) (by decide +kernel)
theorem k_820 : (Jvm.Cond.classLink "ElevenOne" (258 : Nat) "java/lang/IllegalStateException") ∈ TB := tb_i 820 (by decide +kernel) (by decide +kernel)
theorem k_821 : (Jvm.Cond.classLink "ElevenOne" (251 : Nat) "java/lang/IllegalArgumentException") ∈ TB := tb_i 821 (by decide +kernel) (by decide +kernel)
theorem k_822 : (Jvm.Cond.classLink "ElevenOne" (277 : Nat) "java/lang/UnsupportedOperationException") ∈ TB := tb_i 822 (by decide +kernel) (by decide +kernel)
theorem k_823 : (Jvm.Cond.methodLink "ElevenOne" (271 : Nat) ({ cls := "ElevenOne$Turn", name := "fail", desc := "()V" } : Jvm.MethodName)) ∈ TB := tb_i 823 (by decide +kernel) (by decide +kernel)
theorem k_824 : (Jvm.Cond.instanceMethod ({ cls := "ElevenOne$Turn", name := "fail", desc := "()V" } : Jvm.MethodName)) ∈ TB := tb_i 824 (by decide +kernel) (by decide +kernel)
theorem k_825 : (Jvm.Cond.selects "ElevenOne$Turn" ({ cls := "ElevenOne$Turn", name := "fail", desc := "()V" } : Jvm.MethodName) ({ cls := "ElevenOne$Turn", name := "fail", desc := "()V" } : Jvm.MethodName)) ∈ TB := tb_i 825 (by decide +kernel) (by decide +kernel)
theorem k_826 : (Jvm.Cond.sameMethod "ElevenOne$Turn" "ElevenOne$Turn" "fail" "()V") ∈ TB := tb_i 826 (by decide +kernel) (by decide +kernel)
theorem k_827 : (Jvm.Cond.selects "ElevenOne$CountTurn" ({ cls := "ElevenOne$Turn", name := "fail", desc := "()V" } : Jvm.MethodName) ({ cls := "ElevenOne$Turn", name := "fail", desc := "()V" } : Jvm.MethodName)) ∈ TB := tb_i 827 (by decide +kernel) (by decide +kernel)
theorem k_828 : (Jvm.Cond.selects "ElevenOne$PressTurn" ({ cls := "ElevenOne$Turn", name := "fail", desc := "()V" } : Jvm.MethodName) ({ cls := "ElevenOne$PressTurn", name := "fail", desc := "()V" } : Jvm.MethodName)) ∈ TB := tb_i 828 (by decide +kernel) (by decide +kernel)
theorem k_829 : (Jvm.Cond.instanceMethod ({ cls := "ElevenOne$PressTurn", name := "fail", desc := "()V" } : Jvm.MethodName)) ∈ TB := tb_i 829 (by decide +kernel) (by decide +kernel)
theorem k_830 : (Jvm.Cond.code ({ cls := "ElevenOne$PressTurn", name := "fail", desc := "()V" } : Jvm.MethodName) prog_4_method_4_code (1 : Nat) (Option.none : Option Jvm.ClassFile.FieldType)) ∈ TB := tb_i 830 (by decide +kernel) (by decide +kernel)
theorem k_831 : (Jvm.Cond.classLink "ElevenOne$PressTurn" (46 : Nat) "java/lang/IllegalArgumentException") ∈ TB := tb_i 831 (by decide +kernel) (by decide +kernel)
theorem k_899 : (Jvm.Cond.selects "ElevenOne$RuleTurn" ({ cls := "ElevenOne$Turn", name := "fail", desc := "()V" } : Jvm.MethodName) ({ cls := "ElevenOne$Turn", name := "fail", desc := "()V" } : Jvm.MethodName)) ∈ TB := tb_i 899 (by decide +kernel) (by decide +kernel)
theorem k_900 : (Jvm.Cond.selects "ElevenOne$SilentTurn" ({ cls := "ElevenOne$Turn", name := "fail", desc := "()V" } : Jvm.MethodName) ({ cls := "ElevenOne$SilentTurn", name := "fail", desc := "()V" } : Jvm.MethodName)) ∈ TB := tb_i 900 (by decide +kernel) (by decide +kernel)
theorem k_901 : (Jvm.Cond.instanceMethod ({ cls := "ElevenOne$SilentTurn", name := "fail", desc := "()V" } : Jvm.MethodName)) ∈ TB := tb_i 901 (by decide +kernel) (by decide +kernel)
theorem k_902 : (Jvm.Cond.code ({ cls := "ElevenOne$SilentTurn", name := "fail", desc := "()V" } : Jvm.MethodName) prog_8_method_3_code (1 : Nat) (Option.none : Option Jvm.ClassFile.FieldType)) ∈ TB := tb_i 902 (by decide +kernel) (by decide +kernel)
theorem k_903 : (Jvm.Cond.selects "ElevenOne$SleepingTurn" ({ cls := "ElevenOne$Turn", name := "fail", desc := "()V" } : Jvm.MethodName) ({ cls := "ElevenOne$SilentTurn", name := "fail", desc := "()V" } : Jvm.MethodName)) ∈ TB := tb_i 903 (by decide +kernel) (by decide +kernel)
theorem k_904 : (Jvm.Cond.selects "ElevenOne$StoryTurn" ({ cls := "ElevenOne$Turn", name := "fail", desc := "()V" } : Jvm.MethodName) ({ cls := "ElevenOne$StoryTurn", name := "fail", desc := "()V" } : Jvm.MethodName)) ∈ TB := tb_i 904 (by decide +kernel) (by decide +kernel)
theorem k_905 : (Jvm.Cond.instanceMethod ({ cls := "ElevenOne$StoryTurn", name := "fail", desc := "()V" } : Jvm.MethodName)) ∈ TB := tb_i 905 (by decide +kernel) (by decide +kernel)
theorem k_906 : (Jvm.Cond.code ({ cls := "ElevenOne$StoryTurn", name := "fail", desc := "()V" } : Jvm.MethodName) prog_10_method_4_code (1 : Nat) (Option.none : Option Jvm.ClassFile.FieldType)) ∈ TB := tb_i 906 (by decide +kernel) (by decide +kernel)
theorem k_907 : (Jvm.Cond.classLink "ElevenOne$StoryTurn" (57 : Nat) "java/lang/UnsupportedOperationException") ∈ TB := tb_i 907 (by decide +kernel) (by decide +kernel)
theorem k_923 : (Jvm.Cond.selects "ElevenOne$ThingTurn" ({ cls := "ElevenOne$Turn", name := "fail", desc := "()V" } : Jvm.MethodName) ({ cls := "ElevenOne$Turn", name := "fail", desc := "()V" } : Jvm.MethodName)) ∈ TB := tb_i 923 (by decide +kernel) (by decide +kernel)
theorem k_924 : (Jvm.Cond.code ({ cls := "ElevenOne$Turn", name := "fail", desc := "()V" } : Jvm.MethodName) prog_12_method_4_code (1 : Nat) (Option.none : Option Jvm.ClassFile.FieldType)) ∈ TB := tb_i 924 (by decide +kernel) (by decide +kernel)
theorem k_925 : (Jvm.Cond.classLink "ElevenOne$Turn" (35 : Nat) "java/lang/IllegalStateException") ∈ TB := tb_i 925 (by decide +kernel) (by decide +kernel)
theorem k_944 : (Jvm.Cond.classLink "ElevenOneLaw" (13 : Nat) "java/lang/IllegalArgumentException") ∈ TB := tb_i 944 (by decide +kernel) (by decide +kernel)
theorem k_945 : (Jvm.Cond.classLink "ElevenOneLaw" (15 : Nat) "java/lang/IllegalStateException") ∈ TB := tb_i 945 (by decide +kernel) (by decide +kernel)
theorem k_946 : (Jvm.Cond.methodLink "ElevenOneLaw" (7 : Nat) ({ cls := "ElevenOne", name := "element", desc := "(II)J" } : Jvm.MethodName)) ∈ TB := tb_i 946 (by decide +kernel) (by decide +kernel)
theorem k_947 : (Jvm.Cond.instanceMethod ({ cls := "ElevenOne", name := "element", desc := "(II)J" } : Jvm.MethodName)) ∈ TB := tb_i 947 (by decide +kernel) (by decide +kernel)
theorem k_948 : (Jvm.Cond.selects "ElevenOne" ({ cls := "ElevenOne", name := "element", desc := "(II)J" } : Jvm.MethodName) ({ cls := "ElevenOne", name := "element", desc := "(II)J" } : Jvm.MethodName)) ∈ TB := tb_i 948 (by decide +kernel) (by decide +kernel)
theorem k_949 : (Jvm.Cond.code ({ cls := "ElevenOne", name := "element", desc := "(II)J" } : Jvm.MethodName) prog_1_method_29_code (4 : Nat) (Option.some Jvm.ClassFile.FieldType.long)) ∈ TB := tb_i 949 (by decide +kernel) (by decide +kernel)
theorem dX10_fail_0 : decode cX10_fail 0 = .ok (.aload_n 0, 1) := by decide +kernel
theorem dX10_fail_1 : decode cX10_fail 1 = .ok (.getfield 16, 3) := by decide +kernel
theorem dX10_fail_4 : decode cX10_fail 4 = .ok (.ifCond .le 13, 3) := by decide +kernel
theorem dX10_fail_7 : decode cX10_fail 7 = .ok (.new 35, 3) := by decide +kernel
theorem dX10_fail_10 : decode cX10_fail 10 = .ok (.dup, 1) := by decide +kernel
theorem dX10_fail_11 : decode cX10_fail 11 = .ok (.ldc 37, 2) := by decide +kernel
theorem dX10_fail_13 : decode cX10_fail 13 = .ok (.invokespecial 39, 3) := by decide +kernel
theorem dX10_fail_16 : decode cX10_fail 16 = .ok (.athrow, 1) := by decide +kernel
theorem dX10_fail_17 : decode cX10_fail 17 = .ok (.return_, 1) := by decide +kernel
theorem dX2_fail_0 : decode cX2_fail 0 = .ok (.aload_n 0, 1) := by decide +kernel
theorem dX2_fail_1 : decode cX2_fail 1 = .ok (.getfield 43, 3) := by decide +kernel
theorem dX2_fail_4 : decode cX2_fail 4 = .ok (.ifCond .le 13, 3) := by decide +kernel
theorem dX2_fail_7 : decode cX2_fail 7 = .ok (.new 46, 3) := by decide +kernel
theorem dX2_fail_10 : decode cX2_fail 10 = .ok (.dup, 1) := by decide +kernel
theorem dX2_fail_11 : decode cX2_fail 11 = .ok (.ldc 48, 2) := by decide +kernel
theorem dX2_fail_13 : decode cX2_fail 13 = .ok (.invokespecial 50, 3) := by decide +kernel
theorem dX2_fail_16 : decode cX2_fail 16 = .ok (.athrow, 1) := by decide +kernel
theorem dX2_fail_17 : decode cX2_fail 17 = .ok (.return_, 1) := by decide +kernel
theorem dX8_fail_0 : decode cX8_fail 0 = .ok (.aload_n 0, 1) := by decide +kernel
theorem dX8_fail_1 : decode cX8_fail 1 = .ok (.getfield 52, 3) := by decide +kernel
theorem dX8_fail_4 : decode cX8_fail 4 = .ok (.ifCond .le 13, 3) := by decide +kernel
theorem dX8_fail_7 : decode cX8_fail 7 = .ok (.new 57, 3) := by decide +kernel
theorem dX8_fail_10 : decode cX8_fail 10 = .ok (.dup, 1) := by decide +kernel
theorem dX8_fail_11 : decode cX8_fail 11 = .ok (.ldc 59, 2) := by decide +kernel
theorem dX8_fail_13 : decode cX8_fail 13 = .ok (.invokespecial 61, 3) := by decide +kernel
theorem dX8_fail_16 : decode cX8_fail 16 = .ok (.athrow, 1) := by decide +kernel
theorem dX8_fail_17 : decode cX8_fail 17 = .ok (.return_, 1) := by decide +kernel
theorem dX6_fail_0 : decode cX6_fail 0 = .ok (.return_, 1) := by decide +kernel
theorem dX11_toss_0 : decode cX11_toss 0 = .ok (.aload_n 0, 1) := by decide +kernel
theorem dX11_toss_1 : decode cX11_toss 1 = .ok (.iload_n 1, 1) := by decide +kernel
theorem dX11_toss_2 : decode cX11_toss 2 = .ok (.invokevirtual 124, 3) := by decide +kernel
theorem dX11_toss_5 : decode cX11_toss 5 = .ok (.astore_n 2, 1) := by decide +kernel
theorem dX11_toss_6 : decode cX11_toss 6 = .ok (.aload_n 2, 1) := by decide +kernel
theorem dX11_toss_7 : decode cX11_toss 7 = .ok (.ifnonnull 5, 3) := by decide +kernel
theorem dX11_toss_10 : decode cX11_toss 10 = .ok (.iconst (-1), 1) := by decide +kernel
theorem dX11_toss_11 : decode cX11_toss 11 = .ok (.ireturn, 1) := by decide +kernel
theorem dX11_toss_12 : decode cX11_toss 12 = .ok (.aload_n 2, 1) := by decide +kernel
theorem dX11_toss_13 : decode cX11_toss 13 = .ok (.invokevirtual 128, 3) := by decide +kernel
theorem dX11_toss_16 : decode cX11_toss 16 = .ok (.ifCond .eq 6, 3) := by decide +kernel
theorem dX11_toss_19 : decode cX11_toss 19 = .ok (.bipush (-11), 2) := by decide +kernel
theorem dX11_toss_21 : decode cX11_toss 21 = .ok (.ireturn, 1) := by decide +kernel
theorem dX11_toss_22 : decode cX11_toss 22 = .ok (.aload_n 2, 1) := by decide +kernel
theorem dX11_toss_23 : decode cX11_toss 23 = .ok (.getfield 263, 3) := by decide +kernel
theorem dX11_toss_26 : decode cX11_toss 26 = .ok (.astore_n 3, 1) := by decide +kernel
theorem dX11_toss_27 : decode cX11_toss 27 = .ok (.aload_n 3, 1) := by decide +kernel
theorem dX11_toss_28 : decode cX11_toss 28 = .ok (.ifnonnull 6, 3) := by decide +kernel
theorem dX11_toss_31 : decode cX11_toss 31 = .ok (.bipush (-12), 2) := by decide +kernel
theorem dX11_toss_33 : decode cX11_toss 33 = .ok (.ireturn, 1) := by decide +kernel
theorem dX11_toss_34 : decode cX11_toss 34 = .ok (.aload_n 3, 1) := by decide +kernel
theorem dX11_toss_35 : decode cX11_toss 35 = .ok (.invokevirtual 271, 3) := by decide +kernel
theorem dX11_toss_38 : decode cX11_toss 38 = .ok (.goto 31, 3) := by decide +kernel
theorem dX11_toss_41 : decode cX11_toss 41 = .ok (.astore 4, 2) := by decide +kernel
theorem dX11_toss_43 : decode cX11_toss 43 = .ok (.aload_n 3, 1) := by decide +kernel
theorem dX11_toss_44 : decode cX11_toss 44 = .ok (.getfield 274, 3) := by decide +kernel
theorem dX11_toss_47 : decode cX11_toss 47 = .ok (.ireturn, 1) := by decide +kernel
theorem dX11_toss_48 : decode cX11_toss 48 = .ok (.astore 4, 2) := by decide +kernel
theorem dX11_toss_50 : decode cX11_toss 50 = .ok (.aload_n 3, 1) := by decide +kernel
theorem dX11_toss_51 : decode cX11_toss 51 = .ok (.getfield 274, 3) := by decide +kernel
theorem dX11_toss_54 : decode cX11_toss 54 = .ok (.bipush 100, 2) := by decide +kernel
theorem dX11_toss_56 : decode cX11_toss 56 = .ok (.iadd, 1) := by decide +kernel
theorem dX11_toss_57 : decode cX11_toss 57 = .ok (.ireturn, 1) := by decide +kernel
theorem dX11_toss_58 : decode cX11_toss 58 = .ok (.astore 4, 2) := by decide +kernel
theorem dX11_toss_60 : decode cX11_toss 60 = .ok (.aload_n 3, 1) := by decide +kernel
theorem dX11_toss_61 : decode cX11_toss 61 = .ok (.getfield 86, 3) := by decide +kernel
theorem dX11_toss_64 : decode cX11_toss 64 = .ok (.sipush 200, 3) := by decide +kernel
theorem dX11_toss_67 : decode cX11_toss 67 = .ok (.iadd, 1) := by decide +kernel
theorem dX11_toss_68 : decode cX11_toss 68 = .ok (.ireturn, 1) := by decide +kernel
theorem dX11_toss_69 : decode cX11_toss 69 = .ok (.bipush (-15), 2) := by decide +kernel
theorem dX11_toss_71 : decode cX11_toss 71 = .ok (.ireturn, 1) := by decide +kernel
theorem dX11_set_0 : decode cX11_set 0 = .ok (.iload_n 1, 1) := by decide +kernel
theorem dX11_set_1 : decode cX11_set 1 = .ok (.ifCond .lt 30, 3) := by decide +kernel
theorem dX11_set_4 : decode cX11_set 4 = .ok (.iload_n 1, 1) := by decide +kernel
theorem dX11_set_5 : decode cX11_set 5 = .ok (.iconst 3, 1) := by decide +kernel
theorem dX11_set_6 : decode cX11_set 6 = .ok (.if_icmp .gt 25, 3) := by decide +kernel
theorem dX11_set_9 : decode cX11_set 9 = .ok (.iload_n 2, 1) := by decide +kernel
theorem dX11_set_10 : decode cX11_set 10 = .ok (.getstatic 153, 3) := by decide +kernel
theorem dX11_set_13 : decode cX11_set 13 = .ok (.iload_n 1, 1) := by decide +kernel
theorem dX11_set_14 : decode cX11_set 14 = .ok (.invokestatic 72, 3) := by decide +kernel
theorem dX11_set_17 : decode cX11_set 17 = .ok (.if_icmp .lt 14, 3) := by decide +kernel
theorem dX11_set_20 : decode cX11_set 20 = .ok (.iload_n 2, 1) := by decide +kernel
theorem dX11_set_21 : decode cX11_set 21 = .ok (.getstatic 156, 3) := by decide +kernel
theorem dX11_set_24 : decode cX11_set 24 = .ok (.iload_n 1, 1) := by decide +kernel
theorem dX11_set_25 : decode cX11_set 25 = .ok (.invokestatic 72, 3) := by decide +kernel
theorem dX11_set_28 : decode cX11_set 28 = .ok (.if_icmp .le 5, 3) := by decide +kernel
theorem dX11_set_31 : decode cX11_set 31 = .ok (.iconst (-1), 1) := by decide +kernel
theorem dX11_set_32 : decode cX11_set 32 = .ok (.ireturn, 1) := by decide +kernel
theorem dX11_set_33 : decode cX11_set 33 = .ok (.aload_n 0, 1) := by decide +kernel
theorem dX11_set_34 : decode cX11_set 34 = .ok (.getfield 10, 3) := by decide +kernel
theorem dX11_set_37 : decode cX11_set 37 = .ok (.getfield 159, 3) := by decide +kernel
theorem dX11_set_40 : decode cX11_set 40 = .ok (.iload_n 1, 1) := by decide +kernel
theorem dX11_set_41 : decode cX11_set 41 = .ok (.invokestatic 72, 3) := by decide +kernel
theorem dX11_set_44 : decode cX11_set 44 = .ok (.istore_n 3, 1) := by decide +kernel
theorem dX11_set_45 : decode cX11_set 45 = .ok (.aload_n 0, 1) := by decide +kernel
theorem dX11_set_46 : decode cX11_set 46 = .ok (.getfield 10, 3) := by decide +kernel
theorem dX11_set_49 : decode cX11_set 49 = .ok (.getfield 159, 3) := by decide +kernel
theorem dX11_set_52 : decode cX11_set 52 = .ok (.iload_n 1, 1) := by decide +kernel
theorem dX11_set_53 : decode cX11_set 53 = .ok (.iload_n 2, 1) := by decide +kernel
theorem dX11_set_54 : decode cX11_set 54 = .ok (.invokestatic 37, 3) := by decide +kernel
theorem dX11_set_57 : decode cX11_set 57 = .ok (.iload_n 3, 1) := by decide +kernel
theorem dX11_set_58 : decode cX11_set 58 = .ok (.ireturn, 1) := by decide +kernel
theorem dX11_element_0 : decode cX11_element 0 = .ok (.aload_n 0, 1) := by decide +kernel
theorem dX11_element_1 : decode cX11_element 1 = .ok (.iload_n 1, 1) := by decide +kernel
theorem dX11_element_2 : decode cX11_element 2 = .ok (.invokevirtual 124, 3) := by decide +kernel
theorem dX11_element_5 : decode cX11_element 5 = .ok (.astore_n 3, 1) := by decide +kernel
theorem dX11_element_6 : decode cX11_element 6 = .ok (.aload_n 3, 1) := by decide +kernel
theorem dX11_element_7 : decode cX11_element 7 = .ok (.ifnonnull 13, 3) := by decide +kernel
theorem dX11_element_10 : decode cX11_element 10 = .ok (.new 251, 3) := by decide +kernel
theorem dX11_element_13 : decode cX11_element 13 = .ok (.dup, 1) := by decide +kernel
theorem dX11_element_14 : decode cX11_element 14 = .ok (.ldc 253, 2) := by decide +kernel
theorem dX11_element_16 : decode cX11_element 16 = .ok (.invokespecial 255, 3) := by decide +kernel
theorem dX11_element_19 : decode cX11_element 19 = .ok (.athrow, 1) := by decide +kernel
theorem dX11_element_20 : decode cX11_element 20 = .ok (.aload_n 3, 1) := by decide +kernel
theorem dX11_element_21 : decode cX11_element 21 = .ok (.invokevirtual 241, 3) := by decide +kernel
theorem dX11_element_24 : decode cX11_element 24 = .ok (.ifCond .eq 12, 3) := by decide +kernel
theorem dX11_element_27 : decode cX11_element 27 = .ok (.aload_n 3, 1) := by decide +kernel
theorem dX11_element_28 : decode cX11_element 28 = .ok (.iload_n 2, 1) := by decide +kernel
theorem dX11_element_29 : decode cX11_element 29 = .ok (.iconst 1, 1) := by decide +kernel
theorem dX11_element_30 : decode cX11_element 30 = .ok (.invokevirtual 244, 3) := by decide +kernel
theorem dX11_element_33 : decode cX11_element 33 = .ok (.ifCond .ne 14, 3) := by decide +kernel
theorem dX11_element_36 : decode cX11_element 36 = .ok (.new 258, 3) := by decide +kernel
theorem dX11_element_39 : decode cX11_element 39 = .ok (.dup, 1) := by decide +kernel
theorem dX11_element_40 : decode cX11_element 40 = .ok (.ldc_w 260, 3) := by decide +kernel
theorem dX11_element_43 : decode cX11_element 43 = .ok (.invokespecial 262, 3) := by decide +kernel
theorem dX11_element_46 : decode cX11_element 46 = .ok (.athrow, 1) := by decide +kernel
theorem dX11_element_47 : decode cX11_element 47 = .ok (.aload_n 3, 1) := by decide +kernel
theorem dX11_element_48 : decode cX11_element 48 = .ok (.getfield 137, 3) := by decide +kernel
theorem dX11_element_51 : decode cX11_element 51 = .ok (.iload_n 2, 1) := by decide +kernel
theorem dX11_element_52 : decode cX11_element 52 = .ok (.invokestatic 72, 3) := by decide +kernel
theorem dX11_element_55 : decode cX11_element 55 = .ok (.i2l, 1) := by decide +kernel
theorem dX11_element_56 : decode cX11_element 56 = .ok (.lreturn, 1) := by decide +kernel
