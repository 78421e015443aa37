theorem k_0 : (Jvm.Cond.initialized "ElevenOneLaw") ∈ TB := tb_i 0 (by decide +kernel) (by decide +kernel)
theorem k_22 : (Jvm.Cond.classLink "ElevenOneLaw" (8 : Nat) "ElevenOne") ∈ TB := tb_i 22 (by decide +kernel) (by decide +kernel)
theorem k_23 : (Jvm.Cond.instantiable "ElevenOne" (5 : Nat)) ∈ TB := tb_i 23 (by decide +kernel) (by decide +kernel)
theorem k_24 : (Jvm.Cond.methodLink "ElevenOneLaw" (17 : Nat) ({ cls := "ElevenOne", name := "<init>", desc := "()V" } : Jvm.MethodName)) ∈ TB := tb_i 24 (by decide +kernel) (by decide +kernel)
theorem k_25 : (Jvm.Cond.instanceMethod ({ cls := "ElevenOne", name := "<init>", desc := "()V" } : Jvm.MethodName)) ∈ TB := tb_i 25 (by decide +kernel) (by decide +kernel)
theorem k_26 : (Jvm.Cond.code ({ cls := "ElevenOne", name := "<init>", desc := "()V" } : Jvm.MethodName) prog_1_method_1_code (2 : Nat) (Option.none : Option Jvm.ClassFile.FieldType)) ∈ TB := tb_i 26 (by decide +kernel) (by decide +kernel)
theorem k_167 : (Jvm.Cond.methodLink "ElevenOneLaw" (21 : Nat) ({ cls := "ElevenOne", name := "thing", desc := "(I)I" } : Jvm.MethodName)) ∈ TB := tb_i 167 (by decide +kernel) (by decide +kernel)
theorem k_168 : (Jvm.Cond.instanceMethod ({ cls := "ElevenOne", name := "thing", desc := "(I)I" } : Jvm.MethodName)) ∈ TB := tb_i 168 (by decide +kernel) (by decide +kernel)
theorem k_169 : (Jvm.Cond.selects "ElevenOne" ({ cls := "ElevenOne", name := "thing", desc := "(I)I" } : Jvm.MethodName) ({ cls := "ElevenOne", name := "thing", desc := "(I)I" } : Jvm.MethodName)) ∈ TB := tb_i 169 (by decide +kernel) (by decide +kernel)
theorem k_170 : (Jvm.Cond.code ({ cls := "ElevenOne", name := "thing", desc := "(I)I" } : Jvm.MethodName) prog_1_method_2_code (2 : Nat) (Option.some Jvm.ClassFile.FieldType.int)) ∈ TB := tb_i 170 (by decide +kernel) (by decide +kernel)
theorem k_174 : (Jvm.Cond.methodLink "ElevenOneLaw" (26 : Nat) ({ cls := "ElevenOne", name := "juror", desc := "(IIII)I" } : Jvm.MethodName)) ∈ TB := tb_i 174 (by decide +kernel) (by decide +kernel)
theorem k_175 : (Jvm.Cond.instanceMethod ({ cls := "ElevenOne", name := "juror", desc := "(IIII)I" } : Jvm.MethodName)) ∈ TB := tb_i 175 (by decide +kernel) (by decide +kernel)
theorem k_176 : (Jvm.Cond.selects "ElevenOne" ({ cls := "ElevenOne", name := "juror", desc := "(IIII)I" } : Jvm.MethodName) ({ cls := "ElevenOne", name := "juror", desc := "(IIII)I" } : Jvm.MethodName)) ∈ TB := tb_i 176 (by decide +kernel) (by decide +kernel)
theorem k_177 : (Jvm.Cond.code ({ cls := "ElevenOne", name := "juror", desc := "(IIII)I" } : Jvm.MethodName) prog_1_method_3_code (5 : Nat) (Option.some Jvm.ClassFile.FieldType.int)) ∈ TB := tb_i 177 (by decide +kernel) (by decide +kernel)
theorem k_367 : (Jvm.Cond.methodLink "ElevenOneLaw" (31 : Nat) ({ cls := "ElevenOne", name := "holds", desc := "(II)I" } : Jvm.MethodName)) ∈ TB := tb_i 367 (by decide +kernel) (by decide +kernel)
theorem k_368 : (Jvm.Cond.instanceMethod ({ cls := "ElevenOne", name := "holds", desc := "(II)I" } : Jvm.MethodName)) ∈ TB := tb_i 368 (by decide +kernel) (by decide +kernel)
theorem k_369 : (Jvm.Cond.selects "ElevenOne" ({ cls := "ElevenOne", name := "holds", desc := "(II)I" } : Jvm.MethodName) ({ cls := "ElevenOne", name := "holds", desc := "(II)I" } : Jvm.MethodName)) ∈ TB := tb_i 369 (by decide +kernel) (by decide +kernel)
theorem k_370 : (Jvm.Cond.code ({ cls := "ElevenOne", name := "holds", desc := "(II)I" } : Jvm.MethodName) prog_1_method_4_code (4 : Nat) (Option.some Jvm.ClassFile.FieldType.int)) ∈ TB := tb_i 370 (by decide +kernel) (by decide +kernel)
theorem k_376 : (Jvm.Cond.methodLink "ElevenOneLaw" (36 : Nat) ({ cls := "ElevenOne", name := "of", desc := "(II)I" } : Jvm.MethodName)) ∈ TB := tb_i 376 (by decide +kernel) (by decide +kernel)
theorem k_377 : (Jvm.Cond.instanceMethod ({ cls := "ElevenOne", name := "of", desc := "(II)I" } : Jvm.MethodName)) ∈ TB := tb_i 377 (by decide +kernel) (by decide +kernel)
theorem k_378 : (Jvm.Cond.selects "ElevenOne" ({ cls := "ElevenOne", name := "of", desc := "(II)I" } : Jvm.MethodName) ({ cls := "ElevenOne", name := "of", desc := "(II)I" } : Jvm.MethodName)) ∈ TB := tb_i 378 (by decide +kernel) (by decide +kernel)
theorem k_379 : (Jvm.Cond.code ({ cls := "ElevenOne", name := "of", desc := "(II)I" } : Jvm.MethodName) prog_1_method_5_code (4 : Nat) (Option.some Jvm.ClassFile.FieldType.int)) ∈ TB := tb_i 379 (by decide +kernel) (by decide +kernel)
theorem k_390 : (Jvm.Cond.methodLink "ElevenOneLaw" (40 : Nat) ({ cls := "ElevenOne", name := "leans", desc := "(I)I" } : Jvm.MethodName)) ∈ TB := tb_i 390 (by decide +kernel) (by decide +kernel)
theorem k_391 : (Jvm.Cond.instanceMethod ({ cls := "ElevenOne", name := "leans", desc := "(I)I" } : Jvm.MethodName)) ∈ TB := tb_i 391 (by decide +kernel) (by decide +kernel)
theorem k_392 : (Jvm.Cond.selects "ElevenOne" ({ cls := "ElevenOne", name := "leans", desc := "(I)I" } : Jvm.MethodName) ({ cls := "ElevenOne", name := "leans", desc := "(I)I" } : Jvm.MethodName)) ∈ TB := tb_i 392 (by decide +kernel) (by decide +kernel)
theorem k_393 : (Jvm.Cond.code ({ cls := "ElevenOne", name := "leans", desc := "(I)I" } : Jvm.MethodName) prog_1_method_6_code (2 : Nat) (Option.some Jvm.ClassFile.FieldType.int)) ∈ TB := tb_i 393 (by decide +kernel) (by decide +kernel)
theorem k_428 : (Jvm.Cond.methodLink "ElevenOneLaw" (44 : Nat) ({ cls := "ElevenOne", name := "law", desc := "(I)I" } : Jvm.MethodName)) ∈ TB := tb_i 428 (by decide +kernel) (by decide +kernel)
theorem k_429 : (Jvm.Cond.instanceMethod ({ cls := "ElevenOne", name := "law", desc := "(I)I" } : Jvm.MethodName)) ∈ TB := tb_i 429 (by decide +kernel) (by decide +kernel)
theorem k_430 : (Jvm.Cond.selects "ElevenOne" ({ cls := "ElevenOne", name := "law", desc := "(I)I" } : Jvm.MethodName) ({ cls := "ElevenOne", name := "law", desc := "(I)I" } : Jvm.MethodName)) ∈ TB := tb_i 430 (by decide +kernel) (by decide +kernel)
theorem k_431 : (Jvm.Cond.code ({ cls := "ElevenOne", name := "law", desc := "(I)I" } : Jvm.MethodName) prog_1_method_7_code (4 : Nat) (Option.some Jvm.ClassFile.FieldType.int)) ∈ TB := tb_i 431 (by decide +kernel) (by decide +kernel)
theorem k_520 : (Jvm.Cond.methodLink "ElevenOneLaw" (48 : Nat) ({ cls := "ElevenOne", name := "set", desc := "(II)I" } : Jvm.MethodName)) ∈ TB := tb_i 520 (by decide +kernel) (by decide +kernel)
theorem k_521 : (Jvm.Cond.instanceMethod ({ cls := "ElevenOne", name := "set", desc := "(II)I" } : Jvm.MethodName)) ∈ TB := tb_i 521 (by decide +kernel) (by decide +kernel)
theorem k_522 : (Jvm.Cond.selects "ElevenOne" ({ cls := "ElevenOne", name := "set", desc := "(II)I" } : Jvm.MethodName) ({ cls := "ElevenOne", name := "set", desc := "(II)I" } : Jvm.MethodName)) ∈ TB := tb_i 522 (by decide +kernel) (by decide +kernel)
theorem k_523 : (Jvm.Cond.code ({ cls := "ElevenOne", name := "set", desc := "(II)I" } : Jvm.MethodName) prog_1_method_8_code (4 : Nat) (Option.some Jvm.ClassFile.FieldType.int)) ∈ TB := tb_i 523 (by decide +kernel) (by decide +kernel)
theorem k_528 : (Jvm.Cond.methodLink "ElevenOneLaw" (52 : Nat) ({ cls := "ElevenOne", name := "begin", desc := "()I" } : Jvm.MethodName)) ∈ TB := tb_i 528 (by decide +kernel) (by decide +kernel)
theorem k_529 : (Jvm.Cond.instanceMethod ({ cls := "ElevenOne", name := "begin", desc := "()I" } : Jvm.MethodName)) ∈ TB := tb_i 529 (by decide +kernel) (by decide +kernel)
theorem k_530 : (Jvm.Cond.selects "ElevenOne" ({ cls := "ElevenOne", name := "begin", desc := "()I" } : Jvm.MethodName) ({ cls := "ElevenOne", name := "begin", desc := "()I" } : Jvm.MethodName)) ∈ TB := tb_i 530 (by decide +kernel) (by decide +kernel)
theorem k_531 : (Jvm.Cond.code ({ cls := "ElevenOne", name := "begin", desc := "()I" } : Jvm.MethodName) prog_1_method_9_code (1 : Nat) (Option.some Jvm.ClassFile.FieldType.int)) ∈ TB := tb_i 531 (by decide +kernel) (by decide +kernel)
theorem k_546 : (Jvm.Cond.methodLink "ElevenOneLaw" (57 : Nat) ({ cls := "ElevenOne", name := "go", desc := "(I)I" } : Jvm.MethodName)) ∈ TB := tb_i 546 (by decide +kernel) (by decide +kernel)
theorem k_547 : (Jvm.Cond.instanceMethod ({ cls := "ElevenOne", name := "go", desc := "(I)I" } : Jvm.MethodName)) ∈ TB := tb_i 547 (by decide +kernel) (by decide +kernel)
theorem k_548 : (Jvm.Cond.selects "ElevenOne" ({ cls := "ElevenOne", name := "go", desc := "(I)I" } : Jvm.MethodName) ({ cls := "ElevenOne", name := "go", desc := "(I)I" } : Jvm.MethodName)) ∈ TB := tb_i 548 (by decide +kernel) (by decide +kernel)
theorem k_549 : (Jvm.Cond.code ({ cls := "ElevenOne", name := "go", desc := "(I)I" } : Jvm.MethodName) prog_1_method_10_code (3 : Nat) (Option.some Jvm.ClassFile.FieldType.int)) ∈ TB := tb_i 549 (by decide +kernel) (by decide +kernel)
theorem k_631 : (Jvm.Cond.methodLink "ElevenOneLaw" (61 : Nat) ({ cls := "ElevenOne", name := "talk", desc := "(I)I" } : Jvm.MethodName)) ∈ TB := tb_i 631 (by decide +kernel) (by decide +kernel)
theorem k_632 : (Jvm.Cond.instanceMethod ({ cls := "ElevenOne", name := "talk", desc := "(I)I" } : Jvm.MethodName)) ∈ TB := tb_i 632 (by decide +kernel) (by decide +kernel)
theorem k_633 : (Jvm.Cond.selects "ElevenOne" ({ cls := "ElevenOne", name := "talk", desc := "(I)I" } : Jvm.MethodName) ({ cls := "ElevenOne", name := "talk", desc := "(I)I" } : Jvm.MethodName)) ∈ TB := tb_i 633 (by decide +kernel) (by decide +kernel)
theorem k_634 : (Jvm.Cond.code ({ cls := "ElevenOne", name := "talk", desc := "(I)I" } : Jvm.MethodName) prog_1_method_11_code (2 : Nat) (Option.some Jvm.ClassFile.FieldType.int)) ∈ TB := tb_i 634 (by decide +kernel) (by decide +kernel)
theorem k_635 : (Jvm.Cond.methodLink "ElevenOneLaw" (65 : Nat) ({ cls := "ElevenOne", name := "run", desc := "(I)I" } : Jvm.MethodName)) ∈ TB := tb_i 635 (by decide +kernel) (by decide +kernel)
theorem k_636 : (Jvm.Cond.instanceMethod ({ cls := "ElevenOne", name := "run", desc := "(I)I" } : Jvm.MethodName)) ∈ TB := tb_i 636 (by decide +kernel) (by decide +kernel)
theorem k_637 : (Jvm.Cond.selects "ElevenOne" ({ cls := "ElevenOne", name := "run", desc := "(I)I" } : Jvm.MethodName) ({ cls := "ElevenOne", name := "run", desc := "(I)I" } : Jvm.MethodName)) ∈ TB := tb_i 637 (by decide +kernel) (by decide +kernel)
theorem k_638 : (Jvm.Cond.code ({ cls := "ElevenOne", name := "run", desc := "(I)I" } : Jvm.MethodName) prog_1_method_12_code (2 : Nat) (Option.some Jvm.ClassFile.FieldType.int)) ∈ TB := tb_i 638 (by decide +kernel) (by decide +kernel)
theorem k_657 : (Jvm.Cond.methodLink "ElevenOneLaw" (69 : Nat) ({ cls := "ElevenOne", name := "slips", desc := "(Z)I" } : Jvm.MethodName)) ∈ TB := tb_i 657 (by decide +kernel) (by decide +kernel)
theorem k_658 : (Jvm.Cond.instanceMethod ({ cls := "ElevenOne", name := "slips", desc := "(Z)I" } : Jvm.MethodName)) ∈ TB := tb_i 658 (by decide +kernel) (by decide +kernel)
theorem k_659 : (Jvm.Cond.selects "ElevenOne" ({ cls := "ElevenOne", name := "slips", desc := "(Z)I" } : Jvm.MethodName) ({ cls := "ElevenOne", name := "slips", desc := "(Z)I" } : Jvm.MethodName)) ∈ TB := tb_i 659 (by decide +kernel) (by decide +kernel)
theorem k_660 : (Jvm.Cond.code ({ cls := "ElevenOne", name := "slips", desc := "(Z)I" } : Jvm.MethodName) prog_1_method_13_code (2 : Nat) (Option.some Jvm.ClassFile.FieldType.int)) ∈ TB := tb_i 660 (by decide +kernel) (by decide +kernel)
theorem k_661 : (Jvm.Cond.methodLink "ElevenOneLaw" (74 : Nat) ({ cls := "ElevenOne", name := "moved", desc := "(II)I" } : Jvm.MethodName)) ∈ TB := tb_i 661 (by decide +kernel) (by decide +kernel)
theorem k_662 : (Jvm.Cond.instanceMethod ({ cls := "ElevenOne", name := "moved", desc := "(II)I" } : Jvm.MethodName)) ∈ TB := tb_i 662 (by decide +kernel) (by decide +kernel)
theorem k_663 : (Jvm.Cond.selects "ElevenOne" ({ cls := "ElevenOne", name := "moved", desc := "(II)I" } : Jvm.MethodName) ({ cls := "ElevenOne", name := "moved", desc := "(II)I" } : Jvm.MethodName)) ∈ TB := tb_i 663 (by decide +kernel) (by decide +kernel)
theorem k_664 : (Jvm.Cond.code ({ cls := "ElevenOne", name := "moved", desc := "(II)I" } : Jvm.MethodName) prog_1_method_14_code (5 : Nat) (Option.some Jvm.ClassFile.FieldType.int)) ∈ TB := tb_i 664 (by decide +kernel) (by decide +kernel)
theorem k_665 : (Jvm.Cond.methodLink "ElevenOneLaw" (78 : Nat) ({ cls := "ElevenOne", name := "out", desc := "(I)I" } : Jvm.MethodName)) ∈ TB := tb_i 665 (by decide +kernel) (by decide +kernel)
theorem k_666 : (Jvm.Cond.instanceMethod ({ cls := "ElevenOne", name := "out", desc := "(I)I" } : Jvm.MethodName)) ∈ TB := tb_i 666 (by decide +kernel) (by decide +kernel)
theorem k_667 : (Jvm.Cond.selects "ElevenOne" ({ cls := "ElevenOne", name := "out", desc := "(I)I" } : Jvm.MethodName) ({ cls := "ElevenOne", name := "out", desc := "(I)I" } : Jvm.MethodName)) ∈ TB := tb_i 667 (by decide +kernel) (by decide +kernel)
theorem k_668 : (Jvm.Cond.code ({ cls := "ElevenOne", name := "out", desc := "(I)I" } : Jvm.MethodName) prog_1_method_15_code (4 : Nat) (Option.some Jvm.ClassFile.FieldType.int)) ∈ TB := tb_i 668 (by decide +kernel) (by decide +kernel)
theorem k_673 : (Jvm.Cond.methodLink "ElevenOneLaw" (82 : Nat) ({ cls := "ElevenOne", name := "one", desc := "()I" } : Jvm.MethodName)) ∈ TB := tb_i 673 (by decide +kernel) (by decide +kernel)
theorem k_674 : (Jvm.Cond.instanceMethod ({ cls := "ElevenOne", name := "one", desc := "()I" } : Jvm.MethodName)) ∈ TB := tb_i 674 (by decide +kernel) (by decide +kernel)
theorem k_675 : (Jvm.Cond.selects "ElevenOne" ({ cls := "ElevenOne", name := "one", desc := "()I" } : Jvm.MethodName) ({ cls := "ElevenOne", name := "one", desc := "()I" } : Jvm.MethodName)) ∈ TB := tb_i 675 (by decide +kernel) (by decide +kernel)
theorem k_676 : (Jvm.Cond.code ({ cls := "ElevenOne", name := "one", desc := "()I" } : Jvm.MethodName) prog_1_method_16_code (5 : Nat) (Option.some Jvm.ClassFile.FieldType.int)) ∈ TB := tb_i 676 (by decide +kernel) (by decide +kernel)
theorem k_677 : (Jvm.Cond.methodLink "ElevenOneLaw" (86 : Nat) ({ cls := "ElevenOne", name := "six", desc := "(II)I" } : Jvm.MethodName)) ∈ TB := tb_i 677 (by decide +kernel) (by decide +kernel)
theorem k_678 : (Jvm.Cond.instanceMethod ({ cls := "ElevenOne", name := "six", desc := "(II)I" } : Jvm.MethodName)) ∈ TB := tb_i 678 (by decide +kernel) (by decide +kernel)
theorem k_679 : (Jvm.Cond.selects "ElevenOne" ({ cls := "ElevenOne", name := "six", desc := "(II)I" } : Jvm.MethodName) ({ cls := "ElevenOne", name := "six", desc := "(II)I" } : Jvm.MethodName)) ∈ TB := tb_i 679 (by decide +kernel) (by decide +kernel)
theorem k_680 : (Jvm.Cond.code ({ cls := "ElevenOne", name := "six", desc := "(II)I" } : Jvm.MethodName) prog_1_method_17_code (4 : Nat) (Option.some Jvm.ClassFile.FieldType.int)) ∈ TB := tb_i 680 (by decide +kernel) (by decide +kernel)
theorem k_681 : (Jvm.Cond.methodLink "ElevenOneLaw" (90 : Nat) ({ cls := "ElevenOne", name := "lost", desc := "(I)I" } : Jvm.MethodName)) ∈ TB := tb_i 681 (by decide +kernel) (by decide +kernel)
theorem k_682 : (Jvm.Cond.instanceMethod ({ cls := "ElevenOne", name := "lost", desc := "(I)I" } : Jvm.MethodName)) ∈ TB := tb_i 682 (by decide +kernel) (by decide +kernel)
theorem k_683 : (Jvm.Cond.selects "ElevenOne" ({ cls := "ElevenOne", name := "lost", desc := "(I)I" } : Jvm.MethodName) ({ cls := "ElevenOne", name := "lost", desc := "(I)I" } : Jvm.MethodName)) ∈ TB := tb_i 683 (by decide +kernel) (by decide +kernel)
theorem k_684 : (Jvm.Cond.code ({ cls := "ElevenOne", name := "lost", desc := "(I)I" } : Jvm.MethodName) prog_1_method_18_code (3 : Nat) (Option.some Jvm.ClassFile.FieldType.int)) ∈ TB := tb_i 684 (by decide +kernel) (by decide +kernel)
theorem k_689 : (Jvm.Cond.methodLink "ElevenOneLaw" (94 : Nat) ({ cls := "ElevenOne", name := "leads", desc := "(I)I" } : Jvm.MethodName)) ∈ TB := tb_i 689 (by decide +kernel) (by decide +kernel)
theorem k_690 : (Jvm.Cond.instanceMethod ({ cls := "ElevenOne", name := "leads", desc := "(I)I" } : Jvm.MethodName)) ∈ TB := tb_i 690 (by decide +kernel) (by decide +kernel)
theorem k_691 : (Jvm.Cond.selects "ElevenOne" ({ cls := "ElevenOne", name := "leads", desc := "(I)I" } : Jvm.MethodName) ({ cls := "ElevenOne", name := "leads", desc := "(I)I" } : Jvm.MethodName)) ∈ TB := tb_i 691 (by decide +kernel) (by decide +kernel)
theorem k_692 : (Jvm.Cond.code ({ cls := "ElevenOne", name := "leads", desc := "(I)I" } : Jvm.MethodName) prog_1_method_19_code (4 : Nat) (Option.some Jvm.ClassFile.FieldType.int)) ∈ TB := tb_i 692 (by decide +kernel) (by decide +kernel)
theorem k_696 : (Jvm.Cond.methodLink "ElevenOneLaw" (98 : Nat) ({ cls := "ElevenOne", name := "hands", desc := "()I" } : Jvm.MethodName)) ∈ TB := tb_i 696 (by decide +kernel) (by decide +kernel)
theorem k_697 : (Jvm.Cond.instanceMethod ({ cls := "ElevenOne", name := "hands", desc := "()I" } : Jvm.MethodName)) ∈ TB := tb_i 697 (by decide +kernel) (by decide +kernel)
theorem k_698 : (Jvm.Cond.selects "ElevenOne" ({ cls := "ElevenOne", name := "hands", desc := "()I" } : Jvm.MethodName) ({ cls := "ElevenOne", name := "hands", desc := "()I" } : Jvm.MethodName)) ∈ TB := tb_i 698 (by decide +kernel) (by decide +kernel)
theorem k_699 : (Jvm.Cond.code ({ cls := "ElevenOne", name := "hands", desc := "()I" } : Jvm.MethodName) prog_1_method_20_code (1 : Nat) (Option.some Jvm.ClassFile.FieldType.int)) ∈ TB := tb_i 699 (by decide +kernel) (by decide +kernel)
theorem k_700 : (Jvm.Cond.methodLink "ElevenOneLaw" (102 : Nat) ({ cls := "ElevenOne", name := "leftOut", desc := "(I)I" } : Jvm.MethodName)) ∈ TB := tb_i 700 (by decide +kernel) (by decide +kernel)
theorem k_701 : (Jvm.Cond.instanceMethod ({ cls := "ElevenOne", name := "leftOut", desc := "(I)I" } : Jvm.MethodName)) ∈ TB := tb_i 701 (by decide +kernel) (by decide +kernel)
theorem k_702 : (Jvm.Cond.selects "ElevenOne" ({ cls := "ElevenOne", name := "leftOut", desc := "(I)I" } : Jvm.MethodName) ({ cls := "ElevenOne", name := "leftOut", desc := "(I)I" } : Jvm.MethodName)) ∈ TB := tb_i 702 (by decide +kernel) (by decide +kernel)
theorem k_703 : (Jvm.Cond.code ({ cls := "ElevenOne", name := "leftOut", desc := "(I)I" } : Jvm.MethodName) prog_1_method_21_code (4 : Nat) (Option.some Jvm.ClassFile.FieldType.int)) ∈ TB := tb_i 703 (by decide +kernel) (by decide +kernel)
theorem k_710 : (Jvm.Cond.methodLink "ElevenOneLaw" (106 : Nat) ({ cls := "ElevenOne", name := "worlds", desc := "(IIII)I" } : Jvm.MethodName)) ∈ TB := tb_i 710 (by decide +kernel) (by decide +kernel)
theorem k_711 : (Jvm.Cond.instanceMethod ({ cls := "ElevenOne", name := "worlds", desc := "(IIII)I" } : Jvm.MethodName)) ∈ TB := tb_i 711 (by decide +kernel) (by decide +kernel)
theorem k_712 : (Jvm.Cond.selects "ElevenOne" ({ cls := "ElevenOne", name := "worlds", desc := "(IIII)I" } : Jvm.MethodName) ({ cls := "ElevenOne", name := "worlds", desc := "(IIII)I" } : Jvm.MethodName)) ∈ TB := tb_i 712 (by decide +kernel) (by decide +kernel)
theorem k_713 : (Jvm.Cond.code ({ cls := "ElevenOne", name := "worlds", desc := "(IIII)I" } : Jvm.MethodName) prog_1_method_22_code (9 : Nat) (Option.some Jvm.ClassFile.FieldType.int)) ∈ TB := tb_i 713 (by decide +kernel) (by decide +kernel)
theorem k_725 : (Jvm.Cond.methodLink "ElevenOneLaw" (110 : Nat) ({ cls := "ElevenOne", name := "image", desc := "()I" } : Jvm.MethodName)) ∈ TB := tb_i 725 (by decide +kernel) (by decide +kernel)
theorem k_726 : (Jvm.Cond.instanceMethod ({ cls := "ElevenOne", name := "image", desc := "()I" } : Jvm.MethodName)) ∈ TB := tb_i 726 (by decide +kernel) (by decide +kernel)
theorem k_727 : (Jvm.Cond.selects "ElevenOne" ({ cls := "ElevenOne", name := "image", desc := "()I" } : Jvm.MethodName) ({ cls := "ElevenOne", name := "image", desc := "()I" } : Jvm.MethodName)) ∈ TB := tb_i 727 (by decide +kernel) (by decide +kernel)
theorem k_728 : (Jvm.Cond.code ({ cls := "ElevenOne", name := "image", desc := "()I" } : Jvm.MethodName) prog_1_method_23_code (1 : Nat) (Option.some Jvm.ClassFile.FieldType.int)) ∈ TB := tb_i 728 (by decide +kernel) (by decide +kernel)
theorem k_735 : (Jvm.Cond.methodLink "ElevenOneLaw" (114 : Nat) ({ cls := "ElevenOne", name := "restore", desc := "()I" } : Jvm.MethodName)) ∈ TB := tb_i 735 (by decide +kernel) (by decide +kernel)
theorem k_736 : (Jvm.Cond.instanceMethod ({ cls := "ElevenOne", name := "restore", desc := "()I" } : Jvm.MethodName)) ∈ TB := tb_i 736 (by decide +kernel) (by decide +kernel)
theorem k_737 : (Jvm.Cond.selects "ElevenOne" ({ cls := "ElevenOne", name := "restore", desc := "()I" } : Jvm.MethodName) ({ cls := "ElevenOne", name := "restore", desc := "()I" } : Jvm.MethodName)) ∈ TB := tb_i 737 (by decide +kernel) (by decide +kernel)
theorem k_738 : (Jvm.Cond.code ({ cls := "ElevenOne", name := "restore", desc := "()I" } : Jvm.MethodName) prog_1_method_24_code (1 : Nat) (Option.some Jvm.ClassFile.FieldType.int)) ∈ TB := tb_i 738 (by decide +kernel) (by decide +kernel)
theorem k_739 : (Jvm.Cond.methodLink "ElevenOneLaw" (118 : Nat) ({ cls := "ElevenOne", name := "count", desc := "(I)I" } : Jvm.MethodName)) ∈ TB := tb_i 739 (by decide +kernel) (by decide +kernel)
theorem k_740 : (Jvm.Cond.instanceMethod ({ cls := "ElevenOne", name := "count", desc := "(I)I" } : Jvm.MethodName)) ∈ TB := tb_i 740 (by decide +kernel) (by decide +kernel)
theorem k_741 : (Jvm.Cond.selects "ElevenOne" ({ cls := "ElevenOne", name := "count", desc := "(I)I" } : Jvm.MethodName) ({ cls := "ElevenOne", name := "count", desc := "(I)I" } : Jvm.MethodName)) ∈ TB := tb_i 741 (by decide +kernel) (by decide +kernel)
theorem k_742 : (Jvm.Cond.code ({ cls := "ElevenOne", name := "count", desc := "(I)I" } : Jvm.MethodName) prog_1_method_25_code (2 : Nat) (Option.some Jvm.ClassFile.FieldType.int)) ∈ TB := tb_i 742 (by decide +kernel) (by decide +kernel)
theorem k_745 : (Jvm.Cond.methodLink "ElevenOneLaw" (122 : Nat) ({ cls := "ElevenOne", name := "keep", desc := "(III)I" } : Jvm.MethodName)) ∈ TB := tb_i 745 (by decide +kernel) (by decide +kernel)
theorem k_746 : (Jvm.Cond.instanceMethod ({ cls := "ElevenOne", name := "keep", desc := "(III)I" } : Jvm.MethodName)) ∈ TB := tb_i 746 (by decide +kernel) (by decide +kernel)
theorem k_747 : (Jvm.Cond.selects "ElevenOne" ({ cls := "ElevenOne", name := "keep", desc := "(III)I" } : Jvm.MethodName) ({ cls := "ElevenOne", name := "keep", desc := "(III)I" } : Jvm.MethodName)) ∈ TB := tb_i 747 (by decide +kernel) (by decide +kernel)
theorem k_748 : (Jvm.Cond.code ({ cls := "ElevenOne", name := "keep", desc := "(III)I" } : Jvm.MethodName) prog_1_method_26_code (6 : Nat) (Option.some Jvm.ClassFile.FieldType.int)) ∈ TB := tb_i 748 (by decide +kernel) (by decide +kernel)
theorem k_753 : (Jvm.Cond.methodLink "ElevenOneLaw" (127 : Nat) ({ cls := "ElevenOne", name := "row", desc := "(III)I" } : Jvm.MethodName)) ∈ TB := tb_i 753 (by decide +kernel) (by decide +kernel)
theorem k_754 : (Jvm.Cond.instanceMethod ({ cls := "ElevenOne", name := "row", desc := "(III)I" } : Jvm.MethodName)) ∈ TB := tb_i 754 (by decide +kernel) (by decide +kernel)
theorem k_755 : (Jvm.Cond.selects "ElevenOne" ({ cls := "ElevenOne", name := "row", desc := "(III)I" } : Jvm.MethodName) ({ cls := "ElevenOne", name := "row", desc := "(III)I" } : Jvm.MethodName)) ∈ TB := tb_i 755 (by decide +kernel) (by decide +kernel)
theorem k_756 : (Jvm.Cond.code ({ cls := "ElevenOne", name := "row", desc := "(III)I" } : Jvm.MethodName) prog_1_method_27_code (5 : Nat) (Option.some Jvm.ClassFile.FieldType.int)) ∈ TB := tb_i 756 (by decide +kernel) (by decide +kernel)
theorem k_761 : (Jvm.Cond.methodLink "ElevenOneLaw" (131 : Nat) ({ cls := "ElevenOne", name := "put", desc := "(III)I" } : Jvm.MethodName)) ∈ TB := tb_i 761 (by decide +kernel) (by decide +kernel)
theorem k_762 : (Jvm.Cond.instanceMethod ({ cls := "ElevenOne", name := "put", desc := "(III)I" } : Jvm.MethodName)) ∈ TB := tb_i 762 (by decide +kernel) (by decide +kernel)
theorem k_763 : (Jvm.Cond.selects "ElevenOne" ({ cls := "ElevenOne", name := "put", desc := "(III)I" } : Jvm.MethodName) ({ cls := "ElevenOne", name := "put", desc := "(III)I" } : Jvm.MethodName)) ∈ TB := tb_i 763 (by decide +kernel) (by decide +kernel)
theorem k_764 : (Jvm.Cond.code ({ cls := "ElevenOne", name := "put", desc := "(III)I" } : Jvm.MethodName) prog_1_method_28_code (5 : Nat) (Option.some Jvm.ClassFile.FieldType.int)) ∈ TB := tb_i 764 (by decide +kernel) (by decide +kernel)
theorem k_774 : (Jvm.Cond.methodLink "ElevenOneLaw" (144 : Nat) ({ cls := "ElevenOne", name := "copy", desc := "(IIIII)I" } : Jvm.MethodName)) ∈ TB := tb_i 774 (by decide +kernel) (by decide +kernel)
theorem k_775 : (Jvm.Cond.instanceMethod ({ cls := "ElevenOne", name := "copy", desc := "(IIIII)I" } : Jvm.MethodName)) ∈ TB := tb_i 775 (by decide +kernel) (by decide +kernel)
theorem k_776 : (Jvm.Cond.selects "ElevenOne" ({ cls := "ElevenOne", name := "copy", desc := "(IIIII)I" } : Jvm.MethodName) ({ cls := "ElevenOne", name := "copy", desc := "(IIIII)I" } : Jvm.MethodName)) ∈ TB := tb_i 776 (by decide +kernel) (by decide +kernel)
theorem k_777 : (Jvm.Cond.code ({ cls := "ElevenOne", name := "copy", desc := "(IIIII)I" } : Jvm.MethodName) prog_1_method_30_code (10 : Nat) (Option.some Jvm.ClassFile.FieldType.int)) ∈ TB := tb_i 777 (by decide +kernel) (by decide +kernel)
theorem k_778 : (Jvm.Cond.methodLink "ElevenOneLaw" (149 : Nat) ({ cls := "ElevenOne", name := "voice", desc := "(I)I" } : Jvm.MethodName)) ∈ TB := tb_i 778 (by decide +kernel) (by decide +kernel)
theorem k_779 : (Jvm.Cond.instanceMethod ({ cls := "ElevenOne", name := "voice", desc := "(I)I" } : Jvm.MethodName)) ∈ TB := tb_i 779 (by decide +kernel) (by decide +kernel)
theorem k_780 : (Jvm.Cond.selects "ElevenOne" ({ cls := "ElevenOne", name := "voice", desc := "(I)I" } : Jvm.MethodName) ({ cls := "ElevenOne", name := "voice", desc := "(I)I" } : Jvm.MethodName)) ∈ TB := tb_i 780 (by decide +kernel) (by decide +kernel)
theorem k_781 : (Jvm.Cond.code ({ cls := "ElevenOne", name := "voice", desc := "(I)I" } : Jvm.MethodName) prog_1_method_31_code (4 : Nat) (Option.some Jvm.ClassFile.FieldType.int)) ∈ TB := tb_i 781 (by decide +kernel) (by decide +kernel)
theorem k_816 : (Jvm.Cond.methodLink "ElevenOneLaw" (153 : Nat) ({ cls := "ElevenOne", name := "toss", desc := "(I)I" } : Jvm.MethodName)) ∈ TB := tb_i 816 (by decide +kernel) (by decide +kernel)
theorem k_817 : (Jvm.Cond.instanceMethod ({ cls := "ElevenOne", name := "toss", desc := "(I)I" } : Jvm.MethodName)) ∈ TB := tb_i 817 (by decide +kernel) (by decide +kernel)
theorem k_818 : (Jvm.Cond.selects "ElevenOne" ({ cls := "ElevenOne", name := "toss", desc := "(I)I" } : Jvm.MethodName) ({ cls := "ElevenOne", name := "toss", desc := "(I)I" } : Jvm.MethodName)) ∈ TB := tb_i 818 (by decide +kernel) (by decide +kernel)
theorem k_819 : (Jvm.Cond.codeWith ({ cls := "ElevenOne", name := "toss", desc := "(I)I" } : Jvm.MethodName) prog_1_method_32_code (5 : Nat) (Option.some Jvm.ClassFile.FieldType.int) [((34 : Nat), (38 : Nat), (41 : Nat), (258 : Nat)), ((34 : Nat), (38 : Nat), (48 : Nat), (251 : Nat)), ((34 : Nat), (38 : Nat), (58 : Nat), (277 : Nat))]) ∈ TB := tb_i 819 (by decide +kernel) (by decide +kernel)
theorem k_941 : (Jvm.Cond.methodLink "ElevenOneLaw" (135 : Nat) ({ cls := "ElevenOneLaw", name := "element", desc := "(LElevenOne;II[J)I" } : Jvm.MethodName)) ∈ TB := tb_i 941 (by decide +kernel) (by decide +kernel)
theorem k_942 : (Jvm.Cond.static ({ cls := "ElevenOneLaw", name := "element", desc := "(LElevenOne;II[J)I" } : Jvm.MethodName)) ∈ TB := tb_i 942 (by decide +kernel) (by decide +kernel)
theorem k_943 : (Jvm.Cond.codeWith ({ cls := "ElevenOneLaw", name := "element", desc := "(LElevenOne;II[J)I" } : Jvm.MethodName) method_3_code (5 : Nat) (Option.some Jvm.ClassFile.FieldType.int) [((0 : Nat), (9 : Nat), (12 : Nat), (13 : Nat)), ((0 : Nat), (9 : Nat), (16 : Nat), (15 : Nat))]) ∈ TB := tb_i 943 (by decide +kernel) (by decide +kernel)
theorem k_954 : (Jvm.Cond.classLink "ElevenOneLaw" (18 : Nat) "ElevenOneModel") ∈ TB := tb_i 954 (by decide +kernel) (by decide +kernel)
theorem k_955 : (Jvm.Cond.instantiable "ElevenOneModel" (30 : Nat)) ∈ TB := tb_i 955 (by decide +kernel) (by decide +kernel)
theorem k_956 : (Jvm.Cond.methodLink "ElevenOneLaw" (20 : Nat) ({ cls := "ElevenOneModel", name := "<init>", desc := "()V" } : Jvm.MethodName)) ∈ TB := tb_i 956 (by decide +kernel) (by decide +kernel)
theorem k_957 : (Jvm.Cond.instanceMethod ({ cls := "ElevenOneModel", name := "<init>", desc := "()V" } : Jvm.MethodName)) ∈ TB := tb_i 957 (by decide +kernel) (by decide +kernel)
theorem k_958 : (Jvm.Cond.code ({ cls := "ElevenOneModel", name := "<init>", desc := "()V" } : Jvm.MethodName) prog_14_method_1_code (1 : Nat) (Option.none : Option Jvm.ClassFile.FieldType)) ∈ TB := tb_i 958 (by decide +kernel) (by decide +kernel)
theorem k_1051 : (Jvm.Cond.methodLink "ElevenOneLaw" (141 : Nat) ({ cls := "ElevenOneModel", name := "thrown", desc := "()I" } : Jvm.MethodName)) ∈ TB := tb_i 1051 (by decide +kernel) (by decide +kernel)
theorem k_1052 : (Jvm.Cond.instanceMethod ({ cls := "ElevenOneModel", name := "thrown", desc := "()I" } : Jvm.MethodName)) ∈ TB := tb_i 1052 (by decide +kernel) (by decide +kernel)
theorem k_1053 : (Jvm.Cond.selects "ElevenOneModel" ({ cls := "ElevenOneModel", name := "thrown", desc := "()I" } : Jvm.MethodName) ({ cls := "ElevenOneModel", name := "thrown", desc := "()I" } : Jvm.MethodName)) ∈ TB := tb_i 1053 (by decide +kernel) (by decide +kernel)
theorem k_1054 : (Jvm.Cond.code ({ cls := "ElevenOneModel", name := "thrown", desc := "()I" } : Jvm.MethodName) prog_14_method_2_code (1 : Nat) (Option.some Jvm.ClassFile.FieldType.int)) ∈ TB := tb_i 1054 (by decide +kernel) (by decide +kernel)
theorem k_1055 : (Jvm.Cond.methodLink "ElevenOneLaw" (25 : Nat) ({ cls := "ElevenOneModel", name := "thing", desc := "(I)I" } : Jvm.MethodName)) ∈ TB := tb_i 1055 (by decide +kernel) (by decide +kernel)
theorem k_1056 : (Jvm.Cond.instanceMethod ({ cls := "ElevenOneModel", name := "thing", desc := "(I)I" } : Jvm.MethodName)) ∈ TB := tb_i 1056 (by decide +kernel) (by decide +kernel)
theorem k_1057 : (Jvm.Cond.selects "ElevenOneModel" ({ cls := "ElevenOneModel", name := "thing", desc := "(I)I" } : Jvm.MethodName) ({ cls := "ElevenOneModel", name := "thing", desc := "(I)I" } : Jvm.MethodName)) ∈ TB := tb_i 1057 (by decide +kernel) (by decide +kernel)
theorem k_1058 : (Jvm.Cond.code ({ cls := "ElevenOneModel", name := "thing", desc := "(I)I" } : Jvm.MethodName) prog_14_method_9_code (2 : Nat) (Option.some Jvm.ClassFile.FieldType.int)) ∈ TB := tb_i 1058 (by decide +kernel) (by decide +kernel)
theorem k_1064 : (Jvm.Cond.methodLink "ElevenOneLaw" (30 : Nat) ({ cls := "ElevenOneModel", name := "juror", desc := "(IIII)I" } : Jvm.MethodName)) ∈ TB := tb_i 1064 (by decide +kernel) (by decide +kernel)
theorem k_1065 : (Jvm.Cond.instanceMethod ({ cls := "ElevenOneModel", name := "juror", desc := "(IIII)I" } : Jvm.MethodName)) ∈ TB := tb_i 1065 (by decide +kernel) (by decide +kernel)
theorem k_1066 : (Jvm.Cond.selects "ElevenOneModel" ({ cls := "ElevenOneModel", name := "juror", desc := "(IIII)I" } : Jvm.MethodName) ({ cls := "ElevenOneModel", name := "juror", desc := "(IIII)I" } : Jvm.MethodName)) ∈ TB := tb_i 1066 (by decide +kernel) (by decide +kernel)
theorem k_1067 : (Jvm.Cond.code ({ cls := "ElevenOneModel", name := "juror", desc := "(IIII)I" } : Jvm.MethodName) prog_14_method_10_code (6 : Nat) (Option.some Jvm.ClassFile.FieldType.int)) ∈ TB := tb_i 1067 (by decide +kernel) (by decide +kernel)
theorem k_1074 : (Jvm.Cond.methodLink "ElevenOneLaw" (35 : Nat) ({ cls := "ElevenOneModel", name := "holds", desc := "(II)I" } : Jvm.MethodName)) ∈ TB := tb_i 1074 (by decide +kernel) (by decide +kernel)
theorem k_1075 : (Jvm.Cond.instanceMethod ({ cls := "ElevenOneModel", name := "holds", desc := "(II)I" } : Jvm.MethodName)) ∈ TB := tb_i 1075 (by decide +kernel) (by decide +kernel)
theorem k_1076 : (Jvm.Cond.selects "ElevenOneModel" ({ cls := "ElevenOneModel", name := "holds", desc := "(II)I" } : Jvm.MethodName) ({ cls := "ElevenOneModel", name := "holds", desc := "(II)I" } : Jvm.MethodName)) ∈ TB := tb_i 1076 (by decide +kernel) (by decide +kernel)
theorem k_1077 : (Jvm.Cond.code ({ cls := "ElevenOneModel", name := "holds", desc := "(II)I" } : Jvm.MethodName) prog_14_method_12_code (3 : Nat) (Option.some Jvm.ClassFile.FieldType.int)) ∈ TB := tb_i 1077 (by decide +kernel) (by decide +kernel)
theorem k_1090 : (Jvm.Cond.methodLink "ElevenOneLaw" (39 : Nat) ({ cls := "ElevenOneModel", name := "of", desc := "(II)I" } : Jvm.MethodName)) ∈ TB := tb_i 1090 (by decide +kernel) (by decide +kernel)
theorem k_1091 : (Jvm.Cond.instanceMethod ({ cls := "ElevenOneModel", name := "of", desc := "(II)I" } : Jvm.MethodName)) ∈ TB := tb_i 1091 (by decide +kernel) (by decide +kernel)
theorem k_1092 : (Jvm.Cond.selects "ElevenOneModel" ({ cls := "ElevenOneModel", name := "of", desc := "(II)I" } : Jvm.MethodName) ({ cls := "ElevenOneModel", name := "of", desc := "(II)I" } : Jvm.MethodName)) ∈ TB := tb_i 1092 (by decide +kernel) (by decide +kernel)
theorem k_1093 : (Jvm.Cond.code ({ cls := "ElevenOneModel", name := "of", desc := "(II)I" } : Jvm.MethodName) prog_14_method_14_code (3 : Nat) (Option.some Jvm.ClassFile.FieldType.int)) ∈ TB := tb_i 1093 (by decide +kernel) (by decide +kernel)
theorem k_1104 : (Jvm.Cond.methodLink "ElevenOneLaw" (47 : Nat) ({ cls := "ElevenOneModel", name := "law", desc := "(I)I" } : Jvm.MethodName)) ∈ TB := tb_i 1104 (by decide +kernel) (by decide +kernel)
theorem k_1105 : (Jvm.Cond.instanceMethod ({ cls := "ElevenOneModel", name := "law", desc := "(I)I" } : Jvm.MethodName)) ∈ TB := tb_i 1105 (by decide +kernel) (by decide +kernel)
theorem k_1106 : (Jvm.Cond.selects "ElevenOneModel" ({ cls := "ElevenOneModel", name := "law", desc := "(I)I" } : Jvm.MethodName) ({ cls := "ElevenOneModel", name := "law", desc := "(I)I" } : Jvm.MethodName)) ∈ TB := tb_i 1106 (by decide +kernel) (by decide +kernel)
theorem k_1107 : (Jvm.Cond.code ({ cls := "ElevenOneModel", name := "law", desc := "(I)I" } : Jvm.MethodName) prog_14_method_23_code (4 : Nat) (Option.some Jvm.ClassFile.FieldType.int)) ∈ TB := tb_i 1107 (by decide +kernel) (by decide +kernel)
theorem k_1145 : (Jvm.Cond.methodLink "ElevenOneLaw" (43 : Nat) ({ cls := "ElevenOneModel", name := "leans", desc := "(I)I" } : Jvm.MethodName)) ∈ TB := tb_i 1145 (by decide +kernel) (by decide +kernel)
theorem k_1146 : (Jvm.Cond.instanceMethod ({ cls := "ElevenOneModel", name := "leans", desc := "(I)I" } : Jvm.MethodName)) ∈ TB := tb_i 1146 (by decide +kernel) (by decide +kernel)
theorem k_1147 : (Jvm.Cond.selects "ElevenOneModel" ({ cls := "ElevenOneModel", name := "leans", desc := "(I)I" } : Jvm.MethodName) ({ cls := "ElevenOneModel", name := "leans", desc := "(I)I" } : Jvm.MethodName)) ∈ TB := tb_i 1147 (by decide +kernel) (by decide +kernel)
theorem k_1148 : (Jvm.Cond.code ({ cls := "ElevenOneModel", name := "leans", desc := "(I)I" } : Jvm.MethodName) prog_14_method_30_code (2 : Nat) (Option.some Jvm.ClassFile.FieldType.int)) ∈ TB := tb_i 1148 (by decide +kernel) (by decide +kernel)
theorem k_1173 : (Jvm.Cond.methodLink "ElevenOneLaw" (51 : Nat) ({ cls := "ElevenOneModel", name := "set", desc := "(II)I" } : Jvm.MethodName)) ∈ TB := tb_i 1173 (by decide +kernel) (by decide +kernel)
theorem k_1174 : (Jvm.Cond.instanceMethod ({ cls := "ElevenOneModel", name := "set", desc := "(II)I" } : Jvm.MethodName)) ∈ TB := tb_i 1174 (by decide +kernel) (by decide +kernel)
theorem k_1175 : (Jvm.Cond.selects "ElevenOneModel" ({ cls := "ElevenOneModel", name := "set", desc := "(II)I" } : Jvm.MethodName) ({ cls := "ElevenOneModel", name := "set", desc := "(II)I" } : Jvm.MethodName)) ∈ TB := tb_i 1175 (by decide +kernel) (by decide +kernel)
theorem k_1176 : (Jvm.Cond.code ({ cls := "ElevenOneModel", name := "set", desc := "(II)I" } : Jvm.MethodName) prog_14_method_31_code (3 : Nat) (Option.some Jvm.ClassFile.FieldType.int)) ∈ TB := tb_i 1176 (by decide +kernel) (by decide +kernel)
theorem k_1181 : (Jvm.Cond.methodLink "ElevenOneLaw" (56 : Nat) ({ cls := "ElevenOneModel", name := "begin", desc := "()I" } : Jvm.MethodName)) ∈ TB := tb_i 1181 (by decide +kernel) (by decide +kernel)
theorem k_1182 : (Jvm.Cond.instanceMethod ({ cls := "ElevenOneModel", name := "begin", desc := "()I" } : Jvm.MethodName)) ∈ TB := tb_i 1182 (by decide +kernel) (by decide +kernel)
theorem k_1183 : (Jvm.Cond.selects "ElevenOneModel" ({ cls := "ElevenOneModel", name := "begin", desc := "()I" } : Jvm.MethodName) ({ cls := "ElevenOneModel", name := "begin", desc := "()I" } : Jvm.MethodName)) ∈ TB := tb_i 1183 (by decide +kernel) (by decide +kernel)
theorem k_1184 : (Jvm.Cond.code ({ cls := "ElevenOneModel", name := "begin", desc := "()I" } : Jvm.MethodName) prog_14_method_48_code (1 : Nat) (Option.some Jvm.ClassFile.FieldType.int)) ∈ TB := tb_i 1184 (by decide +kernel) (by decide +kernel)
theorem k_1209 : (Jvm.Cond.methodLink "ElevenOneLaw" (60 : Nat) ({ cls := "ElevenOneModel", name := "go", desc := "(I)I" } : Jvm.MethodName)) ∈ TB := tb_i 1209 (by decide +kernel) (by decide +kernel)
theorem k_1210 : (Jvm.Cond.instanceMethod ({ cls := "ElevenOneModel", name := "go", desc := "(I)I" } : Jvm.MethodName)) ∈ TB := tb_i 1210 (by decide +kernel) (by decide +kernel)
theorem k_1211 : (Jvm.Cond.selects "ElevenOneModel" ({ cls := "ElevenOneModel", name := "go", desc := "(I)I" } : Jvm.MethodName) ({ cls := "ElevenOneModel", name := "go", desc := "(I)I" } : Jvm.MethodName)) ∈ TB := tb_i 1211 (by decide +kernel) (by decide +kernel)
theorem k_1212 : (Jvm.Cond.code ({ cls := "ElevenOneModel", name := "go", desc := "(I)I" } : Jvm.MethodName) prog_14_method_49_code (3 : Nat) (Option.some Jvm.ClassFile.FieldType.int)) ∈ TB := tb_i 1212 (by decide +kernel) (by decide +kernel)
theorem k_1254 : (Jvm.Cond.methodLink "ElevenOneLaw" (64 : Nat) ({ cls := "ElevenOneModel", name := "talk", desc := "(I)I" } : Jvm.MethodName)) ∈ TB := tb_i 1254 (by decide +kernel) (by decide +kernel)
theorem k_1255 : (Jvm.Cond.instanceMethod ({ cls := "ElevenOneModel", name := "talk", desc := "(I)I" } : Jvm.MethodName)) ∈ TB := tb_i 1255 (by decide +kernel) (by decide +kernel)
theorem k_1256 : (Jvm.Cond.selects "ElevenOneModel" ({ cls := "ElevenOneModel", name := "talk", desc := "(I)I" } : Jvm.MethodName) ({ cls := "ElevenOneModel", name := "talk", desc := "(I)I" } : Jvm.MethodName)) ∈ TB := tb_i 1256 (by decide +kernel) (by decide +kernel)
theorem k_1257 : (Jvm.Cond.code ({ cls := "ElevenOneModel", name := "talk", desc := "(I)I" } : Jvm.MethodName) prog_14_method_50_code (2 : Nat) (Option.some Jvm.ClassFile.FieldType.int)) ∈ TB := tb_i 1257 (by decide +kernel) (by decide +kernel)
theorem k_1258 : (Jvm.Cond.methodLink "ElevenOneLaw" (68 : Nat) ({ cls := "ElevenOneModel", name := "run", desc := "(I)I" } : Jvm.MethodName)) ∈ TB := tb_i 1258 (by decide +kernel) (by decide +kernel)
theorem k_1259 : (Jvm.Cond.instanceMethod ({ cls := "ElevenOneModel", name := "run", desc := "(I)I" } : Jvm.MethodName)) ∈ TB := tb_i 1259 (by decide +kernel) (by decide +kernel)
theorem k_1260 : (Jvm.Cond.selects "ElevenOneModel" ({ cls := "ElevenOneModel", name := "run", desc := "(I)I" } : Jvm.MethodName) ({ cls := "ElevenOneModel", name := "run", desc := "(I)I" } : Jvm.MethodName)) ∈ TB := tb_i 1260 (by decide +kernel) (by decide +kernel)
theorem k_1261 : (Jvm.Cond.code ({ cls := "ElevenOneModel", name := "run", desc := "(I)I" } : Jvm.MethodName) prog_14_method_56_code (3 : Nat) (Option.some Jvm.ClassFile.FieldType.int)) ∈ TB := tb_i 1261 (by decide +kernel) (by decide +kernel)
theorem k_1283 : (Jvm.Cond.methodLink "ElevenOneLaw" (73 : Nat) ({ cls := "ElevenOneModel", name := "slips", desc := "(Z)I" } : Jvm.MethodName)) ∈ TB := tb_i 1283 (by decide +kernel) (by decide +kernel)
theorem k_1284 : (Jvm.Cond.instanceMethod ({ cls := "ElevenOneModel", name := "slips", desc := "(Z)I" } : Jvm.MethodName)) ∈ TB := tb_i 1284 (by decide +kernel) (by decide +kernel)
theorem k_1285 : (Jvm.Cond.selects "ElevenOneModel" ({ cls := "ElevenOneModel", name := "slips", desc := "(Z)I" } : Jvm.MethodName) ({ cls := "ElevenOneModel", name := "slips", desc := "(Z)I" } : Jvm.MethodName)) ∈ TB := tb_i 1285 (by decide +kernel) (by decide +kernel)
theorem k_1286 : (Jvm.Cond.code ({ cls := "ElevenOneModel", name := "slips", desc := "(Z)I" } : Jvm.MethodName) prog_14_method_57_code (3 : Nat) (Option.some Jvm.ClassFile.FieldType.int)) ∈ TB := tb_i 1286 (by decide +kernel) (by decide +kernel)
theorem k_1287 : (Jvm.Cond.methodLink "ElevenOneLaw" (77 : Nat) ({ cls := "ElevenOneModel", name := "moved", desc := "(II)I" } : Jvm.MethodName)) ∈ TB := tb_i 1287 (by decide +kernel) (by decide +kernel)
theorem k_1288 : (Jvm.Cond.instanceMethod ({ cls := "ElevenOneModel", name := "moved", desc := "(II)I" } : Jvm.MethodName)) ∈ TB := tb_i 1288 (by decide +kernel) (by decide +kernel)
theorem k_1289 : (Jvm.Cond.selects "ElevenOneModel" ({ cls := "ElevenOneModel", name := "moved", desc := "(II)I" } : Jvm.MethodName) ({ cls := "ElevenOneModel", name := "moved", desc := "(II)I" } : Jvm.MethodName)) ∈ TB := tb_i 1289 (by decide +kernel) (by decide +kernel)
theorem k_1290 : (Jvm.Cond.code ({ cls := "ElevenOneModel", name := "moved", desc := "(II)I" } : Jvm.MethodName) prog_14_method_58_code (4 : Nat) (Option.some Jvm.ClassFile.FieldType.int)) ∈ TB := tb_i 1290 (by decide +kernel) (by decide +kernel)
theorem k_1292 : (Jvm.Cond.methodLink "ElevenOneLaw" (81 : Nat) ({ cls := "ElevenOneModel", name := "out", desc := "(I)I" } : Jvm.MethodName)) ∈ TB := tb_i 1292 (by decide +kernel) (by decide +kernel)
theorem k_1293 : (Jvm.Cond.instanceMethod ({ cls := "ElevenOneModel", name := "out", desc := "(I)I" } : Jvm.MethodName)) ∈ TB := tb_i 1293 (by decide +kernel) (by decide +kernel)
theorem k_1294 : (Jvm.Cond.selects "ElevenOneModel" ({ cls := "ElevenOneModel", name := "out", desc := "(I)I" } : Jvm.MethodName) ({ cls := "ElevenOneModel", name := "out", desc := "(I)I" } : Jvm.MethodName)) ∈ TB := tb_i 1294 (by decide +kernel) (by decide +kernel)
theorem k_1295 : (Jvm.Cond.code ({ cls := "ElevenOneModel", name := "out", desc := "(I)I" } : Jvm.MethodName) prog_14_method_59_code (3 : Nat) (Option.some Jvm.ClassFile.FieldType.int)) ∈ TB := tb_i 1295 (by decide +kernel) (by decide +kernel)
theorem k_1296 : (Jvm.Cond.methodLink "ElevenOneLaw" (85 : Nat) ({ cls := "ElevenOneModel", name := "one", desc := "()I" } : Jvm.MethodName)) ∈ TB := tb_i 1296 (by decide +kernel) (by decide +kernel)
theorem k_1297 : (Jvm.Cond.instanceMethod ({ cls := "ElevenOneModel", name := "one", desc := "()I" } : Jvm.MethodName)) ∈ TB := tb_i 1297 (by decide +kernel) (by decide +kernel)
theorem k_1298 : (Jvm.Cond.selects "ElevenOneModel" ({ cls := "ElevenOneModel", name := "one", desc := "()I" } : Jvm.MethodName) ({ cls := "ElevenOneModel", name := "one", desc := "()I" } : Jvm.MethodName)) ∈ TB := tb_i 1298 (by decide +kernel) (by decide +kernel)
theorem k_1299 : (Jvm.Cond.code ({ cls := "ElevenOneModel", name := "one", desc := "()I" } : Jvm.MethodName) prog_14_method_60_code (4 : Nat) (Option.some Jvm.ClassFile.FieldType.int)) ∈ TB := tb_i 1299 (by decide +kernel) (by decide +kernel)
theorem k_1300 : (Jvm.Cond.methodLink "ElevenOneLaw" (89 : Nat) ({ cls := "ElevenOneModel", name := "six", desc := "(II)I" } : Jvm.MethodName)) ∈ TB := tb_i 1300 (by decide +kernel) (by decide +kernel)
theorem k_1301 : (Jvm.Cond.instanceMethod ({ cls := "ElevenOneModel", name := "six", desc := "(II)I" } : Jvm.MethodName)) ∈ TB := tb_i 1301 (by decide +kernel) (by decide +kernel)
theorem k_1302 : (Jvm.Cond.selects "ElevenOneModel" ({ cls := "ElevenOneModel", name := "six", desc := "(II)I" } : Jvm.MethodName) ({ cls := "ElevenOneModel", name := "six", desc := "(II)I" } : Jvm.MethodName)) ∈ TB := tb_i 1302 (by decide +kernel) (by decide +kernel)
theorem k_1303 : (Jvm.Cond.code ({ cls := "ElevenOneModel", name := "six", desc := "(II)I" } : Jvm.MethodName) prog_14_method_61_code (4 : Nat) (Option.some Jvm.ClassFile.FieldType.int)) ∈ TB := tb_i 1303 (by decide +kernel) (by decide +kernel)
theorem k_1304 : (Jvm.Cond.methodLink "ElevenOneLaw" (93 : Nat) ({ cls := "ElevenOneModel", name := "lost", desc := "(I)I" } : Jvm.MethodName)) ∈ TB := tb_i 1304 (by decide +kernel) (by decide +kernel)
theorem k_1305 : (Jvm.Cond.instanceMethod ({ cls := "ElevenOneModel", name := "lost", desc := "(I)I" } : Jvm.MethodName)) ∈ TB := tb_i 1305 (by decide +kernel) (by decide +kernel)
theorem k_1306 : (Jvm.Cond.selects "ElevenOneModel" ({ cls := "ElevenOneModel", name := "lost", desc := "(I)I" } : Jvm.MethodName) ({ cls := "ElevenOneModel", name := "lost", desc := "(I)I" } : Jvm.MethodName)) ∈ TB := tb_i 1306 (by decide +kernel) (by decide +kernel)
theorem k_1307 : (Jvm.Cond.code ({ cls := "ElevenOneModel", name := "lost", desc := "(I)I" } : Jvm.MethodName) prog_14_method_62_code (4 : Nat) (Option.some Jvm.ClassFile.FieldType.int)) ∈ TB := tb_i 1307 (by decide +kernel) (by decide +kernel)
theorem k_1308 : (Jvm.Cond.methodLink "ElevenOneLaw" (97 : Nat) ({ cls := "ElevenOneModel", name := "leads", desc := "(I)I" } : Jvm.MethodName)) ∈ TB := tb_i 1308 (by decide +kernel) (by decide +kernel)
theorem k_1309 : (Jvm.Cond.instanceMethod ({ cls := "ElevenOneModel", name := "leads", desc := "(I)I" } : Jvm.MethodName)) ∈ TB := tb_i 1309 (by decide +kernel) (by decide +kernel)
theorem k_1310 : (Jvm.Cond.selects "ElevenOneModel" ({ cls := "ElevenOneModel", name := "leads", desc := "(I)I" } : Jvm.MethodName) ({ cls := "ElevenOneModel", name := "leads", desc := "(I)I" } : Jvm.MethodName)) ∈ TB := tb_i 1310 (by decide +kernel) (by decide +kernel)
theorem k_1311 : (Jvm.Cond.code ({ cls := "ElevenOneModel", name := "leads", desc := "(I)I" } : Jvm.MethodName) prog_14_method_63_code (4 : Nat) (Option.some Jvm.ClassFile.FieldType.int)) ∈ TB := tb_i 1311 (by decide +kernel) (by decide +kernel)
theorem k_1312 : (Jvm.Cond.methodLink "ElevenOneLaw" (101 : Nat) ({ cls := "ElevenOneModel", name := "hands", desc := "()I" } : Jvm.MethodName)) ∈ TB := tb_i 1312 (by decide +kernel) (by decide +kernel)
theorem k_1313 : (Jvm.Cond.instanceMethod ({ cls := "ElevenOneModel", name := "hands", desc := "()I" } : Jvm.MethodName)) ∈ TB := tb_i 1313 (by decide +kernel) (by decide +kernel)
theorem k_1314 : (Jvm.Cond.selects "ElevenOneModel" ({ cls := "ElevenOneModel", name := "hands", desc := "()I" } : Jvm.MethodName) ({ cls := "ElevenOneModel", name := "hands", desc := "()I" } : Jvm.MethodName)) ∈ TB := tb_i 1314 (by decide +kernel) (by decide +kernel)
theorem k_1315 : (Jvm.Cond.code ({ cls := "ElevenOneModel", name := "hands", desc := "()I" } : Jvm.MethodName) prog_14_method_64_code (2 : Nat) (Option.some Jvm.ClassFile.FieldType.int)) ∈ TB := tb_i 1315 (by decide +kernel) (by decide +kernel)
theorem k_1316 : (Jvm.Cond.methodLink "ElevenOneLaw" (105 : Nat) ({ cls := "ElevenOneModel", name := "leftOut", desc := "(I)I" } : Jvm.MethodName)) ∈ TB := tb_i 1316 (by decide +kernel) (by decide +kernel)
theorem k_1317 : (Jvm.Cond.instanceMethod ({ cls := "ElevenOneModel", name := "leftOut", desc := "(I)I" } : Jvm.MethodName)) ∈ TB := tb_i 1317 (by decide +kernel) (by decide +kernel)
theorem k_1318 : (Jvm.Cond.selects "ElevenOneModel" ({ cls := "ElevenOneModel", name := "leftOut", desc := "(I)I" } : Jvm.MethodName) ({ cls := "ElevenOneModel", name := "leftOut", desc := "(I)I" } : Jvm.MethodName)) ∈ TB := tb_i 1318 (by decide +kernel) (by decide +kernel)
theorem k_1319 : (Jvm.Cond.code ({ cls := "ElevenOneModel", name := "leftOut", desc := "(I)I" } : Jvm.MethodName) prog_14_method_66_code (4 : Nat) (Option.some Jvm.ClassFile.FieldType.int)) ∈ TB := tb_i 1319 (by decide +kernel) (by decide +kernel)
theorem k_1327 : (Jvm.Cond.methodLink "ElevenOneLaw" (109 : Nat) ({ cls := "ElevenOneModel", name := "worlds", desc := "(IIII)I" } : Jvm.MethodName)) ∈ TB := tb_i 1327 (by decide +kernel) (by decide +kernel)
theorem k_1328 : (Jvm.Cond.instanceMethod ({ cls := "ElevenOneModel", name := "worlds", desc := "(IIII)I" } : Jvm.MethodName)) ∈ TB := tb_i 1328 (by decide +kernel) (by decide +kernel)
theorem k_1329 : (Jvm.Cond.selects "ElevenOneModel" ({ cls := "ElevenOneModel", name := "worlds", desc := "(IIII)I" } : Jvm.MethodName) ({ cls := "ElevenOneModel", name := "worlds", desc := "(IIII)I" } : Jvm.MethodName)) ∈ TB := tb_i 1329 (by decide +kernel) (by decide +kernel)
theorem k_1330 : (Jvm.Cond.code ({ cls := "ElevenOneModel", name := "worlds", desc := "(IIII)I" } : Jvm.MethodName) prog_14_method_67_code (11 : Nat) (Option.some Jvm.ClassFile.FieldType.int)) ∈ TB := tb_i 1330 (by decide +kernel) (by decide +kernel)
theorem k_1335 : (Jvm.Cond.methodLink "ElevenOneLaw" (113 : Nat) ({ cls := "ElevenOneModel", name := "image", desc := "()I" } : Jvm.MethodName)) ∈ TB := tb_i 1335 (by decide +kernel) (by decide +kernel)
theorem k_1336 : (Jvm.Cond.instanceMethod ({ cls := "ElevenOneModel", name := "image", desc := "()I" } : Jvm.MethodName)) ∈ TB := tb_i 1336 (by decide +kernel) (by decide +kernel)
theorem k_1337 : (Jvm.Cond.selects "ElevenOneModel" ({ cls := "ElevenOneModel", name := "image", desc := "()I" } : Jvm.MethodName) ({ cls := "ElevenOneModel", name := "image", desc := "()I" } : Jvm.MethodName)) ∈ TB := tb_i 1337 (by decide +kernel) (by decide +kernel)
theorem k_1338 : (Jvm.Cond.code ({ cls := "ElevenOneModel", name := "image", desc := "()I" } : Jvm.MethodName) prog_14_method_68_code (2 : Nat) (Option.some Jvm.ClassFile.FieldType.int)) ∈ TB := tb_i 1338 (by decide +kernel) (by decide +kernel)
theorem k_1339 : (Jvm.Cond.methodLink "ElevenOneLaw" (117 : Nat) ({ cls := "ElevenOneModel", name := "restore", desc := "()I" } : Jvm.MethodName)) ∈ TB := tb_i 1339 (by decide +kernel) (by decide +kernel)
theorem k_1340 : (Jvm.Cond.instanceMethod ({ cls := "ElevenOneModel", name := "restore", desc := "()I" } : Jvm.MethodName)) ∈ TB := tb_i 1340 (by decide +kernel) (by decide +kernel)
theorem k_1341 : (Jvm.Cond.selects "ElevenOneModel" ({ cls := "ElevenOneModel", name := "restore", desc := "()I" } : Jvm.MethodName) ({ cls := "ElevenOneModel", name := "restore", desc := "()I" } : Jvm.MethodName)) ∈ TB := tb_i 1341 (by decide +kernel) (by decide +kernel)
theorem k_1342 : (Jvm.Cond.code ({ cls := "ElevenOneModel", name := "restore", desc := "()I" } : Jvm.MethodName) prog_14_method_69_code (2 : Nat) (Option.some Jvm.ClassFile.FieldType.int)) ∈ TB := tb_i 1342 (by decide +kernel) (by decide +kernel)
theorem k_1343 : (Jvm.Cond.methodLink "ElevenOneLaw" (121 : Nat) ({ cls := "ElevenOneModel", name := "count", desc := "(I)I" } : Jvm.MethodName)) ∈ TB := tb_i 1343 (by decide +kernel) (by decide +kernel)
theorem k_1344 : (Jvm.Cond.instanceMethod ({ cls := "ElevenOneModel", name := "count", desc := "(I)I" } : Jvm.MethodName)) ∈ TB := tb_i 1344 (by decide +kernel) (by decide +kernel)
theorem k_1345 : (Jvm.Cond.selects "ElevenOneModel" ({ cls := "ElevenOneModel", name := "count", desc := "(I)I" } : Jvm.MethodName) ({ cls := "ElevenOneModel", name := "count", desc := "(I)I" } : Jvm.MethodName)) ∈ TB := tb_i 1345 (by decide +kernel) (by decide +kernel)
theorem k_1346 : (Jvm.Cond.code ({ cls := "ElevenOneModel", name := "count", desc := "(I)I" } : Jvm.MethodName) prog_14_method_70_code (4 : Nat) (Option.some Jvm.ClassFile.FieldType.int)) ∈ TB := tb_i 1346 (by decide +kernel) (by decide +kernel)
theorem k_1347 : (Jvm.Cond.methodLink "ElevenOneLaw" (126 : Nat) ({ cls := "ElevenOneModel", name := "keep", desc := "(III)I" } : Jvm.MethodName)) ∈ TB := tb_i 1347 (by decide +kernel) (by decide +kernel)
theorem k_1348 : (Jvm.Cond.instanceMethod ({ cls := "ElevenOneModel", name := "keep", desc := "(III)I" } : Jvm.MethodName)) ∈ TB := tb_i 1348 (by decide +kernel) (by decide +kernel)
theorem k_1349 : (Jvm.Cond.selects "ElevenOneModel" ({ cls := "ElevenOneModel", name := "keep", desc := "(III)I" } : Jvm.MethodName) ({ cls := "ElevenOneModel", name := "keep", desc := "(III)I" } : Jvm.MethodName)) ∈ TB := tb_i 1349 (by decide +kernel) (by decide +kernel)
theorem k_1350 : (Jvm.Cond.code ({ cls := "ElevenOneModel", name := "keep", desc := "(III)I" } : Jvm.MethodName) prog_14_method_72_code (5 : Nat) (Option.some Jvm.ClassFile.FieldType.int)) ∈ TB := tb_i 1350 (by decide +kernel) (by decide +kernel)
theorem k_1355 : (Jvm.Cond.methodLink "ElevenOneLaw" (130 : Nat) ({ cls := "ElevenOneModel", name := "row", desc := "(III)I" } : Jvm.MethodName)) ∈ TB := tb_i 1355 (by decide +kernel) (by decide +kernel)
theorem k_1356 : (Jvm.Cond.instanceMethod ({ cls := "ElevenOneModel", name := "row", desc := "(III)I" } : Jvm.MethodName)) ∈ TB := tb_i 1356 (by decide +kernel) (by decide +kernel)
theorem k_1357 : (Jvm.Cond.selects "ElevenOneModel" ({ cls := "ElevenOneModel", name := "row", desc := "(III)I" } : Jvm.MethodName) ({ cls := "ElevenOneModel", name := "row", desc := "(III)I" } : Jvm.MethodName)) ∈ TB := tb_i 1357 (by decide +kernel) (by decide +kernel)
theorem k_1358 : (Jvm.Cond.code ({ cls := "ElevenOneModel", name := "row", desc := "(III)I" } : Jvm.MethodName) prog_14_method_73_code (5 : Nat) (Option.some Jvm.ClassFile.FieldType.int)) ∈ TB := tb_i 1358 (by decide +kernel) (by decide +kernel)
theorem k_1359 : (Jvm.Cond.methodLink "ElevenOneLaw" (134 : Nat) ({ cls := "ElevenOneModel", name := "put", desc := "(III)I" } : Jvm.MethodName)) ∈ TB := tb_i 1359 (by decide +kernel) (by decide +kernel)
theorem k_1360 : (Jvm.Cond.instanceMethod ({ cls := "ElevenOneModel", name := "put", desc := "(III)I" } : Jvm.MethodName)) ∈ TB := tb_i 1360 (by decide +kernel) (by decide +kernel)
theorem k_1361 : (Jvm.Cond.selects "ElevenOneModel" ({ cls := "ElevenOneModel", name := "put", desc := "(III)I" } : Jvm.MethodName) ({ cls := "ElevenOneModel", name := "put", desc := "(III)I" } : Jvm.MethodName)) ∈ TB := tb_i 1361 (by decide +kernel) (by decide +kernel)
theorem k_1362 : (Jvm.Cond.code ({ cls := "ElevenOneModel", name := "put", desc := "(III)I" } : Jvm.MethodName) prog_14_method_74_code (5 : Nat) (Option.some Jvm.ClassFile.FieldType.int)) ∈ TB := tb_i 1362 (by decide +kernel) (by decide +kernel)
theorem k_1363 : (Jvm.Cond.methodLink "ElevenOneLaw" (140 : Nat) ({ cls := "ElevenOneModel", name := "element", desc := "(II)J" } : Jvm.MethodName)) ∈ TB := tb_i 1363 (by decide +kernel) (by decide +kernel)
theorem k_1364 : (Jvm.Cond.instanceMethod ({ cls := "ElevenOneModel", name := "element", desc := "(II)J" } : Jvm.MethodName)) ∈ TB := tb_i 1364 (by decide +kernel) (by decide +kernel)
theorem k_1365 : (Jvm.Cond.selects "ElevenOneModel" ({ cls := "ElevenOneModel", name := "element", desc := "(II)J" } : Jvm.MethodName) ({ cls := "ElevenOneModel", name := "element", desc := "(II)J" } : Jvm.MethodName)) ∈ TB := tb_i 1365 (by decide +kernel) (by decide +kernel)
theorem k_1366 : (Jvm.Cond.code ({ cls := "ElevenOneModel", name := "element", desc := "(II)J" } : Jvm.MethodName) prog_14_method_75_code (3 : Nat) (Option.some Jvm.ClassFile.FieldType.long)) ∈ TB := tb_i 1366 (by decide +kernel) (by decide +kernel)
theorem k_1367 : (Jvm.Cond.methodLink "ElevenOneLaw" (148 : Nat) ({ cls := "ElevenOneModel", name := "copy", desc := "(IIIII)I" } : Jvm.MethodName)) ∈ TB := tb_i 1367 (by decide +kernel) (by decide +kernel)
theorem k_1368 : (Jvm.Cond.instanceMethod ({ cls := "ElevenOneModel", name := "copy", desc := "(IIIII)I" } : Jvm.MethodName)) ∈ TB := tb_i 1368 (by decide +kernel) (by decide +kernel)
theorem k_1369 : (Jvm.Cond.selects "ElevenOneModel" ({ cls := "ElevenOneModel", name := "copy", desc := "(IIIII)I" } : Jvm.MethodName) ({ cls := "ElevenOneModel", name := "copy", desc := "(IIIII)I" } : Jvm.MethodName)) ∈ TB := tb_i 1369 (by decide +kernel) (by decide +kernel)
theorem k_1370 : (Jvm.Cond.code ({ cls := "ElevenOneModel", name := "copy", desc := "(IIIII)I" } : Jvm.MethodName) prog_14_method_76_code (8 : Nat) (Option.some Jvm.ClassFile.FieldType.int)) ∈ TB := tb_i 1370 (by decide +kernel) (by decide +kernel)
theorem k_1371 : (Jvm.Cond.methodLink "ElevenOneLaw" (152 : Nat) ({ cls := "ElevenOneModel", name := "voice", desc := "(I)I" } : Jvm.MethodName)) ∈ TB := tb_i 1371 (by decide +kernel) (by decide +kernel)
theorem k_1372 : (Jvm.Cond.instanceMethod ({ cls := "ElevenOneModel", name := "voice", desc := "(I)I" } : Jvm.MethodName)) ∈ TB := tb_i 1372 (by decide +kernel) (by decide +kernel)
theorem k_1373 : (Jvm.Cond.selects "ElevenOneModel" ({ cls := "ElevenOneModel", name := "voice", desc := "(I)I" } : Jvm.MethodName) ({ cls := "ElevenOneModel", name := "voice", desc := "(I)I" } : Jvm.MethodName)) ∈ TB := tb_i 1373 (by decide +kernel) (by decide +kernel)
theorem k_1374 : (Jvm.Cond.code ({ cls := "ElevenOneModel", name := "voice", desc := "(I)I" } : Jvm.MethodName) prog_14_method_78_code (3 : Nat) (Option.some Jvm.ClassFile.FieldType.int)) ∈ TB := tb_i 1374 (by decide +kernel) (by decide +kernel)
theorem k_1379 : (Jvm.Cond.methodLink "ElevenOneLaw" (156 : Nat) ({ cls := "ElevenOneModel", name := "toss", desc := "(I)I" } : Jvm.MethodName)) ∈ TB := tb_i 1379 (by decide +kernel) (by decide +kernel)
theorem k_1380 : (Jvm.Cond.instanceMethod ({ cls := "ElevenOneModel", name := "toss", desc := "(I)I" } : Jvm.MethodName)) ∈ TB := tb_i 1380 (by decide +kernel) (by decide +kernel)
theorem k_1381 : (Jvm.Cond.selects "ElevenOneModel" ({ cls := "ElevenOneModel", name := "toss", desc := "(I)I" } : Jvm.MethodName) ({ cls := "ElevenOneModel", name := "toss", desc := "(I)I" } : Jvm.MethodName)) ∈ TB := tb_i 1381 (by decide +kernel) (by decide +kernel)
theorem k_1382 : (Jvm.Cond.code ({ cls := "ElevenOneModel", name := "toss", desc := "(I)I" } : Jvm.MethodName) prog_14_method_79_code (3 : Nat) (Option.some Jvm.ClassFile.FieldType.int)) ∈ TB := tb_i 1382 (by decide +kernel) (by decide +kernel)
theorem k_1383 : (Jvm.Cond.arrayClass Jvm.ClassFile.FieldType.long) ∈ TB := tb_i 1383 (by decide +kernel) (by decide +kernel)
theorem dL_law_0 : decode code 0 = .ok (.new 8, 3) := by decide +kernel
theorem dL_law_3 : decode code 3 = .ok (.dup, 1) := by decide +kernel
theorem dL_law_4 : decode code 4 = .ok (.invokespecial 17, 3) := by decide +kernel
theorem dL_law_7 : decode code 7 = .ok (.astore_n 1, 1) := by decide +kernel
theorem dL_law_8 : decode code 8 = .ok (.new 18, 3) := by decide +kernel
theorem dL_law_11 : decode code 11 = .ok (.dup, 1) := by decide +kernel
theorem dL_law_12 : decode code 12 = .ok (.invokespecial 20, 3) := by decide +kernel
theorem dL_law_15 : decode code 15 = .ok (.astore_n 2, 1) := by decide +kernel
theorem dL_law_16 : decode code 16 = .ok (.iconst 1, 1) := by decide +kernel
theorem dL_law_17 : decode code 17 = .ok (.newarray .long, 2) := by decide +kernel
theorem dL_law_19 : decode code 19 = .ok (.astore_n 3, 1) := by decide +kernel
theorem dL_law_20 : decode code 20 = .ok (.iconst 0, 1) := by decide +kernel
theorem dL_law_21 : decode code 21 = .ok (.istore 4, 2) := by decide +kernel
theorem dL_law_23 : decode code 23 = .ok (.iload 4, 2) := by decide +kernel
theorem dL_law_25 : decode code 25 = .ok (.aload_n 0, 1) := by decide +kernel
theorem dL_law_26 : decode code 26 = .ok (.arraylength, 1) := by decide +kernel
theorem dL_law_27 : decode code 27 = .ok (.bipush 6, 2) := by decide +kernel
theorem dL_law_29 : decode code 29 = .ok (.isub, 1) := by decide +kernel
theorem dL_law_30 : decode code 30 = .ok (.if_icmp .gt 1181, 3) := by decide +kernel
theorem dL_law_33 : decode code 33 = .ok (.aload_n 0, 1) := by decide +kernel
theorem dL_law_34 : decode code 34 = .ok (.iload 4, 2) := by decide +kernel
theorem dL_law_36 : decode code 36 = .ok (.iaload, 1) := by decide +kernel
theorem dL_law_37 : decode code 37 = .ok (.bipush 31, 2) := by decide +kernel
theorem dL_law_39 : decode code 39 = .ok (.iand, 1) := by decide +kernel
theorem dL_law_40 : decode code 40 = .ok (.tableswitch 1165 0 30 #[140, 165, 226, 263, 300, 325, 350, 387, 400, 425, 450, 475, 516, 553, 578, 591, 628, 653, 678, 691, 716, 777, 790, 803, 828, 877, 926, 975, 1042, 1115, 1140], 140) := by decide +kernel
theorem dL_law_180 : decode code 180 = .ok (.aload_n 1, 1) := by decide +kernel
theorem dL_law_181 : decode code 181 = .ok (.aload_n 0, 1) := by decide +kernel
theorem dL_law_182 : decode code 182 = .ok (.iload 4, 2) := by decide +kernel
theorem dL_law_184 : decode code 184 = .ok (.iconst 1, 1) := by decide +kernel
theorem dL_law_185 : decode code 185 = .ok (.iadd, 1) := by decide +kernel
theorem dL_law_186 : decode code 186 = .ok (.iaload, 1) := by decide +kernel
theorem dL_law_187 : decode code 187 = .ok (.invokevirtual 21, 3) := by decide +kernel
theorem dL_law_190 : decode code 190 = .ok (.aload_n 2, 1) := by decide +kernel
theorem dL_law_191 : decode code 191 = .ok (.aload_n 0, 1) := by decide +kernel
theorem dL_law_192 : decode code 192 = .ok (.iload 4, 2) := by decide +kernel
theorem dL_law_194 : decode code 194 = .ok (.iconst 1, 1) := by decide +kernel
theorem dL_law_195 : decode code 195 = .ok (.iadd, 1) := by decide +kernel
theorem dL_law_196 : decode code 196 = .ok (.iaload, 1) := by decide +kernel
theorem dL_law_197 : decode code 197 = .ok (.invokevirtual 25, 3) := by decide +kernel
theorem dL_law_200 : decode code 200 = .ok (.if_icmp .eq 1005, 3) := by decide +kernel
theorem dL_law_203 : decode code 203 = .ok (.iconst 0, 1) := by decide +kernel
theorem dL_law_204 : decode code 204 = .ok (.ireturn, 1) := by decide +kernel
theorem dL_law_205 : decode code 205 = .ok (.aload_n 1, 1) := by decide +kernel
theorem dL_law_206 : decode code 206 = .ok (.aload_n 0, 1) := by decide +kernel
theorem dL_law_207 : decode code 207 = .ok (.iload 4, 2) := by decide +kernel
theorem dL_law_209 : decode code 209 = .ok (.iconst 1, 1) := by decide +kernel
theorem dL_law_210 : decode code 210 = .ok (.iadd, 1) := by decide +kernel
theorem dL_law_211 : decode code 211 = .ok (.iaload, 1) := by decide +kernel
theorem dL_law_212 : decode code 212 = .ok (.aload_n 0, 1) := by decide +kernel
theorem dL_law_213 : decode code 213 = .ok (.iload 4, 2) := by decide +kernel
theorem dL_law_215 : decode code 215 = .ok (.iconst 2, 1) := by decide +kernel
theorem dL_law_216 : decode code 216 = .ok (.iadd, 1) := by decide +kernel
theorem dL_law_217 : decode code 217 = .ok (.iaload, 1) := by decide +kernel
theorem dL_law_218 : decode code 218 = .ok (.aload_n 0, 1) := by decide +kernel
theorem dL_law_219 : decode code 219 = .ok (.iload 4, 2) := by decide +kernel
theorem dL_law_221 : decode code 221 = .ok (.iconst 3, 1) := by decide +kernel
theorem dL_law_222 : decode code 222 = .ok (.iadd, 1) := by decide +kernel
theorem dL_law_223 : decode code 223 = .ok (.iaload, 1) := by decide +kernel
theorem dL_law_224 : decode code 224 = .ok (.aload_n 0, 1) := by decide +kernel
theorem dL_law_225 : decode code 225 = .ok (.iload 4, 2) := by decide +kernel
theorem dL_law_227 : decode code 227 = .ok (.iconst 4, 1) := by decide +kernel
theorem dL_law_228 : decode code 228 = .ok (.iadd, 1) := by decide +kernel
theorem dL_law_229 : decode code 229 = .ok (.iaload, 1) := by decide +kernel
theorem dL_law_230 : decode code 230 = .ok (.invokevirtual 26, 3) := by decide +kernel
theorem dL_law_233 : decode code 233 = .ok (.aload_n 2, 1) := by decide +kernel
theorem dL_law_234 : decode code 234 = .ok (.aload_n 0, 1) := by decide +kernel
theorem dL_law_235 : decode code 235 = .ok (.iload 4, 2) := by decide +kernel
theorem dL_law_237 : decode code 237 = .ok (.iconst 1, 1) := by decide +kernel
theorem dL_law_238 : decode code 238 = .ok (.iadd, 1) := by decide +kernel
theorem dL_law_239 : decode code 239 = .ok (.iaload, 1) := by decide +kernel
theorem dL_law_240 : decode code 240 = .ok (.aload_n 0, 1) := by decide +kernel
theorem dL_law_241 : decode code 241 = .ok (.iload 4, 2) := by decide +kernel
theorem dL_law_243 : decode code 243 = .ok (.iconst 2, 1) := by decide +kernel
theorem dL_law_244 : decode code 244 = .ok (.iadd, 1) := by decide +kernel
theorem dL_law_245 : decode code 245 = .ok (.iaload, 1) := by decide +kernel
theorem dL_law_246 : decode code 246 = .ok (.aload_n 0, 1) := by decide +kernel
theorem dL_law_247 : decode code 247 = .ok (.iload 4, 2) := by decide +kernel
theorem dL_law_249 : decode code 249 = .ok (.iconst 3, 1) := by decide +kernel
theorem dL_law_250 : decode code 250 = .ok (.iadd, 1) := by decide +kernel
theorem dL_law_251 : decode code 251 = .ok (.iaload, 1) := by decide +kernel
theorem dL_law_252 : decode code 252 = .ok (.aload_n 0, 1) := by decide +kernel
theorem dL_law_253 : decode code 253 = .ok (.iload 4, 2) := by decide +kernel
theorem dL_law_255 : decode code 255 = .ok (.iconst 4, 1) := by decide +kernel
theorem dL_law_256 : decode code 256 = .ok (.iadd, 1) := by decide +kernel
theorem dL_law_257 : decode code 257 = .ok (.iaload, 1) := by decide +kernel
theorem dL_law_258 : decode code 258 = .ok (.invokevirtual 30, 3) := by decide +kernel
theorem dL_law_261 : decode code 261 = .ok (.if_icmp .eq 944, 3) := by decide +kernel
theorem dL_law_264 : decode code 264 = .ok (.iconst 0, 1) := by decide +kernel
theorem dL_law_265 : decode code 265 = .ok (.ireturn, 1) := by decide +kernel
theorem dL_law_266 : decode code 266 = .ok (.aload_n 1, 1) := by decide +kernel
theorem dL_law_267 : decode code 267 = .ok (.aload_n 0, 1) := by decide +kernel
theorem dL_law_268 : decode code 268 = .ok (.iload 4, 2) := by decide +kernel
theorem dL_law_270 : decode code 270 = .ok (.iconst 1, 1) := by decide +kernel
theorem dL_law_271 : decode code 271 = .ok (.iadd, 1) := by decide +kernel
theorem dL_law_272 : decode code 272 = .ok (.iaload, 1) := by decide +kernel
theorem dL_law_273 : decode code 273 = .ok (.aload_n 0, 1) := by decide +kernel
theorem dL_law_274 : decode code 274 = .ok (.iload 4, 2) := by decide +kernel
theorem dL_law_276 : decode code 276 = .ok (.iconst 2, 1) := by decide +kernel
theorem dL_law_277 : decode code 277 = .ok (.iadd, 1) := by decide +kernel
theorem dL_law_278 : decode code 278 = .ok (.iaload, 1) := by decide +kernel
theorem dL_law_279 : decode code 279 = .ok (.invokevirtual 31, 3) := by decide +kernel
theorem dL_law_282 : decode code 282 = .ok (.aload_n 2, 1) := by decide +kernel
theorem dL_law_283 : decode code 283 = .ok (.aload_n 0, 1) := by decide +kernel
theorem dL_law_284 : decode code 284 = .ok (.iload 4, 2) := by decide +kernel
theorem dL_law_286 : decode code 286 = .ok (.iconst 1, 1) := by decide +kernel
theorem dL_law_287 : decode code 287 = .ok (.iadd, 1) := by decide +kernel
theorem dL_law_288 : decode code 288 = .ok (.iaload, 1) := by decide +kernel
theorem dL_law_289 : decode code 289 = .ok (.aload_n 0, 1) := by decide +kernel
theorem dL_law_290 : decode code 290 = .ok (.iload 4, 2) := by decide +kernel
theorem dL_law_292 : decode code 292 = .ok (.iconst 2, 1) := by decide +kernel
theorem dL_law_293 : decode code 293 = .ok (.iadd, 1) := by decide +kernel
theorem dL_law_294 : decode code 294 = .ok (.iaload, 1) := by decide +kernel
theorem dL_law_295 : decode code 295 = .ok (.invokevirtual 35, 3) := by decide +kernel
theorem dL_law_298 : decode code 298 = .ok (.if_icmp .eq 907, 3) := by decide +kernel
theorem dL_law_301 : decode code 301 = .ok (.iconst 0, 1) := by decide +kernel
theorem dL_law_302 : decode code 302 = .ok (.ireturn, 1) := by decide +kernel
theorem dL_law_303 : decode code 303 = .ok (.aload_n 1, 1) := by decide +kernel
theorem dL_law_304 : decode code 304 = .ok (.aload_n 0, 1) := by decide +kernel
theorem dL_law_305 : decode code 305 = .ok (.iload 4, 2) := by decide +kernel
theorem dL_law_307 : decode code 307 = .ok (.iconst 1, 1) := by decide +kernel
theorem dL_law_308 : decode code 308 = .ok (.iadd, 1) := by decide +kernel
theorem dL_law_309 : decode code 309 = .ok (.iaload, 1) := by decide +kernel
theorem dL_law_310 : decode code 310 = .ok (.aload_n 0, 1) := by decide +kernel
theorem dL_law_311 : decode code 311 = .ok (.iload 4, 2) := by decide +kernel
theorem dL_law_313 : decode code 313 = .ok (.iconst 2, 1) := by decide +kernel
theorem dL_law_314 : decode code 314 = .ok (.iadd, 1) := by decide +kernel
theorem dL_law_315 : decode code 315 = .ok (.iaload, 1) := by decide +kernel
theorem dL_law_316 : decode code 316 = .ok (.invokevirtual 36, 3) := by decide +kernel
theorem dL_law_319 : decode code 319 = .ok (.aload_n 2, 1) := by decide +kernel
theorem dL_law_320 : decode code 320 = .ok (.aload_n 0, 1) := by decide +kernel
theorem dL_law_321 : decode code 321 = .ok (.iload 4, 2) := by decide +kernel
theorem dL_law_323 : decode code 323 = .ok (.iconst 1, 1) := by decide +kernel
theorem dL_law_324 : decode code 324 = .ok (.iadd, 1) := by decide +kernel
theorem dL_law_325 : decode code 325 = .ok (.iaload, 1) := by decide +kernel
theorem dL_law_326 : decode code 326 = .ok (.aload_n 0, 1) := by decide +kernel
theorem dL_law_327 : decode code 327 = .ok (.iload 4, 2) := by decide +kernel
theorem dL_law_329 : decode code 329 = .ok (.iconst 2, 1) := by decide +kernel
theorem dL_law_330 : decode code 330 = .ok (.iadd, 1) := by decide +kernel
theorem dL_law_331 : decode code 331 = .ok (.iaload, 1) := by decide +kernel
theorem dL_law_332 : decode code 332 = .ok (.invokevirtual 39, 3) := by decide +kernel
theorem dL_law_335 : decode code 335 = .ok (.if_icmp .eq 870, 3) := by decide +kernel
theorem dL_law_338 : decode code 338 = .ok (.iconst 0, 1) := by decide +kernel
theorem dL_law_339 : decode code 339 = .ok (.ireturn, 1) := by decide +kernel
theorem dL_law_340 : decode code 340 = .ok (.aload_n 1, 1) := by decide +kernel
theorem dL_law_341 : decode code 341 = .ok (.aload_n 0, 1) := by decide +kernel
theorem dL_law_342 : decode code 342 = .ok (.iload 4, 2) := by decide +kernel
theorem dL_law_344 : decode code 344 = .ok (.iconst 1, 1) := by decide +kernel
theorem dL_law_345 : decode code 345 = .ok (.iadd, 1) := by decide +kernel
theorem dL_law_346 : decode code 346 = .ok (.iaload, 1) := by decide +kernel
theorem dL_law_347 : decode code 347 = .ok (.invokevirtual 40, 3) := by decide +kernel
theorem dL_law_350 : decode code 350 = .ok (.aload_n 2, 1) := by decide +kernel
theorem dL_law_351 : decode code 351 = .ok (.aload_n 0, 1) := by decide +kernel
theorem dL_law_352 : decode code 352 = .ok (.iload 4, 2) := by decide +kernel
theorem dL_law_354 : decode code 354 = .ok (.iconst 1, 1) := by decide +kernel
theorem dL_law_355 : decode code 355 = .ok (.iadd, 1) := by decide +kernel
theorem dL_law_356 : decode code 356 = .ok (.iaload, 1) := by decide +kernel
theorem dL_law_357 : decode code 357 = .ok (.invokevirtual 43, 3) := by decide +kernel
theorem dL_law_360 : decode code 360 = .ok (.if_icmp .eq 845, 3) := by decide +kernel
theorem dL_law_363 : decode code 363 = .ok (.iconst 0, 1) := by decide +kernel
theorem dL_law_364 : decode code 364 = .ok (.ireturn, 1) := by decide +kernel
theorem dL_law_365 : decode code 365 = .ok (.aload_n 1, 1) := by decide +kernel
theorem dL_law_366 : decode code 366 = .ok (.aload_n 0, 1) := by decide +kernel
theorem dL_law_367 : decode code 367 = .ok (.iload 4, 2) := by decide +kernel
theorem dL_law_369 : decode code 369 = .ok (.iconst 1, 1) := by decide +kernel
theorem dL_law_370 : decode code 370 = .ok (.iadd, 1) := by decide +kernel
theorem dL_law_371 : decode code 371 = .ok (.iaload, 1) := by decide +kernel
theorem dL_law_372 : decode code 372 = .ok (.invokevirtual 44, 3) := by decide +kernel
theorem dL_law_375 : decode code 375 = .ok (.aload_n 2, 1) := by decide +kernel
theorem dL_law_376 : decode code 376 = .ok (.aload_n 0, 1) := by decide +kernel
theorem dL_law_377 : decode code 377 = .ok (.iload 4, 2) := by decide +kernel
theorem dL_law_379 : decode code 379 = .ok (.iconst 1, 1) := by decide +kernel
theorem dL_law_380 : decode code 380 = .ok (.iadd, 1) := by decide +kernel
theorem dL_law_381 : decode code 381 = .ok (.iaload, 1) := by decide +kernel
theorem dL_law_382 : decode code 382 = .ok (.invokevirtual 47, 3) := by decide +kernel
theorem dL_law_385 : decode code 385 = .ok (.if_icmp .eq 820, 3) := by decide +kernel
theorem dL_law_388 : decode code 388 = .ok (.iconst 0, 1) := by decide +kernel
theorem dL_law_389 : decode code 389 = .ok (.ireturn, 1) := by decide +kernel
theorem dL_law_390 : decode code 390 = .ok (.aload_n 1, 1) := by decide +kernel
theorem dL_law_391 : decode code 391 = .ok (.aload_n 0, 1) := by decide +kernel
theorem dL_law_392 : decode code 392 = .ok (.iload 4, 2) := by decide +kernel
theorem dL_law_394 : decode code 394 = .ok (.iconst 1, 1) := by decide +kernel
theorem dL_law_395 : decode code 395 = .ok (.iadd, 1) := by decide +kernel
theorem dL_law_396 : decode code 396 = .ok (.iaload, 1) := by decide +kernel
theorem dL_law_397 : decode code 397 = .ok (.aload_n 0, 1) := by decide +kernel
theorem dL_law_398 : decode code 398 = .ok (.iload 4, 2) := by decide +kernel
theorem dL_law_400 : decode code 400 = .ok (.iconst 2, 1) := by decide +kernel
theorem dL_law_401 : decode code 401 = .ok (.iadd, 1) := by decide +kernel
theorem dL_law_402 : decode code 402 = .ok (.iaload, 1) := by decide +kernel
theorem dL_law_403 : decode code 403 = .ok (.invokevirtual 48, 3) := by decide +kernel
theorem dL_law_406 : decode code 406 = .ok (.aload_n 2, 1) := by decide +kernel
theorem dL_law_407 : decode code 407 = .ok (.aload_n 0, 1) := by decide +kernel
theorem dL_law_408 : decode code 408 = .ok (.iload 4, 2) := by decide +kernel
theorem dL_law_410 : decode code 410 = .ok (.iconst 1, 1) := by decide +kernel
theorem dL_law_411 : decode code 411 = .ok (.iadd, 1) := by decide +kernel
theorem dL_law_412 : decode code 412 = .ok (.iaload, 1) := by decide +kernel
theorem dL_law_413 : decode code 413 = .ok (.aload_n 0, 1) := by decide +kernel
theorem dL_law_414 : decode code 414 = .ok (.iload 4, 2) := by decide +kernel
theorem dL_law_416 : decode code 416 = .ok (.iconst 2, 1) := by decide +kernel
theorem dL_law_417 : decode code 417 = .ok (.iadd, 1) := by decide +kernel
theorem dL_law_418 : decode code 418 = .ok (.iaload, 1) := by decide +kernel
theorem dL_law_419 : decode code 419 = .ok (.invokevirtual 51, 3) := by decide +kernel
theorem dL_law_422 : decode code 422 = .ok (.if_icmp .eq 783, 3) := by decide +kernel
theorem dL_law_425 : decode code 425 = .ok (.iconst 0, 1) := by decide +kernel
theorem dL_law_426 : decode code 426 = .ok (.ireturn, 1) := by decide +kernel
theorem dL_law_427 : decode code 427 = .ok (.aload_n 1, 1) := by decide +kernel
theorem dL_law_428 : decode code 428 = .ok (.invokevirtual 52, 3) := by decide +kernel
theorem dL_law_431 : decode code 431 = .ok (.aload_n 2, 1) := by decide +kernel
theorem dL_law_432 : decode code 432 = .ok (.invokevirtual 56, 3) := by decide +kernel
theorem dL_law_435 : decode code 435 = .ok (.if_icmp .eq 770, 3) := by decide +kernel
theorem dL_law_438 : decode code 438 = .ok (.iconst 0, 1) := by decide +kernel
theorem dL_law_439 : decode code 439 = .ok (.ireturn, 1) := by decide +kernel
theorem dL_law_440 : decode code 440 = .ok (.aload_n 1, 1) := by decide +kernel
theorem dL_law_441 : decode code 441 = .ok (.aload_n 0, 1) := by decide +kernel
theorem dL_law_442 : decode code 442 = .ok (.iload 4, 2) := by decide +kernel
theorem dL_law_444 : decode code 444 = .ok (.iconst 1, 1) := by decide +kernel
theorem dL_law_445 : decode code 445 = .ok (.iadd, 1) := by decide +kernel
theorem dL_law_446 : decode code 446 = .ok (.iaload, 1) := by decide +kernel
theorem dL_law_447 : decode code 447 = .ok (.invokevirtual 57, 3) := by decide +kernel
theorem dL_law_450 : decode code 450 = .ok (.aload_n 2, 1) := by decide +kernel
theorem dL_law_451 : decode code 451 = .ok (.aload_n 0, 1) := by decide +kernel
theorem dL_law_452 : decode code 452 = .ok (.iload 4, 2) := by decide +kernel
theorem dL_law_454 : decode code 454 = .ok (.iconst 1, 1) := by decide +kernel
theorem dL_law_455 : decode code 455 = .ok (.iadd, 1) := by decide +kernel
theorem dL_law_456 : decode code 456 = .ok (.iaload, 1) := by decide +kernel
theorem dL_law_457 : decode code 457 = .ok (.invokevirtual 60, 3) := by decide +kernel
theorem dL_law_460 : decode code 460 = .ok (.if_icmp .eq 745, 3) := by decide +kernel
theorem dL_law_463 : decode code 463 = .ok (.iconst 0, 1) := by decide +kernel
theorem dL_law_464 : decode code 464 = .ok (.ireturn, 1) := by decide +kernel
theorem dL_law_465 : decode code 465 = .ok (.aload_n 1, 1) := by decide +kernel
theorem dL_law_466 : decode code 466 = .ok (.aload_n 0, 1) := by decide +kernel
theorem dL_law_467 : decode code 467 = .ok (.iload 4, 2) := by decide +kernel
theorem dL_law_469 : decode code 469 = .ok (.iconst 1, 1) := by decide +kernel
theorem dL_law_470 : decode code 470 = .ok (.iadd, 1) := by decide +kernel
theorem dL_law_471 : decode code 471 = .ok (.iaload, 1) := by decide +kernel
theorem dL_law_472 : decode code 472 = .ok (.invokevirtual 61, 3) := by decide +kernel
theorem dL_law_475 : decode code 475 = .ok (.aload_n 2, 1) := by decide +kernel
theorem dL_law_476 : decode code 476 = .ok (.aload_n 0, 1) := by decide +kernel
theorem dL_law_477 : decode code 477 = .ok (.iload 4, 2) := by decide +kernel
theorem dL_law_479 : decode code 479 = .ok (.iconst 1, 1) := by decide +kernel
theorem dL_law_480 : decode code 480 = .ok (.iadd, 1) := by decide +kernel
theorem dL_law_481 : decode code 481 = .ok (.iaload, 1) := by decide +kernel
theorem dL_law_482 : decode code 482 = .ok (.invokevirtual 64, 3) := by decide +kernel
theorem dL_law_485 : decode code 485 = .ok (.if_icmp .eq 720, 3) := by decide +kernel
theorem dL_law_488 : decode code 488 = .ok (.iconst 0, 1) := by decide +kernel
theorem dL_law_489 : decode code 489 = .ok (.ireturn, 1) := by decide +kernel
theorem dL_law_490 : decode code 490 = .ok (.aload_n 1, 1) := by decide +kernel
theorem dL_law_491 : decode code 491 = .ok (.aload_n 0, 1) := by decide +kernel
theorem dL_law_492 : decode code 492 = .ok (.iload 4, 2) := by decide +kernel
theorem dL_law_494 : decode code 494 = .ok (.iconst 1, 1) := by decide +kernel
theorem dL_law_495 : decode code 495 = .ok (.iadd, 1) := by decide +kernel
