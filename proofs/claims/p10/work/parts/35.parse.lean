theorem w_45 : (Jvm.Cond.selects "ClockForTalkModel" ({ cls := "ClockForTalkModel", name := "number", desc := "(I)I" } : Jvm.MethodName) ({ cls := "ClockForTalkModel", name := "number", desc := "(I)I" } : Jvm.MethodName)) ∈ li_ws := li_mem 45 (by decide +kernel) (by decide +kernel)
theorem w_48 : (Jvm.Cond.selects "ClockForTalkModel" ({ cls := "ClockForTalkModel", name := "need", desc := "(C)V" } : Jvm.MethodName) ({ cls := "ClockForTalkModel", name := "need", desc := "(C)V" } : Jvm.MethodName)) ∈ li_ws := li_mem 48 (by decide +kernel) (by decide +kernel)
theorem w_52 : (Jvm.Cond.selects "ClockForTalkModel" ({ cls := "ClockForTalkModel", name := "held", desc := "(I)I" } : Jvm.MethodName) ({ cls := "ClockForTalkModel", name := "held", desc := "(I)I" } : Jvm.MethodName)) ∈ li_ws := li_mem 52 (by decide +kernel) (by decide +kernel)
theorem w_53 : (Jvm.Cond.selects "ClockForTalkModel" ({ cls := "ClockForTalkModel", name := "sum", desc := "(I)I" } : Jvm.MethodName) ({ cls := "ClockForTalkModel", name := "sum", desc := "(I)I" } : Jvm.MethodName)) ∈ li_ws := li_mem 53 (by decide +kernel) (by decide +kernel)
theorem w_54 : (Jvm.Cond.selects "ClockForTalkModel" ({ cls := "ClockForTalkModel", name := "product", desc := "(I)I" } : Jvm.MethodName) ({ cls := "ClockForTalkModel", name := "product", desc := "(I)I" } : Jvm.MethodName)) ∈ li_ws := li_mem 54 (by decide +kernel) (by decide +kernel)
theorem w_55 : (Jvm.Cond.selects "ClockForTalkModel" ({ cls := "ClockForTalkModel", name := "part", desc := "(I)I" } : Jvm.MethodName) ({ cls := "ClockForTalkModel", name := "part", desc := "(I)I" } : Jvm.MethodName)) ∈ li_ws := li_mem 55 (by decide +kernel) (by decide +kernel)
theorem w_1424 : (Jvm.Cond.fieldLink "ClockForTalkModel" (198 : Nat) "ClockForTalkModel" "isAsked" "Z") ∈ li_ws := li_mem 1424 (by decide +kernel) (by decide +kernel)
theorem w_1425 : (Jvm.Cond.fieldLink "ClockForTalkModel" (38 : Nat) "ClockForTalkModel" "asked" "[I") ∈ li_ws := li_mem 1425 (by decide +kernel) (by decide +kernel)
theorem w_1589 : (Jvm.Cond.methodLink "ClockForTalkModel" (166 : Nat) ({ cls := "ClockForTalkModel", name := "number", desc := "(I)I" } : Jvm.MethodName)) ∈ li_ws := li_mem 1589 (by decide +kernel) (by decide +kernel)
theorem w_1591 : (Jvm.Cond.instanceMethod ({ cls := "ClockForTalkModel", name := "number", desc := "(I)I" } : Jvm.MethodName)) ∈ li_ws := li_mem 1591 (by decide +kernel) (by decide +kernel)
theorem w_1592 : (Jvm.Cond.code ({ cls := "ClockForTalkModel", name := "number", desc := "(I)I" } : Jvm.MethodName) prog_13_method_19_code (4 : Nat) (Option.some Jvm.ClassFile.FieldType.int)) ∈ li_ws := li_mem 1592 (by decide +kernel) (by decide +kernel)
theorem w_1601 : (Jvm.Cond.methodLink "ClockForTalkModel" (170 : Nat) ({ cls := "ClockForTalkModel", name := "need", desc := "(C)V" } : Jvm.MethodName)) ∈ li_ws := li_mem 1601 (by decide +kernel) (by decide +kernel)
theorem w_1603 : (Jvm.Cond.instanceMethod ({ cls := "ClockForTalkModel", name := "need", desc := "(C)V" } : Jvm.MethodName)) ∈ li_ws := li_mem 1603 (by decide +kernel) (by decide +kernel)
theorem w_1604 : (Jvm.Cond.code ({ cls := "ClockForTalkModel", name := "need", desc := "(C)V" } : Jvm.MethodName) prog_13_method_17_code (2 : Nat) (Option.none : Option Jvm.ClassFile.FieldType)) ∈ li_ws := li_mem 1604 (by decide +kernel) (by decide +kernel)
theorem w_1625 : (Jvm.Cond.methodLink "ClockForTalkModel" (192 : Nat) ({ cls := "ClockForTalkModel", name := "held", desc := "(I)I" } : Jvm.MethodName)) ∈ li_ws := li_mem 1625 (by decide +kernel) (by decide +kernel)
theorem w_1627 : (Jvm.Cond.instanceMethod ({ cls := "ClockForTalkModel", name := "held", desc := "(I)I" } : Jvm.MethodName)) ∈ li_ws := li_mem 1627 (by decide +kernel) (by decide +kernel)
theorem w_1628 : (Jvm.Cond.code ({ cls := "ClockForTalkModel", name := "held", desc := "(I)I" } : Jvm.MethodName) prog_13_method_23_code (3 : Nat) (Option.some Jvm.ClassFile.FieldType.int)) ∈ li_ws := li_mem 1628 (by decide +kernel) (by decide +kernel)
theorem w_1629 : (Jvm.Cond.methodLink "ClockForTalkModel" (183 : Nat) ({ cls := "ClockForTalkModel", name := "sum", desc := "(I)I" } : Jvm.MethodName)) ∈ li_ws := li_mem 1629 (by decide +kernel) (by decide +kernel)
theorem w_1631 : (Jvm.Cond.instanceMethod ({ cls := "ClockForTalkModel", name := "sum", desc := "(I)I" } : Jvm.MethodName)) ∈ li_ws := li_mem 1631 (by decide +kernel) (by decide +kernel)
theorem w_1632 : (Jvm.Cond.code ({ cls := "ClockForTalkModel", name := "sum", desc := "(I)I" } : Jvm.MethodName) prog_13_method_24_code (5 : Nat) (Option.some Jvm.ClassFile.FieldType.int)) ∈ li_ws := li_mem 1632 (by decide +kernel) (by decide +kernel)
theorem w_1633 : (Jvm.Cond.methodLink "ClockForTalkModel" (186 : Nat) ({ cls := "ClockForTalkModel", name := "product", desc := "(I)I" } : Jvm.MethodName)) ∈ li_ws := li_mem 1633 (by decide +kernel) (by decide +kernel)
theorem w_1635 : (Jvm.Cond.instanceMethod ({ cls := "ClockForTalkModel", name := "product", desc := "(I)I" } : Jvm.MethodName)) ∈ li_ws := li_mem 1635 (by decide +kernel) (by decide +kernel)
theorem w_1636 : (Jvm.Cond.code ({ cls := "ClockForTalkModel", name := "product", desc := "(I)I" } : Jvm.MethodName) prog_13_method_25_code (5 : Nat) (Option.some Jvm.ClassFile.FieldType.int)) ∈ li_ws := li_mem 1636 (by decide +kernel) (by decide +kernel)
theorem w_1637 : (Jvm.Cond.methodLink "ClockForTalkModel" (189 : Nat) ({ cls := "ClockForTalkModel", name := "part", desc := "(I)I" } : Jvm.MethodName)) ∈ li_ws := li_mem 1637 (by decide +kernel) (by decide +kernel)
theorem w_1639 : (Jvm.Cond.instanceMethod ({ cls := "ClockForTalkModel", name := "part", desc := "(I)I" } : Jvm.MethodName)) ∈ li_ws := li_mem 1639 (by decide +kernel) (by decide +kernel)
theorem w_1640 : (Jvm.Cond.code ({ cls := "ClockForTalkModel", name := "part", desc := "(I)I" } : Jvm.MethodName) prog_13_method_27_code (4 : Nat) (Option.some Jvm.ClassFile.FieldType.int)) ∈ li_ws := li_mem 1640 (by decide +kernel) (by decide +kernel)
theorem w_1641 : (Jvm.Cond.methodLink "ClockForTalkModel" (195 : Nat) ({ cls := "ClockForTalkModel", name := "letterOf", desc := "(I)I" } : Jvm.MethodName)) ∈ li_ws := li_mem 1641 (by decide +kernel) (by decide +kernel)
theorem w_1642 : (Jvm.Cond.static ({ cls := "ClockForTalkModel", name := "letterOf", desc := "(I)I" } : Jvm.MethodName)) ∈ li_ws := li_mem 1642 (by decide +kernel) (by decide +kernel)
theorem w_1643 : (Jvm.Cond.code ({ cls := "ClockForTalkModel", name := "letterOf", desc := "(I)I" } : Jvm.MethodName) prog_13_method_26_code (1 : Nat) (Option.some Jvm.ClassFile.FieldType.int)) ∈ li_ws := li_mem 1643 (by decide +kernel) (by decide +kernel)
theorem dX12_part_0 : decode cX12_part 0 = .ok (.aload_n 0, 1) := by decide +kernel
theorem dX12_part_1 : decode cX12_part 1 = .ok (.bipush 45, 2) := by decide +kernel
theorem dX12_part_3 : decode cX12_part 3 = .ok (.invokevirtual 150, 3) := by decide +kernel
theorem dX12_part_6 : decode cX12_part 6 = .ok (.ifCond .eq 10, 3) := by decide +kernel
theorem dX12_part_9 : decode cX12_part 9 = .ok (.aload_n 0, 1) := by decide +kernel
theorem dX12_part_10 : decode cX12_part 10 = .ok (.iload_n 1, 1) := by decide +kernel
theorem dX12_part_11 : decode cX12_part 11 = .ok (.invokevirtual 189, 3) := by decide +kernel
theorem dX12_part_14 : decode cX12_part 14 = .ok (.ineg, 1) := by decide +kernel
theorem dX12_part_15 : decode cX12_part 15 = .ok (.ireturn, 1) := by decide +kernel
theorem dX12_part_16 : decode cX12_part 16 = .ok (.aload_n 0, 1) := by decide +kernel
theorem dX12_part_17 : decode cX12_part 17 = .ok (.invokevirtual 142, 3) := by decide +kernel
theorem dX12_part_20 : decode cX12_part 20 = .ok (.ifCond .ne 5, 3) := by decide +kernel
theorem dX12_part_23 : decode cX12_part 23 = .ok (.iconst 0, 1) := by decide +kernel
theorem dX12_part_24 : decode cX12_part 24 = .ok (.ireturn, 1) := by decide +kernel
theorem dX12_part_25 : decode cX12_part 25 = .ok (.aload_n 0, 1) := by decide +kernel
theorem dX12_part_26 : decode cX12_part 26 = .ok (.invokevirtual 146, 3) := by decide +kernel
theorem dX12_part_29 : decode cX12_part 29 = .ok (.istore_n 2, 1) := by decide +kernel
theorem dX12_part_30 : decode cX12_part 30 = .ok (.iload_n 2, 1) := by decide +kernel
theorem dX12_part_31 : decode cX12_part 31 = .ok (.bipush 40, 2) := by decide +kernel
theorem dX12_part_33 : decode cX12_part 33 = .ok (.if_icmp .ne 34, 3) := by decide +kernel
theorem dX12_part_36 : decode cX12_part 36 = .ok (.iload_n 1, 1) := by decide +kernel
theorem dX12_part_37 : decode cX12_part 37 = .ok (.iconst 4, 1) := by decide +kernel
theorem dX12_part_38 : decode cX12_part 38 = .ok (.if_icmp .ge 29, 3) := by decide +kernel
theorem dX12_part_41 : decode cX12_part 41 = .ok (.aload_n 0, 1) := by decide +kernel
theorem dX12_part_42 : decode cX12_part 42 = .ok (.dup, 1) := by decide +kernel
theorem dX12_part_43 : decode cX12_part 43 = .ok (.getfield 136, 3) := by decide +kernel
theorem dX12_part_46 : decode cX12_part 46 = .ok (.iconst 1, 1) := by decide +kernel
theorem dX12_part_47 : decode cX12_part 47 = .ok (.iadd, 1) := by decide +kernel
theorem dX12_part_48 : decode cX12_part 48 = .ok (.putfield 136, 3) := by decide +kernel
theorem dX12_part_51 : decode cX12_part 51 = .ok (.aload_n 0, 1) := by decide +kernel
theorem dX12_part_52 : decode cX12_part 52 = .ok (.iload_n 1, 1) := by decide +kernel
theorem dX12_part_53 : decode cX12_part 53 = .ok (.iconst 1, 1) := by decide +kernel
theorem dX12_part_54 : decode cX12_part 54 = .ok (.iadd, 1) := by decide +kernel
theorem dX12_part_55 : decode cX12_part 55 = .ok (.invokevirtual 192, 3) := by decide +kernel
theorem dX12_part_58 : decode cX12_part 58 = .ok (.istore_n 3, 1) := by decide +kernel
theorem dX12_part_59 : decode cX12_part 59 = .ok (.aload_n 0, 1) := by decide +kernel
theorem dX12_part_60 : decode cX12_part 60 = .ok (.bipush 41, 2) := by decide +kernel
theorem dX12_part_62 : decode cX12_part 62 = .ok (.invokevirtual 170, 3) := by decide +kernel
theorem dX12_part_65 : decode cX12_part 65 = .ok (.iload_n 3, 1) := by decide +kernel
theorem dX12_part_66 : decode cX12_part 66 = .ok (.ireturn, 1) := by decide +kernel
theorem dX12_part_67 : decode cX12_part 67 = .ok (.iload_n 2, 1) := by decide +kernel
theorem dX12_part_68 : decode cX12_part 68 = .ok (.bipush 48, 2) := by decide +kernel
theorem dX12_part_70 : decode cX12_part 70 = .ok (.bipush 57, 2) := by decide +kernel
theorem dX12_part_72 : decode cX12_part 72 = .ok (.invokestatic 113, 3) := by decide +kernel
theorem dX12_part_75 : decode cX12_part 75 = .ok (.ifCond .eq 9, 3) := by decide +kernel
theorem dX12_part_78 : decode cX12_part 78 = .ok (.aload_n 0, 1) := by decide +kernel
theorem dX12_part_79 : decode cX12_part 79 = .ok (.iconst 3, 1) := by decide +kernel
theorem dX12_part_80 : decode cX12_part 80 = .ok (.invokevirtual 166, 3) := by decide +kernel
theorem dX12_part_83 : decode cX12_part 83 = .ok (.ireturn, 1) := by decide +kernel
theorem dX12_part_84 : decode cX12_part 84 = .ok (.iload_n 2, 1) := by decide +kernel
theorem dX12_part_85 : decode cX12_part 85 = .ok (.invokestatic 195, 3) := by decide +kernel
theorem dX12_part_88 : decode cX12_part 88 = .ok (.iconst (-1), 1) := by decide +kernel
theorem dX12_part_89 : decode cX12_part 89 = .ok (.if_icmp .ne 13, 3) := by decide +kernel
theorem dX12_part_92 : decode cX12_part 92 = .ok (.aload_n 0, 1) := by decide +kernel
theorem dX12_part_93 : decode cX12_part 93 = .ok (.aload_n 0, 1) := by decide +kernel
theorem dX12_part_94 : decode cX12_part 94 = .ok (.getfield 136, 3) := by decide +kernel
theorem dX12_part_97 : decode cX12_part 97 = .ok (.invokevirtual 154, 3) := by decide +kernel
theorem dX12_part_100 : decode cX12_part 100 = .ok (.iconst 0, 1) := by decide +kernel
theorem dX12_part_101 : decode cX12_part 101 = .ok (.ireturn, 1) := by decide +kernel
theorem dX12_part_102 : decode cX12_part 102 = .ok (.aload_n 0, 1) := by decide +kernel
theorem dX12_part_103 : decode cX12_part 103 = .ok (.dup, 1) := by decide +kernel
theorem dX12_part_104 : decode cX12_part 104 = .ok (.getfield 136, 3) := by decide +kernel
theorem dX12_part_107 : decode cX12_part 107 = .ok (.iconst 1, 1) := by decide +kernel
theorem dX12_part_108 : decode cX12_part 108 = .ok (.iadd, 1) := by decide +kernel
theorem dX12_part_109 : decode cX12_part 109 = .ok (.putfield 136, 3) := by decide +kernel
theorem dX12_part_112 : decode cX12_part 112 = .ok (.aload_n 0, 1) := by decide +kernel
theorem dX12_part_113 : decode cX12_part 113 = .ok (.getfield 198, 3) := by decide +kernel
theorem dX12_part_116 : decode cX12_part 116 = .ok (.ifCond .eq 15, 3) := by decide +kernel
theorem dX12_part_119 : decode cX12_part 119 = .ok (.aload_n 0, 1) := by decide +kernel
theorem dX12_part_120 : decode cX12_part 120 = .ok (.getfield 38, 3) := by decide +kernel
theorem dX12_part_123 : decode cX12_part 123 = .ok (.iload_n 2, 1) := by decide +kernel
theorem dX12_part_124 : decode cX12_part 124 = .ok (.invokestatic 195, 3) := by decide +kernel
theorem dX12_part_127 : decode cX12_part 127 = .ok (.iaload, 1) := by decide +kernel
theorem dX12_part_128 : decode cX12_part 128 = .ok (.goto 4, 3) := by decide +kernel
theorem dX12_part_131 : decode cX12_part 131 = .ok (.iconst 0, 1) := by decide +kernel
theorem dX12_part_132 : decode cX12_part 132 = .ok (.ireturn, 1) := by decide +kernel
abbrev YX12_part : li_Y := (yX12_part, cX12_part, 4, (some .int))
abbrev YX12_held : li_Y := (yX12_held, cX12_held, 3, (some .int))
theorem dX12_product_0 : decode cX12_product 0 = .ok (.aload_n 0, 1) := by decide +kernel
theorem dX12_product_1 : decode cX12_product 1 = .ok (.iload_n 1, 1) := by decide +kernel
theorem dX12_product_2 : decode cX12_product 2 = .ok (.invokevirtual 189, 3) := by decide +kernel
theorem dX12_product_5 : decode cX12_product 5 = .ok (.istore_n 2, 1) := by decide +kernel
theorem dX12_product_6 : decode cX12_product 6 = .ok (.aload_n 0, 1) := by decide +kernel
theorem dX12_product_7 : decode cX12_product 7 = .ok (.invokevirtual 142, 3) := by decide +kernel
theorem dX12_product_10 : decode cX12_product 10 = .ok (.ifCond .eq 81, 3) := by decide +kernel
theorem dX12_product_13 : decode cX12_product 13 = .ok (.aload_n 0, 1) := by decide +kernel
theorem dX12_product_14 : decode cX12_product 14 = .ok (.invokevirtual 146, 3) := by decide +kernel
theorem dX12_product_17 : decode cX12_product 17 = .ok (.bipush 42, 2) := by decide +kernel
theorem dX12_product_19 : decode cX12_product 19 = .ok (.if_icmp .eq 12, 3) := by decide +kernel
theorem dX12_product_22 : decode cX12_product 22 = .ok (.aload_n 0, 1) := by decide +kernel
theorem dX12_product_23 : decode cX12_product 23 = .ok (.invokevirtual 146, 3) := by decide +kernel
theorem dX12_product_26 : decode cX12_product 26 = .ok (.bipush 47, 2) := by decide +kernel
theorem dX12_product_28 : decode cX12_product 28 = .ok (.if_icmp .ne 63, 3) := by decide +kernel
theorem dX12_product_31 : decode cX12_product 31 = .ok (.aload_n 0, 1) := by decide +kernel
theorem dX12_product_32 : decode cX12_product 32 = .ok (.invokevirtual 146, 3) := by decide +kernel
theorem dX12_product_35 : decode cX12_product 35 = .ok (.bipush 42, 2) := by decide +kernel
theorem dX12_product_37 : decode cX12_product 37 = .ok (.if_icmp .ne 7, 3) := by decide +kernel
theorem dX12_product_40 : decode cX12_product 40 = .ok (.iconst 1, 1) := by decide +kernel
theorem dX12_product_41 : decode cX12_product 41 = .ok (.goto 4, 3) := by decide +kernel
theorem dX12_product_44 : decode cX12_product 44 = .ok (.iconst 0, 1) := by decide +kernel
theorem dX12_product_45 : decode cX12_product 45 = .ok (.istore_n 3, 1) := by decide +kernel
theorem dX12_product_46 : decode cX12_product 46 = .ok (.aload_n 0, 1) := by decide +kernel
theorem dX12_product_47 : decode cX12_product 47 = .ok (.dup, 1) := by decide +kernel
theorem dX12_product_48 : decode cX12_product 48 = .ok (.getfield 136, 3) := by decide +kernel
theorem dX12_product_51 : decode cX12_product 51 = .ok (.iconst 1, 1) := by decide +kernel
theorem dX12_product_52 : decode cX12_product 52 = .ok (.iadd, 1) := by decide +kernel
theorem dX12_product_53 : decode cX12_product 53 = .ok (.putfield 136, 3) := by decide +kernel
theorem dX12_product_56 : decode cX12_product 56 = .ok (.aload_n 0, 1) := by decide +kernel
theorem dX12_product_57 : decode cX12_product 57 = .ok (.iload_n 1, 1) := by decide +kernel
theorem dX12_product_58 : decode cX12_product 58 = .ok (.invokevirtual 189, 3) := by decide +kernel
theorem dX12_product_61 : decode cX12_product 61 = .ok (.istore 4, 2) := by decide +kernel
theorem dX12_product_63 : decode cX12_product 63 = .ok (.iload_n 3, 1) := by decide +kernel
theorem dX12_product_64 : decode cX12_product 64 = .ok (.ifCond .eq 10, 3) := by decide +kernel
theorem dX12_product_67 : decode cX12_product 67 = .ok (.iload_n 2, 1) := by decide +kernel
theorem dX12_product_68 : decode cX12_product 68 = .ok (.iload 4, 2) := by decide +kernel
theorem dX12_product_70 : decode cX12_product 70 = .ok (.imul, 1) := by decide +kernel
theorem dX12_product_71 : decode cX12_product 71 = .ok (.goto 16, 3) := by decide +kernel
theorem dX12_product_74 : decode cX12_product 74 = .ok (.iload 4, 2) := by decide +kernel
theorem dX12_product_76 : decode cX12_product 76 = .ok (.ifCond .ne 7, 3) := by decide +kernel
theorem dX12_product_79 : decode cX12_product 79 = .ok (.iconst 0, 1) := by decide +kernel
theorem dX12_product_80 : decode cX12_product 80 = .ok (.goto 7, 3) := by decide +kernel
theorem dX12_product_83 : decode cX12_product 83 = .ok (.iload_n 2, 1) := by decide +kernel
theorem dX12_product_84 : decode cX12_product 84 = .ok (.iload 4, 2) := by decide +kernel
theorem dX12_product_86 : decode cX12_product 86 = .ok (.idiv, 1) := by decide +kernel
theorem dX12_product_87 : decode cX12_product 87 = .ok (.istore_n 2, 1) := by decide +kernel
theorem dX12_product_88 : decode cX12_product 88 = .ok (.goto (-82), 3) := by decide +kernel
theorem dX12_product_91 : decode cX12_product 91 = .ok (.iload_n 2, 1) := by decide +kernel
theorem dX12_product_92 : decode cX12_product 92 = .ok (.ireturn, 1) := by decide +kernel
abbrev YX12_product : li_Y := (yX12_product, cX12_product, 5, (some .int))
theorem dX12_sum_0 : decode cX12_sum 0 = .ok (.aload_n 0, 1) := by decide +kernel
theorem dX12_sum_1 : decode cX12_sum 1 = .ok (.iload_n 1, 1) := by decide +kernel
theorem dX12_sum_2 : decode cX12_sum 2 = .ok (.invokevirtual 186, 3) := by decide +kernel
theorem dX12_sum_5 : decode cX12_sum 5 = .ok (.istore_n 2, 1) := by decide +kernel
theorem dX12_sum_6 : decode cX12_sum 6 = .ok (.aload_n 0, 1) := by decide +kernel
theorem dX12_sum_7 : decode cX12_sum 7 = .ok (.invokevirtual 142, 3) := by decide +kernel
theorem dX12_sum_10 : decode cX12_sum 10 = .ok (.ifCond .eq 72, 3) := by decide +kernel
theorem dX12_sum_13 : decode cX12_sum 13 = .ok (.aload_n 0, 1) := by decide +kernel
theorem dX12_sum_14 : decode cX12_sum 14 = .ok (.invokevirtual 146, 3) := by decide +kernel
theorem dX12_sum_17 : decode cX12_sum 17 = .ok (.bipush 43, 2) := by decide +kernel
theorem dX12_sum_19 : decode cX12_sum 19 = .ok (.if_icmp .eq 12, 3) := by decide +kernel
theorem dX12_sum_22 : decode cX12_sum 22 = .ok (.aload_n 0, 1) := by decide +kernel
theorem dX12_sum_23 : decode cX12_sum 23 = .ok (.invokevirtual 146, 3) := by decide +kernel
theorem dX12_sum_26 : decode cX12_sum 26 = .ok (.bipush 45, 2) := by decide +kernel
theorem dX12_sum_28 : decode cX12_sum 28 = .ok (.if_icmp .ne 54, 3) := by decide +kernel
theorem dX12_sum_31 : decode cX12_sum 31 = .ok (.aload_n 0, 1) := by decide +kernel
theorem dX12_sum_32 : decode cX12_sum 32 = .ok (.invokevirtual 146, 3) := by decide +kernel
theorem dX12_sum_35 : decode cX12_sum 35 = .ok (.bipush 43, 2) := by decide +kernel
theorem dX12_sum_37 : decode cX12_sum 37 = .ok (.if_icmp .ne 7, 3) := by decide +kernel
theorem dX12_sum_40 : decode cX12_sum 40 = .ok (.iconst 1, 1) := by decide +kernel
theorem dX12_sum_41 : decode cX12_sum 41 = .ok (.goto 4, 3) := by decide +kernel
theorem dX12_sum_44 : decode cX12_sum 44 = .ok (.iconst 0, 1) := by decide +kernel
theorem dX12_sum_45 : decode cX12_sum 45 = .ok (.istore_n 3, 1) := by decide +kernel
theorem dX12_sum_46 : decode cX12_sum 46 = .ok (.aload_n 0, 1) := by decide +kernel
theorem dX12_sum_47 : decode cX12_sum 47 = .ok (.dup, 1) := by decide +kernel
theorem dX12_sum_48 : decode cX12_sum 48 = .ok (.getfield 136, 3) := by decide +kernel
theorem dX12_sum_51 : decode cX12_sum 51 = .ok (.iconst 1, 1) := by decide +kernel
theorem dX12_sum_52 : decode cX12_sum 52 = .ok (.iadd, 1) := by decide +kernel
theorem dX12_sum_53 : decode cX12_sum 53 = .ok (.putfield 136, 3) := by decide +kernel
theorem dX12_sum_56 : decode cX12_sum 56 = .ok (.aload_n 0, 1) := by decide +kernel
theorem dX12_sum_57 : decode cX12_sum 57 = .ok (.iload_n 1, 1) := by decide +kernel
theorem dX12_sum_58 : decode cX12_sum 58 = .ok (.invokevirtual 186, 3) := by decide +kernel
theorem dX12_sum_61 : decode cX12_sum 61 = .ok (.istore 4, 2) := by decide +kernel
theorem dX12_sum_63 : decode cX12_sum 63 = .ok (.iload_n 3, 1) := by decide +kernel
theorem dX12_sum_64 : decode cX12_sum 64 = .ok (.ifCond .eq 10, 3) := by decide +kernel
theorem dX12_sum_67 : decode cX12_sum 67 = .ok (.iload_n 2, 1) := by decide +kernel
theorem dX12_sum_68 : decode cX12_sum 68 = .ok (.iload 4, 2) := by decide +kernel
theorem dX12_sum_70 : decode cX12_sum 70 = .ok (.iadd, 1) := by decide +kernel
theorem dX12_sum_71 : decode cX12_sum 71 = .ok (.goto 7, 3) := by decide +kernel
theorem dX12_sum_74 : decode cX12_sum 74 = .ok (.iload_n 2, 1) := by decide +kernel
theorem dX12_sum_75 : decode cX12_sum 75 = .ok (.iload 4, 2) := by decide +kernel
theorem dX12_sum_77 : decode cX12_sum 77 = .ok (.isub, 1) := by decide +kernel
theorem dX12_sum_78 : decode cX12_sum 78 = .ok (.istore_n 2, 1) := by decide +kernel
theorem dX12_sum_79 : decode cX12_sum 79 = .ok (.goto (-73), 3) := by decide +kernel
theorem dX12_sum_82 : decode cX12_sum 82 = .ok (.iload_n 2, 1) := by decide +kernel
theorem dX12_sum_83 : decode cX12_sum 83 = .ok (.ireturn, 1) := by decide +kernel
abbrev YX12_sum : li_Y := (yX12_sum, cX12_sum, 5, (some .int))
theorem dX12_held_0 : decode cX12_held 0 = .ok (.aload_n 0, 1) := by decide +kernel
theorem dX12_held_1 : decode cX12_held 1 = .ok (.iload_n 1, 1) := by decide +kernel
theorem dX12_held_2 : decode cX12_held 2 = .ok (.invokevirtual 183, 3) := by decide +kernel
theorem dX12_held_5 : decode cX12_held 5 = .ok (.istore_n 2, 1) := by decide +kernel
theorem dX12_held_6 : decode cX12_held 6 = .ok (.aload_n 0, 1) := by decide +kernel
theorem dX12_held_7 : decode cX12_held 7 = .ok (.bipush 60, 2) := by decide +kernel
theorem dX12_held_9 : decode cX12_held 9 = .ok (.invokevirtual 150, 3) := by decide +kernel
theorem dX12_held_12 : decode cX12_held 12 = .ok (.ifCond .eq 18, 3) := by decide +kernel
theorem dX12_held_15 : decode cX12_held 15 = .ok (.iload_n 2, 1) := by decide +kernel
theorem dX12_held_16 : decode cX12_held 16 = .ok (.aload_n 0, 1) := by decide +kernel
theorem dX12_held_17 : decode cX12_held 17 = .ok (.iload_n 1, 1) := by decide +kernel
theorem dX12_held_18 : decode cX12_held 18 = .ok (.invokevirtual 183, 3) := by decide +kernel
theorem dX12_held_21 : decode cX12_held 21 = .ok (.if_icmp .ge 7, 3) := by decide +kernel
theorem dX12_held_24 : decode cX12_held 24 = .ok (.iconst 1, 1) := by decide +kernel
theorem dX12_held_25 : decode cX12_held 25 = .ok (.goto 4, 3) := by decide +kernel
theorem dX12_held_28 : decode cX12_held 28 = .ok (.iconst 0, 1) := by decide +kernel
theorem dX12_held_29 : decode cX12_held 29 = .ok (.ireturn, 1) := by decide +kernel
theorem dX12_held_30 : decode cX12_held 30 = .ok (.aload_n 0, 1) := by decide +kernel
theorem dX12_held_31 : decode cX12_held 31 = .ok (.bipush 62, 2) := by decide +kernel
theorem dX12_held_33 : decode cX12_held 33 = .ok (.invokevirtual 150, 3) := by decide +kernel
theorem dX12_held_36 : decode cX12_held 36 = .ok (.ifCond .eq 18, 3) := by decide +kernel
theorem dX12_held_39 : decode cX12_held 39 = .ok (.iload_n 2, 1) := by decide +kernel
theorem dX12_held_40 : decode cX12_held 40 = .ok (.aload_n 0, 1) := by decide +kernel
theorem dX12_held_41 : decode cX12_held 41 = .ok (.iload_n 1, 1) := by decide +kernel
theorem dX12_held_42 : decode cX12_held 42 = .ok (.invokevirtual 183, 3) := by decide +kernel
theorem dX12_held_45 : decode cX12_held 45 = .ok (.if_icmp .le 7, 3) := by decide +kernel
theorem dX12_held_48 : decode cX12_held 48 = .ok (.iconst 1, 1) := by decide +kernel
theorem dX12_held_49 : decode cX12_held 49 = .ok (.goto 4, 3) := by decide +kernel
theorem dX12_held_52 : decode cX12_held 52 = .ok (.iconst 0, 1) := by decide +kernel
theorem dX12_held_53 : decode cX12_held 53 = .ok (.ireturn, 1) := by decide +kernel
theorem dX12_held_54 : decode cX12_held 54 = .ok (.aload_n 0, 1) := by decide +kernel
theorem dX12_held_55 : decode cX12_held 55 = .ok (.bipush 61, 2) := by decide +kernel
theorem dX12_held_57 : decode cX12_held 57 = .ok (.invokevirtual 150, 3) := by decide +kernel
theorem dX12_held_60 : decode cX12_held 60 = .ok (.ifCond .eq 18, 3) := by decide +kernel
theorem dX12_held_63 : decode cX12_held 63 = .ok (.iload_n 2, 1) := by decide +kernel
theorem dX12_held_64 : decode cX12_held 64 = .ok (.aload_n 0, 1) := by decide +kernel
theorem dX12_held_65 : decode cX12_held 65 = .ok (.iload_n 1, 1) := by decide +kernel
theorem dX12_held_66 : decode cX12_held 66 = .ok (.invokevirtual 183, 3) := by decide +kernel
theorem dX12_held_69 : decode cX12_held 69 = .ok (.if_icmp .ne 7, 3) := by decide +kernel
theorem dX12_held_72 : decode cX12_held 72 = .ok (.iconst 1, 1) := by decide +kernel
theorem dX12_held_73 : decode cX12_held 73 = .ok (.goto 4, 3) := by decide +kernel
theorem dX12_held_76 : decode cX12_held 76 = .ok (.iconst 0, 1) := by decide +kernel
theorem dX12_held_77 : decode cX12_held 77 = .ok (.ireturn, 1) := by decide +kernel
theorem dX12_held_78 : decode cX12_held 78 = .ok (.iload_n 2, 1) := by decide +kernel
theorem dX12_held_79 : decode cX12_held 79 = .ok (.ireturn, 1) := by decide +kernel
set_option maxRecDepth 100000 in
set_option maxHeartbeats 4000000 in
theorem k_X12_part {l : Launch} {Z : li_Z} (d : Nat) (hd : 5 ≤ d) (p1 : Int32) (dE : Nat) (hE : dE + 1 ≤ d) (M0 : li_M) (hJ : li_J M0) (IHp : ∀ (q : Int32) (M : li_M), li_J M → (M0.1 175 14).toInt + 1 ≤ (M.1 175 14).toInt → li_Met l Z YX12_part dE [.ref (Z.2.2 175), .int q] M (fun r M' => (∃ x : Int32, r = some (.int x) ∧ (M.1 175 14).toInt ≤ (M'.1 175 14).toInt ∧ ((M.1 175 14).toInt ≤ (M.1 175 13).toInt → (M'.1 175 14).toInt ≤ (M.1 175 13).toInt)) ∧ li_fs (fun i k => (i = 175 ∧ k = 14) ∨ (i = 175 ∧ k = 15)) M M' ∧ li_J M')) (IHh : ∀ (q : Int32) (M : li_M), li_J M → (M0.1 175 14).toInt + 1 ≤ (M.1 175 14).toInt → li_Met l Z YX12_held dE [.ref (Z.2.2 175), .int q] M (fun r M' => (∃ x : Int32, r = some (.int x) ∧ (M.1 175 14).toInt ≤ (M'.1 175 14).toInt ∧ ((M.1 175 14).toInt ≤ (M.1 175 13).toInt → (M'.1 175 14).toInt ≤ (M.1 175 13).toInt)) ∧ li_fs (fun i k => (i = 175 ∧ k = 14) ∨ (i = 175 ∧ k = 15)) M M' ∧ li_J M')) : li_Met l Z YX12_part d [.ref (Z.2.2 175), .int p1] M0 (fun r M' => (∃ x : Int32, r = some (.int x) ∧ ((M0.1 175 14).toInt ≤ (M'.1 175 14).toInt ∧ ((M0.1 175 14).toInt ≤ (M0.1 175 13).toInt → (M'.1 175 14).toInt ≤ (M0.1 175 13).toInt))) ∧ li_fs (fun i k => (i = 175 ∧ k = 14) ∨ (i = 175 ∧ k = 15)) M0 M' ∧ li_J M') := by
  refine li_enter (by decide +kernel) (Nat.le_of_ble_eq_true rfl) ?_
  show li_T l Z YX12_part d 0 [(0, .ref (Z.2.2 175)), (1, .int p1)] [] M0 _
  have hf : li_fs (fun i k => (i = 175 ∧ k = 14) ∨ (i = 175 ∧ k = 15)) M0 M0 := li_fs_refl
  have gp1 := tl_rg p1
  have rM0_12 := J_sl12 (M := M0) hJ
  have rM0_13 := J_sl13 (M := M0) hJ
  have rM0_14 := J_sl14 (M := M0) hJ
  have rM0_15 := J_sl15 (M := M0) hJ
  refine li_aload_n 0 dX12_part_0 rfl ?_
  refine li_bipush 45 dX12_part_1 (by decide) ?_
  have z45 : (45 : Int32).toInt = 45 := rfl
  refine li_callV (n := 1) (As := [.int 45]) dX12_part_3 (k_X12_passes (d - 1) (by omega) 45 M0 hJ (by omega)) (by omega) (Nat.le_of_ble_eq_true rfl) w_1605 w_1607 w_49 w_112 w_1608 (by decide +kernel) rfl (by decide) sh_175 rfl rfl (Nat.le_of_ble_eq_true rfl) (fun r M2 h3 => ?_)
  obtain ⟨qx1, h3, jM2⟩ := h3
  have hf := li_fs_trans hf h3 (fun i k => fun h => Or.inl h)
  have hJ := jM2
  have rM2_12 := J_sl12 (M := M2) hJ
  have rM2_13 := J_sl13 (M := M2) hJ
  have rM2_14 := J_sl14 (M := M2) hJ
  have rM2_15 := J_sl15 (M := M2) hJ
  have mM2_12 : (M2.1 175 12).toInt = (M0.1 175 12).toInt := tl_slot (h3.1 175 12 (show ¬ ((175 = 175 ∧ 12 = 14)) by decide))
  have mM2_13 : (M2.1 175 13).toInt = (M0.1 175 13).toInt := tl_slot (h3.1 175 13 (show ¬ ((175 = 175 ∧ 13 = 14)) by decide))
  have mM2_15 : (M2.1 175 15).toInt = (M0.1 175 15).toInt := tl_slot (h3.1 175 15 (show ¬ ((175 = 175 ∧ 15 = 14)) by decide))
  rcases qx1 with ⟨rfl, qx1⟩ | ⟨rfl, qx1⟩
  · skip
    refine li_if_eq 16 dX12_part_6 (by decide) (fun c => absurd c (by decide)) (fun c => ?_)
    refine li_aload_n 0 dX12_part_9 rfl ?_
    refine li_iload_n 1 dX12_part_10 rfl ?_
    refine li_callV (n := 1) (As := [.int p1]) dX12_part_11 (IHp p1 M2 hJ (by omega)) (by omega) (Nat.le_of_ble_eq_true rfl) w_1637 w_1639 w_55 w_112 w_1640 (by decide +kernel) rfl (by decide) sh_175 rfl rfl (Nat.le_of_ble_eq_true rfl) (fun r M6 h7 => ?_)
    obtain ⟨⟨x5, rfl, qx5⟩, h7, jM6⟩ := h7
    have gx5 := tl_rg x5
    have hf := li_fs_trans hf h7 (fun i k => fun h => Or.elim h (fun h => Or.inl h) (fun h => Or.inr h))
    have hJ := jM6
    have rM6_12 := J_sl12 (M := M6) hJ
    have rM6_13 := J_sl13 (M := M6) hJ
    have rM6_14 := J_sl14 (M := M6) hJ
    have rM6_15 := J_sl15 (M := M6) hJ
    have mM6_12 : (M6.1 175 12).toInt = (M2.1 175 12).toInt := tl_slot (h7.1 175 12 (show ¬ ((175 = 175 ∧ 12 = 14) ∨ (175 = 175 ∧ 12 = 15)) by decide))
    have mM6_13 : (M6.1 175 13).toInt = (M2.1 175 13).toInt := tl_slot (h7.1 175 13 (show ¬ ((175 = 175 ∧ 13 = 14) ∨ (175 = 175 ∧ 13 = 15)) by decide))
    refine li_ineg dX12_part_14 ?_
    refine li_top (fun x8 ex8 => ?_)
    try (have tx8 : x8.toInt = -(x5 : Int32).toInt := tl_neg ex8 (by omega))
    exact li_iret dX12_part_15 rfl rfl ⟨⟨_, rfl, (by first | omega | (intro _; omega) | (refine ⟨?_, ?_⟩ <;> first | omega | (intro _; omega)) | (refine ⟨?_, ?_, ?_, ?_⟩ <;> first | omega | (intro _; omega)))⟩, hf, hJ⟩
  · skip
    refine li_if_eq 16 dX12_part_6 (by decide) (fun c => ?_) (fun c => absurd rfl c)
    refine li_aload_n 0 dX12_part_16 rfl ?_
    refine li_callV (n := 0) (As := []) dX12_part_17 (k_X12_fine (d - 1) (by omega)  M2 hJ ) (by omega) (Nat.le_of_ble_eq_true rfl) w_1581 w_1583 w_43 w_112 w_1584 (by decide +kernel) rfl (by decide) sh_175 rfl rfl (Nat.le_of_ble_eq_true rfl) (fun r M11 h12 => ?_)
    obtain ⟨qx10, h12, jM11⟩ := h12
    have hf := li_fs_trans hf h12 (fun i k h => False.elim h)
    have kM11 : (li_hr M11).toInt = (li_hr M2).toInt := li_hr_fs h12 id id id id (fun _ _ _ => id) (by assumption)
    have hJ := jM11
    have rM11_12 := J_sl12 (M := M11) hJ
    have rM11_13 := J_sl13 (M := M11) hJ
    have rM11_14 := J_sl14 (M := M11) hJ
    have rM11_15 := J_sl15 (M := M11) hJ
    have mM11_12 : (M11.1 175 12).toInt = (M2.1 175 12).toInt := tl_slot (h12.1 175 12 id)
    have mM11_13 : (M11.1 175 13).toInt = (M2.1 175 13).toInt := tl_slot (h12.1 175 13 id)
    have mM11_14 : (M11.1 175 14).toInt = (M2.1 175 14).toInt := tl_slot (h12.1 175 14 id)
    have mM11_15 : (M11.1 175 15).toInt = (M2.1 175 15).toInt := tl_slot (h12.1 175 15 id)
    rcases qx10 with ⟨rfl, qx10⟩ | ⟨rfl, qx10⟩
    · skip
      refine li_if_ne 25 dX12_part_20 (by decide) (fun c => ?_) (fun c => absurd c (by decide))
      refine li_aload_n 0 dX12_part_25 rfl ?_
      refine li_callV (n := 0) (As := []) dX12_part_26 (k_X12_here (d - 1) (by omega)  M11 hJ ) (by omega) (Nat.le_of_ble_eq_true rfl) w_1597 w_1599 w_47 w_112 w_1600 (by decide +kernel) rfl (by decide) sh_175 rfl rfl (Nat.le_of_ble_eq_true rfl) (fun r M15 h16 => ?_)
      obtain ⟨⟨x14, rfl, qx14⟩, h16, jM15⟩ := h16
      have gx14 := tl_rg x14
      have hf := li_fs_trans hf h16 (fun i k h => False.elim h)
      have kM15 : (li_hr M15).toInt = (li_hr M11).toInt := li_hr_fs h16 id id id id (fun _ _ _ => id) (by assumption)
      have hJ := jM15
      have rM15_12 := J_sl12 (M := M15) hJ
      have rM15_13 := J_sl13 (M := M15) hJ
      have rM15_14 := J_sl14 (M := M15) hJ
      have rM15_15 := J_sl15 (M := M15) hJ
      have mM15_12 : (M15.1 175 12).toInt = (M11.1 175 12).toInt := tl_slot (h16.1 175 12 id)
      have mM15_13 : (M15.1 175 13).toInt = (M11.1 175 13).toInt := tl_slot (h16.1 175 13 id)
      have mM15_14 : (M15.1 175 14).toInt = (M11.1 175 14).toInt := tl_slot (h16.1 175 14 id)
      have mM15_15 : (M15.1 175 15).toInt = (M11.1 175 15).toInt := tl_slot (h16.1 175 15 id)
      refine li_istore_n [(2, .int x14), (0, .ref (Z.2.2 175)), (1, .int p1)] dX12_part_29 (by decide) rfl ?_
      refine li_iload_n 0 dX12_part_30 rfl ?_
      refine li_bipush 40 dX12_part_31 (by decide) ?_
      refine li_icmp_ne 67 dX12_part_33 (by decide) (fun c17 => ?_) (fun c17 => ?_)
      · have tc17 : ¬ x14.toInt = 40 := tl_ne c17
        refine li_iload_n 0 dX12_part_67 rfl ?_
        refine li_bipush 48 dX12_part_68 (by decide) ?_
        refine li_bipush 57 dX12_part_70 (by decide) ?_
        have z48 : (48 : Int32).toInt = 48 := rfl
        have z57 : (57 : Int32).toInt = 57 := rfl
        refine li_callS (n := 3) (As := [.int x14, .int 48, .int 57]) dX12_part_72 (k_X12_in (d - 1) (by omega) x14 48 57 M15 hJ ) (by omega) (Nat.le_of_ble_eq_true rfl) w_1570 w_1571 w_112 w_1572 (by decide +kernel) rfl rfl (Nat.le_of_ble_eq_true rfl) (fun r M19 h20 => ?_)
        obtain ⟨qx18, h20, jM19⟩ := h20
        have hf := li_fs_trans hf h20 (fun i k h => False.elim h)
        have kM19 : (li_hr M19).toInt = (li_hr M15).toInt := li_hr_fs h20 id id id id (fun _ _ _ => id) (by assumption)
        have hJ := jM19
        have rM19_12 := J_sl12 (M := M19) hJ
        have rM19_13 := J_sl13 (M := M19) hJ
        have rM19_14 := J_sl14 (M := M19) hJ
        have rM19_15 := J_sl15 (M := M19) hJ
        have mM19_12 : (M19.1 175 12).toInt = (M15.1 175 12).toInt := tl_slot (h20.1 175 12 id)
        have mM19_13 : (M19.1 175 13).toInt = (M15.1 175 13).toInt := tl_slot (h20.1 175 13 id)
        have mM19_14 : (M19.1 175 14).toInt = (M15.1 175 14).toInt := tl_slot (h20.1 175 14 id)
        have mM19_15 : (M19.1 175 15).toInt = (M15.1 175 15).toInt := tl_slot (h20.1 175 15 id)
        rcases qx18 with ⟨rfl, qx18⟩ | ⟨rfl, qx18⟩
        · skip
          refine li_if_eq 84 dX12_part_75 (by decide) (fun c => absurd c (by decide)) (fun c => ?_)
          refine li_aload_n 1 dX12_part_78 rfl ?_
          refine li_iconst 3 dX12_part_79 (by decide) ?_
          have z3 : (3 : Int32).toInt = 3 := rfl
          refine li_callV (n := 1) (As := [.int 3]) dX12_part_80 (k_X12_number (d - 1) (by omega) 3 M19 hJ ) (by omega) (Nat.le_of_ble_eq_true rfl) w_1589 w_1591 w_45 w_112 w_1592 (by decide +kernel) rfl (by decide) sh_175 rfl rfl (Nat.le_of_ble_eq_true rfl) (fun r M23 h24 => ?_)
          obtain ⟨⟨x22, rfl, qx22⟩, h24, jM23⟩ := h24
          have gx22 := tl_rg x22
          have hf := li_fs_trans hf h24 (fun i k => fun h => Or.elim h (fun h => Or.inl h) (fun h => Or.inr h))
          have hJ := jM23
          have rM23_12 := J_sl12 (M := M23) hJ
          have rM23_13 := J_sl13 (M := M23) hJ
          have rM23_14 := J_sl14 (M := M23) hJ
          have rM23_15 := J_sl15 (M := M23) hJ
          have mM23_12 : (M23.1 175 12).toInt = (M19.1 175 12).toInt := tl_slot (h24.1 175 12 (show ¬ ((175 = 175 ∧ 12 = 14) ∨ (175 = 175 ∧ 12 = 15)) by decide))
          have mM23_13 : (M23.1 175 13).toInt = (M19.1 175 13).toInt := tl_slot (h24.1 175 13 (show ¬ ((175 = 175 ∧ 13 = 14) ∨ (175 = 175 ∧ 13 = 15)) by decide))
          exact li_iret dX12_part_83 rfl rfl ⟨⟨_, rfl, (by first | omega | (intro _; omega) | (refine ⟨?_, ?_⟩ <;> first | omega | (intro _; omega)) | (refine ⟨?_, ?_, ?_, ?_⟩ <;> first | omega | (intro _; omega)))⟩, hf, hJ⟩
        · skip
          refine li_if_eq 84 dX12_part_75 (by decide) (fun c => ?_) (fun c => absurd rfl c)
          refine li_iload_n 0 dX12_part_84 rfl ?_
          refine li_callS (n := 1) (As := [.int x14]) dX12_part_85 (k_X12_letterOf (d - 1) (by omega) x14 M19 hJ ) (by omega) (Nat.le_of_ble_eq_true rfl) w_1641 w_1642 w_112 w_1643 (by decide +kernel) rfl rfl (Nat.le_of_ble_eq_true rfl) (fun r M27 h28 => ?_)
          obtain ⟨⟨x26, rfl, qx26⟩, h28, jM27⟩ := h28
          have gx26 := tl_rg x26
          have hf := li_fs_trans hf h28 (fun i k h => False.elim h)
          have kM27 : (li_hr M27).toInt = (li_hr M19).toInt := li_hr_fs h28 id id id id (fun _ _ _ => id) (by assumption)
          have hJ := jM27
          have rM27_12 := J_sl12 (M := M27) hJ
          have rM27_13 := J_sl13 (M := M27) hJ
          have rM27_14 := J_sl14 (M := M27) hJ
          have rM27_15 := J_sl15 (M := M27) hJ
          have mM27_12 : (M27.1 175 12).toInt = (M19.1 175 12).toInt := tl_slot (h28.1 175 12 id)
          have mM27_13 : (M27.1 175 13).toInt = (M19.1 175 13).toInt := tl_slot (h28.1 175 13 id)
          have mM27_14 : (M27.1 175 14).toInt = (M19.1 175 14).toInt := tl_slot (h28.1 175 14 id)
          have mM27_15 : (M27.1 175 15).toInt = (M19.1 175 15).toInt := tl_slot (h28.1 175 15 id)
          refine li_iconst (-1) dX12_part_88 (by decide) ?_
          refine li_icmp_ne 102 dX12_part_89 (by decide) (fun c29 => ?_) (fun c29 => ?_)
          · have tc29 : ¬ x26.toInt = (-1) := tl_ne c29
            refine li_aload_n 1 dX12_part_102 rfl ?_
            refine li_dup dX12_part_103 rfl ?_
            refine li_geti (k := 14) (N := 52) (T := TX12) (C0 := RX12) dX12_part_104 (by decide) sh_175 rfl rfl (by decide) li_in12 w_1418 ?_
            refine li_top (fun x30 ex30 => ?_)
            have gx30 : 0 ≤ x30.toInt ∧ x30.toInt ≤ 81 := by rw [ex30]; exact J_sl14 hJ
            have mx30 : x30.toInt = (M27.1 175 14).toInt := tl_slot ex30
            refine li_iconst 1 dX12_part_107 (by decide) ?_
            refine li_iadd dX12_part_108 ?_
            refine li_top (fun x31 ex31 => ?_)
            have z1 : (1 : Int32).toInt = 1 := rfl
            try (have tx31 : x31.toInt = (x30 : Int32).toInt + (1 : Int32).toInt := tl_add ex31 (by omega))
            refine li_puti (k := 14) (N := 52) (T := TX12) (C0 := RX12) dX12_part_109 (by decide) sh_175 rfl rfl (by decide) li_in12 tyX12_ok nmX12 rfl rfl rfl rfl w_1418 ?_
            refine li_nm (fun M32 eM32 => ?_)
            have hf := li_fs_ui hf (Or.inl ⟨rfl, rfl⟩) eM32
            have hJ := J_pt14 hJ (show 0 ≤ (x31 : Int32).toInt ∧ (x31 : Int32).toInt ≤ 81 by omega) eM32
            have rM32_12 := J_sl12 (M := M32) hJ
            have rM32_13 := J_sl13 (M := M32) hJ
            have rM32_14 := J_sl14 (M := M32) hJ
            have rM32_15 := J_sl15 (M := M32) hJ
            have mM32_12 : (M32.1 175 12).toInt = (M27.1 175 12).toInt := by rw [eM32, li_ui_at, if_pos rfl, if_neg (by decide)]
            have mM32_13 : (M32.1 175 13).toInt = (M27.1 175 13).toInt := by rw [eM32, li_ui_at, if_pos rfl, if_neg (by decide)]
            have mM32_14 : (M32.1 175 14).toInt = x31.toInt := by rw [eM32, li_ui_at, if_pos rfl, if_pos rfl]
            have mM32_15 : (M32.1 175 15).toInt = (M27.1 175 15).toInt := by rw [eM32, li_ui_at, if_pos rfl, if_neg (by decide)]
            refine li_aload_n 1 dX12_part_112 rfl ?_
            refine li_geti (k := 20) (N := 52) (T := TX12) (C0 := RX12) dX12_part_113 (by decide) sh_175 rfl rfl (by decide) li_in12 w_1424 ?_
            refine li_top (fun x33 ex33 => ?_)
            have gx33 := tl_rg x33
            have sx33 : x33.toInt = (M0.1 175 20).toInt := tl_slot (ex33.trans (hf.1 175 20 (show ¬ ((175 = 175 ∧ 20 = 14) ∨ (175 = 175 ∧ 20 = 15)) by decide)))
            refine li_if_eq 131 dX12_part_116 (by decide) (fun c34 => ?_) (fun c34 => ?_)
            · have tc34 : x33.toInt = 0 := tl_eq c34
              refine li_iconst 0 dX12_part_131 (by decide) ?_
              have z0 : (0 : Int32).toInt = 0 := rfl
              exact li_iret dX12_part_132 rfl rfl ⟨⟨_, rfl, (by first | omega | (intro _; omega) | (refine ⟨?_, ?_⟩ <;> first | omega | (intro _; omega)) | (refine ⟨?_, ?_, ?_, ?_⟩ <;> first | omega | (intro _; omega)))⟩, hf, hJ⟩
            · have tc34 : ¬ x33.toInt = 0 := tl_ne c34
              refine li_aload_n 1 dX12_part_119 rfl ?_
              refine li_getr (k := 21) (N := 52) (T := TX12) (C0 := RX12) dX12_part_120 (by decide) sh_175 rfl rfl (by decide) (by decide) li_in12 w_1425 ?_
              refine li_iload_n 0 dX12_part_123 rfl ?_
              refine li_callS (n := 1) (As := [.int x14]) dX12_part_124 (k_X12_letterOf (d - 1) (by omega) x14 M32 hJ ) (by omega) (Nat.le_of_ble_eq_true rfl) w_1641 w_1642 w_112 w_1643 (by decide +kernel) rfl rfl (Nat.le_of_ble_eq_true rfl) (fun r M36 h37 => ?_)
              obtain ⟨⟨x35, rfl, qx35⟩, h37, jM36⟩ := h37
              have gx35 := tl_rg x35
              have hf := li_fs_trans hf h37 (fun i k h => False.elim h)
              have kM36 : (li_hr M36).toInt = (li_hr M32).toInt := li_hr_fs h37 id id id id (fun _ _ _ => id) (by assumption)
              have hJ := jM36
              have rM36_12 := J_sl12 (M := M36) hJ
              have rM36_13 := J_sl13 (M := M36) hJ
              have rM36_14 := J_sl14 (M := M36) hJ
              have rM36_15 := J_sl15 (M := M36) hJ
              have mM36_12 : (M36.1 175 12).toInt = (M32.1 175 12).toInt := tl_slot (h37.1 175 12 id)
              have mM36_13 : (M36.1 175 13).toInt = (M32.1 175 13).toInt := tl_slot (h37.1 175 13 id)
              have mM36_14 : (M36.1 175 14).toInt = (M32.1 175 14).toInt := tl_slot (h37.1 175 14 id)
              have mM36_15 : (M36.1 175 15).toInt = (M32.1 175 15).toInt := tl_slot (h37.1 175 15 id)
              refine li_iald dX12_part_127 (by decide) sh_185 (tl_in (by omega)) ?_
              refine li_top (fun x38 ex38 => ?_)
              have gx38 := tl_rg x38
              refine li_goto 132 dX12_part_128 (by decide) ?_
              exact li_iret dX12_part_132 rfl rfl ⟨⟨_, rfl, (by first | omega | (intro _; omega) | (refine ⟨?_, ?_⟩ <;> first | omega | (intro _; omega)) | (refine ⟨?_, ?_, ?_, ?_⟩ <;> first | omega | (intro _; omega)))⟩, hf, hJ⟩
          · have tc29 : x26.toInt = (-1) := tl_eq c29
            refine li_aload_n 1 dX12_part_92 rfl ?_
            refine li_aload_n 1 dX12_part_93 rfl ?_
            refine li_geti (k := 14) (N := 52) (T := TX12) (C0 := RX12) dX12_part_94 (by decide) sh_175 rfl rfl (by decide) li_in12 w_1418 ?_
            refine li_top (fun x39 ex39 => ?_)
            have gx39 : 0 ≤ x39.toInt ∧ x39.toInt ≤ 81 := by rw [ex39]; exact J_sl14 hJ
            have mx39 : x39.toInt = (M27.1 175 14).toInt := tl_slot ex39
            refine li_callV (n := 1) (As := [.int x39]) dX12_part_97 (k_X12_fault (d - 1) (by omega) x39 M27 hJ (by omega)) (by omega) (Nat.le_of_ble_eq_true rfl) w_1585 w_1587 w_44 w_112 w_1588 (by decide +kernel) rfl (by decide) sh_175 rfl rfl (Nat.le_of_ble_eq_true rfl) (fun r M41 h42 => ?_)
            obtain ⟨rfl, h42, jM41, nM41⟩ := h42
            have hf := li_fs_trans hf h42 (fun i k => fun h => Or.inr h)
            have kM41 : (li_hr M41).toInt = (li_hr M27).toInt := li_hr_fs h42 (show ¬ ((175 = 175 ∧ 12 = 15)) by decide) (show ¬ ((175 = 175 ∧ 13 = 15)) by decide) (show ¬ ((175 = 175 ∧ 14 = 15)) by decide) (show ¬ ((1000 = 175 ∧ 0 = 15)) by decide) (fun q i h => (show ¬ ((q = 175 ∧ i = 15)) by unfold li_rq at h; omega)) (by assumption)
            have hJ := jM41
            have rM41_12 := J_sl12 (M := M41) hJ
            have rM41_13 := J_sl13 (M := M41) hJ
            have rM41_14 := J_sl14 (M := M41) hJ
            have rM41_15 := J_sl15 (M := M41) hJ
            have mM41_12 : (M41.1 175 12).toInt = (M27.1 175 12).toInt := tl_slot (h42.1 175 12 (show ¬ ((175 = 175 ∧ 12 = 15)) by decide))
            have mM41_13 : (M41.1 175 13).toInt = (M27.1 175 13).toInt := tl_slot (h42.1 175 13 (show ¬ ((175 = 175 ∧ 13 = 15)) by decide))
            have mM41_14 : (M41.1 175 14).toInt = (M27.1 175 14).toInt := tl_slot (h42.1 175 14 (show ¬ ((175 = 175 ∧ 14 = 15)) by decide))
            refine li_iconst 0 dX12_part_100 (by decide) ?_
            have z0 : (0 : Int32).toInt = 0 := rfl
            exact li_iret dX12_part_101 rfl rfl ⟨⟨_, rfl, (by first | omega | (intro _; omega) | (refine ⟨?_, ?_⟩ <;> first | omega | (intro _; omega)) | (refine ⟨?_, ?_, ?_, ?_⟩ <;> first | omega | (intro _; omega)))⟩, hf, hJ⟩
      · have tc17 : x14.toInt = 40 := tl_eq c17
        refine li_iload_n 2 dX12_part_36 rfl ?_
        refine li_iconst 4 dX12_part_37 (by decide) ?_
        refine li_icmp_ge 67 dX12_part_38 (by decide) (fun c43 => ?_) (fun c43 => ?_)
        · have tc43 : 4 ≤ p1.toInt := tl_le c43
          refine li_iload_n 0 dX12_part_67 rfl ?_
          refine li_bipush 48 dX12_part_68 (by decide) ?_
          refine li_bipush 57 dX12_part_70 (by decide) ?_
          have z48 : (48 : Int32).toInt = 48 := rfl
          have z57 : (57 : Int32).toInt = 57 := rfl
          refine li_callS (n := 3) (As := [.int x14, .int 48, .int 57]) dX12_part_72 (k_X12_in (d - 1) (by omega) x14 48 57 M15 hJ ) (by omega) (Nat.le_of_ble_eq_true rfl) w_1570 w_1571 w_112 w_1572 (by decide +kernel) rfl rfl (Nat.le_of_ble_eq_true rfl) (fun r M45 h46 => ?_)
          obtain ⟨qx44, h46, jM45⟩ := h46
          have hf := li_fs_trans hf h46 (fun i k h => False.elim h)
          have kM45 : (li_hr M45).toInt = (li_hr M15).toInt := li_hr_fs h46 id id id id (fun _ _ _ => id) (by assumption)
          have hJ := jM45
          have rM45_12 := J_sl12 (M := M45) hJ
          have rM45_13 := J_sl13 (M := M45) hJ
          have rM45_14 := J_sl14 (M := M45) hJ
          have rM45_15 := J_sl15 (M := M45) hJ
          have mM45_12 : (M45.1 175 12).toInt = (M15.1 175 12).toInt := tl_slot (h46.1 175 12 id)
          have mM45_13 : (M45.1 175 13).toInt = (M15.1 175 13).toInt := tl_slot (h46.1 175 13 id)
          have mM45_14 : (M45.1 175 14).toInt = (M15.1 175 14).toInt := tl_slot (h46.1 175 14 id)
          have mM45_15 : (M45.1 175 15).toInt = (M15.1 175 15).toInt := tl_slot (h46.1 175 15 id)
          rcases qx44 with ⟨rfl, qx44⟩ | ⟨rfl, qx44⟩
          · skip
            refine li_if_eq 84 dX12_part_75 (by decide) (fun c => absurd c (by decide)) (fun c => ?_)
            refine li_aload_n 1 dX12_part_78 rfl ?_
            refine li_iconst 3 dX12_part_79 (by decide) ?_
            have z3 : (3 : Int32).toInt = 3 := rfl
            refine li_callV (n := 1) (As := [.int 3]) dX12_part_80 (k_X12_number (d - 1) (by omega) 3 M45 hJ ) (by omega) (Nat.le_of_ble_eq_true rfl) w_1589 w_1591 w_45 w_112 w_1592 (by decide +kernel) rfl (by decide) sh_175 rfl rfl (Nat.le_of_ble_eq_true rfl) (fun r M49 h50 => ?_)
            obtain ⟨⟨x48, rfl, qx48⟩, h50, jM49⟩ := h50
            have gx48 := tl_rg x48
            have hf := li_fs_trans hf h50 (fun i k => fun h => Or.elim h (fun h => Or.inl h) (fun h => Or.inr h))
            have hJ := jM49
            have rM49_12 := J_sl12 (M := M49) hJ
            have rM49_13 := J_sl13 (M := M49) hJ
            have rM49_14 := J_sl14 (M := M49) hJ
            have rM49_15 := J_sl15 (M := M49) hJ
            have mM49_12 : (M49.1 175 12).toInt = (M45.1 175 12).toInt := tl_slot (h50.1 175 12 (show ¬ ((175 = 175 ∧ 12 = 14) ∨ (175 = 175 ∧ 12 = 15)) by decide))
            have mM49_13 : (M49.1 175 13).toInt = (M45.1 175 13).toInt := tl_slot (h50.1 175 13 (show ¬ ((175 = 175 ∧ 13 = 14) ∨ (175 = 175 ∧ 13 = 15)) by decide))
            exact li_iret dX12_part_83 rfl rfl ⟨⟨_, rfl, (by first | omega | (intro _; omega) | (refine ⟨?_, ?_⟩ <;> first | omega | (intro _; omega)) | (refine ⟨?_, ?_, ?_, ?_⟩ <;> first | omega | (intro _; omega)))⟩, hf, hJ⟩
          · skip
            refine li_if_eq 84 dX12_part_75 (by decide) (fun c => ?_) (fun c => absurd rfl c)
            refine li_iload_n 0 dX12_part_84 rfl ?_
            refine li_callS (n := 1) (As := [.int x14]) dX12_part_85 (k_X12_letterOf (d - 1) (by omega) x14 M45 hJ ) (by omega) (Nat.le_of_ble_eq_true rfl) w_1641 w_1642 w_112 w_1643 (by decide +kernel) rfl rfl (Nat.le_of_ble_eq_true rfl) (fun r M53 h54 => ?_)
            obtain ⟨⟨x52, rfl, qx52⟩, h54, jM53⟩ := h54
            have gx52 := tl_rg x52
            have hf := li_fs_trans hf h54 (fun i k h => False.elim h)
            have kM53 : (li_hr M53).toInt = (li_hr M45).toInt := li_hr_fs h54 id id id id (fun _ _ _ => id) (by assumption)
            have hJ := jM53
            have rM53_12 := J_sl12 (M := M53) hJ
            have rM53_13 := J_sl13 (M := M53) hJ
            have rM53_14 := J_sl14 (M := M53) hJ
            have rM53_15 := J_sl15 (M := M53) hJ
            have mM53_12 : (M53.1 175 12).toInt = (M45.1 175 12).toInt := tl_slot (h54.1 175 12 id)
            have mM53_13 : (M53.1 175 13).toInt = (M45.1 175 13).toInt := tl_slot (h54.1 175 13 id)
            have mM53_14 : (M53.1 175 14).toInt = (M45.1 175 14).toInt := tl_slot (h54.1 175 14 id)
            have mM53_15 : (M53.1 175 15).toInt = (M45.1 175 15).toInt := tl_slot (h54.1 175 15 id)
            refine li_iconst (-1) dX12_part_88 (by decide) ?_
            refine li_icmp_ne 102 dX12_part_89 (by decide) (fun c55 => ?_) (fun c55 => ?_)
            · have tc55 : ¬ x52.toInt = (-1) := tl_ne c55
              refine li_aload_n 1 dX12_part_102 rfl ?_
              refine li_dup dX12_part_103 rfl ?_
              refine li_geti (k := 14) (N := 52) (T := TX12) (C0 := RX12) dX12_part_104 (by decide) sh_175 rfl rfl (by decide) li_in12 w_1418 ?_
              refine li_top (fun x56 ex56 => ?_)
              have gx56 : 0 ≤ x56.toInt ∧ x56.toInt ≤ 81 := by rw [ex56]; exact J_sl14 hJ
              have mx56 : x56.toInt = (M53.1 175 14).toInt := tl_slot ex56
              refine li_iconst 1 dX12_part_107 (by decide) ?_
              refine li_iadd dX12_part_108 ?_
              refine li_top (fun x57 ex57 => ?_)
              have z1 : (1 : Int32).toInt = 1 := rfl
              try (have tx57 : x57.toInt = (x56 : Int32).toInt + (1 : Int32).toInt := tl_add ex57 (by omega))
              refine li_puti (k := 14) (N := 52) (T := TX12) (C0 := RX12) dX12_part_109 (by decide) sh_175 rfl rfl (by decide) li_in12 tyX12_ok nmX12 rfl rfl rfl rfl w_1418 ?_
              refine li_nm (fun M58 eM58 => ?_)
              have hf := li_fs_ui hf (Or.inl ⟨rfl, rfl⟩) eM58
              have hJ := J_pt14 hJ (show 0 ≤ (x57 : Int32).toInt ∧ (x57 : Int32).toInt ≤ 81 by omega) eM58
              have rM58_12 := J_sl12 (M := M58) hJ
              have rM58_13 := J_sl13 (M := M58) hJ
              have rM58_14 := J_sl14 (M := M58) hJ
              have rM58_15 := J_sl15 (M := M58) hJ
              have mM58_12 : (M58.1 175 12).toInt = (M53.1 175 12).toInt := by rw [eM58, li_ui_at, if_pos rfl, if_neg (by decide)]
              have mM58_13 : (M58.1 175 13).toInt = (M53.1 175 13).toInt := by rw [eM58, li_ui_at, if_pos rfl, if_neg (by decide)]
              have mM58_14 : (M58.1 175 14).toInt = x57.toInt := by rw [eM58, li_ui_at, if_pos rfl, if_pos rfl]
              have mM58_15 : (M58.1 175 15).toInt = (M53.1 175 15).toInt := by rw [eM58, li_ui_at, if_pos rfl, if_neg (by decide)]
              refine li_aload_n 1 dX12_part_112 rfl ?_
              refine li_geti (k := 20) (N := 52) (T := TX12) (C0 := RX12) dX12_part_113 (by decide) sh_175 rfl rfl (by decide) li_in12 w_1424 ?_
              refine li_top (fun x59 ex59 => ?_)
              have gx59 := tl_rg x59
              have sx59 : x59.toInt = (M0.1 175 20).toInt := tl_slot (ex59.trans (hf.1 175 20 (show ¬ ((175 = 175 ∧ 20 = 14) ∨ (175 = 175 ∧ 20 = 15)) by decide)))
              refine li_if_eq 131 dX12_part_116 (by decide) (fun c60 => ?_) (fun c60 => ?_)
              · have tc60 : x59.toInt = 0 := tl_eq c60
                refine li_iconst 0 dX12_part_131 (by decide) ?_
                have z0 : (0 : Int32).toInt = 0 := rfl
                exact li_iret dX12_part_132 rfl rfl ⟨⟨_, rfl, (by first | omega | (intro _; omega) | (refine ⟨?_, ?_⟩ <;> first | omega | (intro _; omega)) | (refine ⟨?_, ?_, ?_, ?_⟩ <;> first | omega | (intro _; omega)))⟩, hf, hJ⟩
              · have tc60 : ¬ x59.toInt = 0 := tl_ne c60
                refine li_aload_n 1 dX12_part_119 rfl ?_
                refine li_getr (k := 21) (N := 52) (T := TX12) (C0 := RX12) dX12_part_120 (by decide) sh_175 rfl rfl (by decide) (by decide) li_in12 w_1425 ?_
                refine li_iload_n 0 dX12_part_123 rfl ?_
                refine li_callS (n := 1) (As := [.int x14]) dX12_part_124 (k_X12_letterOf (d - 1) (by omega) x14 M58 hJ ) (by omega) (Nat.le_of_ble_eq_true rfl) w_1641 w_1642 w_112 w_1643 (by decide +kernel) rfl rfl (Nat.le_of_ble_eq_true rfl) (fun r M62 h63 => ?_)
                obtain ⟨⟨x61, rfl, qx61⟩, h63, jM62⟩ := h63
                have gx61 := tl_rg x61
                have hf := li_fs_trans hf h63 (fun i k h => False.elim h)
                have kM62 : (li_hr M62).toInt = (li_hr M58).toInt := li_hr_fs h63 id id id id (fun _ _ _ => id) (by assumption)
                have hJ := jM62
                have rM62_12 := J_sl12 (M := M62) hJ
                have rM62_13 := J_sl13 (M := M62) hJ
                have rM62_14 := J_sl14 (M := M62) hJ
                have rM62_15 := J_sl15 (M := M62) hJ
                have mM62_12 : (M62.1 175 12).toInt = (M58.1 175 12).toInt := tl_slot (h63.1 175 12 id)
                have mM62_13 : (M62.1 175 13).toInt = (M58.1 175 13).toInt := tl_slot (h63.1 175 13 id)
                have mM62_14 : (M62.1 175 14).toInt = (M58.1 175 14).toInt := tl_slot (h63.1 175 14 id)
                have mM62_15 : (M62.1 175 15).toInt = (M58.1 175 15).toInt := tl_slot (h63.1 175 15 id)
                refine li_iald dX12_part_127 (by decide) sh_185 (tl_in (by omega)) ?_
                refine li_top (fun x64 ex64 => ?_)
                have gx64 := tl_rg x64
                refine li_goto 132 dX12_part_128 (by decide) ?_
                exact li_iret dX12_part_132 rfl rfl ⟨⟨_, rfl, (by first | omega | (intro _; omega) | (refine ⟨?_, ?_⟩ <;> first | omega | (intro _; omega)) | (refine ⟨?_, ?_, ?_, ?_⟩ <;> first | omega | (intro _; omega)))⟩, hf, hJ⟩
            · have tc55 : x52.toInt = (-1) := tl_eq c55
              refine li_aload_n 1 dX12_part_92 rfl ?_
              refine li_aload_n 1 dX12_part_93 rfl ?_
              refine li_geti (k := 14) (N := 52) (T := TX12) (C0 := RX12) dX12_part_94 (by decide) sh_175 rfl rfl (by decide) li_in12 w_1418 ?_
              refine li_top (fun x65 ex65 => ?_)
              have gx65 : 0 ≤ x65.toInt ∧ x65.toInt ≤ 81 := by rw [ex65]; exact J_sl14 hJ
              have mx65 : x65.toInt = (M53.1 175 14).toInt := tl_slot ex65
              refine li_callV (n := 1) (As := [.int x65]) dX12_part_97 (k_X12_fault (d - 1) (by omega) x65 M53 hJ (by omega)) (by omega) (Nat.le_of_ble_eq_true rfl) w_1585 w_1587 w_44 w_112 w_1588 (by decide +kernel) rfl (by decide) sh_175 rfl rfl (Nat.le_of_ble_eq_true rfl) (fun r M67 h68 => ?_)
              obtain ⟨rfl, h68, jM67, nM67⟩ := h68
              have hf := li_fs_trans hf h68 (fun i k => fun h => Or.inr h)
              have kM67 : (li_hr M67).toInt = (li_hr M53).toInt := li_hr_fs h68 (show ¬ ((175 = 175 ∧ 12 = 15)) by decide) (show ¬ ((175 = 175 ∧ 13 = 15)) by decide) (show ¬ ((175 = 175 ∧ 14 = 15)) by decide) (show ¬ ((1000 = 175 ∧ 0 = 15)) by decide) (fun q i h => (show ¬ ((q = 175 ∧ i = 15)) by unfold li_rq at h; omega)) (by assumption)
              have hJ := jM67
              have rM67_12 := J_sl12 (M := M67) hJ
              have rM67_13 := J_sl13 (M := M67) hJ
              have rM67_14 := J_sl14 (M := M67) hJ
              have rM67_15 := J_sl15 (M := M67) hJ
              have mM67_12 : (M67.1 175 12).toInt = (M53.1 175 12).toInt := tl_slot (h68.1 175 12 (show ¬ ((175 = 175 ∧ 12 = 15)) by decide))
              have mM67_13 : (M67.1 175 13).toInt = (M53.1 175 13).toInt := tl_slot (h68.1 175 13 (show ¬ ((175 = 175 ∧ 13 = 15)) by decide))
              have mM67_14 : (M67.1 175 14).toInt = (M53.1 175 14).toInt := tl_slot (h68.1 175 14 (show ¬ ((175 = 175 ∧ 14 = 15)) by decide))
              refine li_iconst 0 dX12_part_100 (by decide) ?_
              have z0 : (0 : Int32).toInt = 0 := rfl
              exact li_iret dX12_part_101 rfl rfl ⟨⟨_, rfl, (by first | omega | (intro _; omega) | (refine ⟨?_, ?_⟩ <;> first | omega | (intro _; omega)) | (refine ⟨?_, ?_, ?_, ?_⟩ <;> first | omega | (intro _; omega)))⟩, hf, hJ⟩
        · have tc43 : p1.toInt < 4 := tl_nle c43
          refine li_aload_n 1 dX12_part_41 rfl ?_
          refine li_dup dX12_part_42 rfl ?_
          refine li_geti (k := 14) (N := 52) (T := TX12) (C0 := RX12) dX12_part_43 (by decide) sh_175 rfl rfl (by decide) li_in12 w_1418 ?_
          refine li_top (fun x69 ex69 => ?_)
          have gx69 : 0 ≤ x69.toInt ∧ x69.toInt ≤ 81 := by rw [ex69]; exact J_sl14 hJ
          have mx69 : x69.toInt = (M15.1 175 14).toInt := tl_slot ex69
          refine li_iconst 1 dX12_part_46 (by decide) ?_
          refine li_iadd dX12_part_47 ?_
          refine li_top (fun x70 ex70 => ?_)
          have z1 : (1 : Int32).toInt = 1 := rfl
          try (have tx70 : x70.toInt = (x69 : Int32).toInt + (1 : Int32).toInt := tl_add ex70 (by omega))
          refine li_puti (k := 14) (N := 52) (T := TX12) (C0 := RX12) dX12_part_48 (by decide) sh_175 rfl rfl (by decide) li_in12 tyX12_ok nmX12 rfl rfl rfl rfl w_1418 ?_
          refine li_nm (fun M71 eM71 => ?_)
          have hf := li_fs_ui hf (Or.inl ⟨rfl, rfl⟩) eM71
          have hJ := J_pt14 hJ (show 0 ≤ (x70 : Int32).toInt ∧ (x70 : Int32).toInt ≤ 81 by omega) eM71
          have rM71_12 := J_sl12 (M := M71) hJ
          have rM71_13 := J_sl13 (M := M71) hJ
          have rM71_14 := J_sl14 (M := M71) hJ
          have rM71_15 := J_sl15 (M := M71) hJ
          have mM71_12 : (M71.1 175 12).toInt = (M15.1 175 12).toInt := by rw [eM71, li_ui_at, if_pos rfl, if_neg (by decide)]
          have mM71_13 : (M71.1 175 13).toInt = (M15.1 175 13).toInt := by rw [eM71, li_ui_at, if_pos rfl, if_neg (by decide)]
          have mM71_14 : (M71.1 175 14).toInt = x70.toInt := by rw [eM71, li_ui_at, if_pos rfl, if_pos rfl]
          have mM71_15 : (M71.1 175 15).toInt = (M15.1 175 15).toInt := by rw [eM71, li_ui_at, if_pos rfl, if_neg (by decide)]
          refine li_aload_n 1 dX12_part_51 rfl ?_
          refine li_iload_n 2 dX12_part_52 rfl ?_
          refine li_iconst 1 dX12_part_53 (by decide) ?_
          refine li_iadd dX12_part_54 ?_
          refine li_top (fun x72 ex72 => ?_)
          have z1 : (1 : Int32).toInt = 1 := rfl
          try (have tx72 : x72.toInt = (p1 : Int32).toInt + (1 : Int32).toInt := tl_add ex72 (by omega))
          refine li_callV (n := 1) (As := [.int x72]) dX12_part_55 (IHh x72 M71 hJ (by omega)) (by omega) (Nat.le_of_ble_eq_true rfl) w_1625 w_1627 w_52 w_112 w_1628 (by decide +kernel) rfl (by decide) sh_175 rfl rfl (Nat.le_of_ble_eq_true rfl) (fun r M74 h75 => ?_)
          obtain ⟨⟨x73, rfl, qx73⟩, h75, jM74⟩ := h75
          have gx73 := tl_rg x73
          have hf := li_fs_trans hf h75 (fun i k => fun h => Or.elim h (fun h => Or.inl h) (fun h => Or.inr h))
          have hJ := jM74
          have rM74_12 := J_sl12 (M := M74) hJ
          have rM74_13 := J_sl13 (M := M74) hJ
          have rM74_14 := J_sl14 (M := M74) hJ
          have rM74_15 := J_sl15 (M := M74) hJ
          have mM74_12 : (M74.1 175 12).toInt = (M71.1 175 12).toInt := tl_slot (h75.1 175 12 (show ¬ ((175 = 175 ∧ 12 = 14) ∨ (175 = 175 ∧ 12 = 15)) by decide))
          have mM74_13 : (M74.1 175 13).toInt = (M71.1 175 13).toInt := tl_slot (h75.1 175 13 (show ¬ ((175 = 175 ∧ 13 = 14) ∨ (175 = 175 ∧ 13 = 15)) by decide))
          refine li_istore_n [(3, .int x73), (2, .int x14), (0, .ref (Z.2.2 175)), (1, .int p1)] dX12_part_58 (by decide) rfl ?_
          refine li_aload_n 2 dX12_part_59 rfl ?_
          refine li_bipush 41 dX12_part_60 (by decide) ?_
          have z41 : (41 : Int32).toInt = 41 := rfl
          refine li_callV (n := 1) (As := [.int 41]) dX12_part_62 (k_X12_need (d - 1) (by omega) 41 M74 hJ (by omega)) (by omega) (Nat.le_of_ble_eq_true rfl) w_1601 w_1603 w_48 w_112 w_1604 (by decide +kernel) rfl (by decide) sh_175 rfl rfl (Nat.le_of_ble_eq_true rfl) (fun r M77 h78 => ?_)
          obtain ⟨rfl, h78, jM77, nM77⟩ := h78
          have hf := li_fs_trans hf h78 (fun i k => fun h => Or.elim h (fun h => Or.inl h) (fun h => Or.inr h))
          have hJ := jM77
          have rM77_12 := J_sl12 (M := M77) hJ
          have rM77_13 := J_sl13 (M := M77) hJ
          have rM77_14 := J_sl14 (M := M77) hJ
          have rM77_15 := J_sl15 (M := M77) hJ
          have mM77_12 : (M77.1 175 12).toInt = (M74.1 175 12).toInt := tl_slot (h78.1 175 12 (show ¬ ((175 = 175 ∧ 12 = 14) ∨ (175 = 175 ∧ 12 = 15)) by decide))
          have mM77_13 : (M77.1 175 13).toInt = (M74.1 175 13).toInt := tl_slot (h78.1 175 13 (show ¬ ((175 = 175 ∧ 13 = 14) ∨ (175 = 175 ∧ 13 = 15)) by decide))
          refine li_iload_n 0 dX12_part_65 rfl ?_
          exact li_iret dX12_part_66 rfl rfl ⟨⟨_, rfl, (by first | omega | (intro _; omega) | (refine ⟨?_, ?_⟩ <;> first | omega | (intro _; omega)) | (refine ⟨?_, ?_, ?_, ?_⟩ <;> first | omega | (intro _; omega)))⟩, hf, hJ⟩
    · skip
      refine li_if_ne 25 dX12_part_20 (by decide) (fun c => absurd rfl c) (fun c => ?_)
      refine li_iconst 0 dX12_part_23 (by decide) ?_
      have z0 : (0 : Int32).toInt = 0 := rfl
      exact li_iret dX12_part_24 rfl rfl ⟨⟨_, rfl, (by first | omega | (intro _; omega) | (refine ⟨?_, ?_⟩ <;> first | omega | (intro _; omega)) | (refine ⟨?_, ?_, ?_, ?_⟩ <;> first | omega | (intro _; omega)))⟩, hf, hJ⟩
set_option maxRecDepth 100000 in
set_option maxHeartbeats 4000000 in
theorem k_X12_product {l : Launch} {Z : li_Z} (d : Nat) (hd : 2 ≤ d) (p1 : Int32) (dE : Nat) (hE : dE + 1 ≤ d) (M0 : li_M) (hJ : li_J M0) (PT : ∀ (q : Int32) (M : li_M), li_J M → (M0.1 175 14).toInt ≤ (M.1 175 14).toInt → li_Met l Z YX12_part dE [.ref (Z.2.2 175), .int q] M (fun r M' => (∃ x : Int32, r = some (.int x) ∧ (M.1 175 14).toInt ≤ (M'.1 175 14).toInt ∧ ((M.1 175 14).toInt ≤ (M.1 175 13).toInt → (M'.1 175 14).toInt ≤ (M.1 175 13).toInt)) ∧ li_fs (fun i k => (i = 175 ∧ k = 14) ∨ (i = 175 ∧ k = 15)) M M' ∧ li_J M')) : li_Met l Z YX12_product d [.ref (Z.2.2 175), .int p1] M0 (fun r M' => (∃ x : Int32, r = some (.int x) ∧ ((M0.1 175 14).toInt ≤ (M'.1 175 14).toInt ∧ ((M0.1 175 14).toInt ≤ (M0.1 175 13).toInt → (M'.1 175 14).toInt ≤ (M0.1 175 13).toInt))) ∧ li_fs (fun i k => (i = 175 ∧ k = 14) ∨ (i = 175 ∧ k = 15)) M0 M' ∧ li_J M') := by
  refine li_enter (by decide +kernel) (Nat.le_of_ble_eq_true rfl) ?_
  show li_T l Z YX12_product d 0 [(0, .ref (Z.2.2 175)), (1, .int p1)] [] M0 _
  have hf : li_fs (fun i k => (i = 175 ∧ k = 14) ∨ (i = 175 ∧ k = 15)) M0 M0 := li_fs_refl
  have gp1 := tl_rg p1
  have rM0_12 := J_sl12 (M := M0) hJ
  have rM0_13 := J_sl13 (M := M0) hJ
  have rM0_14 := J_sl14 (M := M0) hJ
  have rM0_15 := J_sl15 (M := M0) hJ
  refine li_aload_n 0 dX12_product_0 rfl ?_
  refine li_iload_n 1 dX12_product_1 rfl ?_
  refine li_callV (n := 1) (As := [.int p1]) dX12_product_2 (PT p1 M0 hJ (by omega)) (by omega) (Nat.le_of_ble_eq_true rfl) w_1637 w_1639 w_55 w_112 w_1640 (by decide +kernel) rfl (by decide) sh_175 rfl rfl (Nat.le_of_ble_eq_true rfl) (fun r M2 h3 => ?_)
  obtain ⟨⟨x1, rfl, qx1⟩, h3, jM2⟩ := h3
  have gx1 := tl_rg x1
  have hf := li_fs_trans hf h3 (fun i k => fun h => Or.elim h (fun h => Or.inl h) (fun h => Or.inr h))
  have hJ := jM2
  have rM2_12 := J_sl12 (M := M2) hJ
  have rM2_13 := J_sl13 (M := M2) hJ
  have rM2_14 := J_sl14 (M := M2) hJ
  have rM2_15 := J_sl15 (M := M2) hJ
  have mM2_12 : (M2.1 175 12).toInt = (M0.1 175 12).toInt := tl_slot (h3.1 175 12 (show ¬ ((175 = 175 ∧ 12 = 14) ∨ (175 = 175 ∧ 12 = 15)) by decide))
  have mM2_13 : (M2.1 175 13).toInt = (M0.1 175 13).toInt := tl_slot (h3.1 175 13 (show ¬ ((175 = 175 ∧ 13 = 14) ∨ (175 = 175 ∧ 13 = 15)) by decide))
  refine li_istore_n [(2, .int x1), (0, .ref (Z.2.2 175)), (1, .int p1)] dX12_product_5 (by decide) rfl ?_
  have L6 : ∀ (n : Nat) (x4 : Int32) (M5 : li_M), (81 - (M5.1 175 14).toInt).toNat < n → li_fs (fun i k => (i = 175 ∧ k = 14) ∨ (i = 175 ∧ k = 15)) M0 M5 → li_J M5 → (M0.1 175 14).toInt ≤ (M5.1 175 14).toInt ∧ ((M0.1 175 14).toInt ≤ (M0.1 175 13).toInt → (M5.1 175 14).toInt ≤ (M0.1 175 13).toInt) → li_T l Z YX12_product d 6 [(2, .int x4), (0, .ref (Z.2.2 175)), (1, .int p1)] [] M5 (fun r M' => (∃ x : Int32, r = some (.int x) ∧ ((M0.1 175 14).toInt ≤ (M'.1 175 14).toInt ∧ ((M0.1 175 14).toInt ≤ (M0.1 175 13).toInt → (M'.1 175 14).toInt ≤ (M0.1 175 13).toInt))) ∧ li_fs (fun i k => (i = 175 ∧ k = 14) ∨ (i = 175 ∧ k = 15)) M0 M' ∧ li_J M') := by
    intro n
    induction n with
    | zero => intro x4 M5 hn; exact absurd hn (Nat.not_lt_zero _)
    | succ n ih6 =>
      intro x4 M5 hn hf hJ hi
      have gx4 := tl_rg x4
      have rM5_12 := J_sl12 (M := M5) hJ
      have rM5_13 := J_sl13 (M := M5) hJ
      have rM5_14 := J_sl14 (M := M5) hJ
      have rM5_15 := J_sl15 (M := M5) hJ
      have mM5_12 : (M5.1 175 12).toInt = (M0.1 175 12).toInt := tl_slot (hf.1 175 12 (show ¬ ((175 = 175 ∧ 12 = 14) ∨ (175 = 175 ∧ 12 = 15)) by decide))
      have mM5_13 : (M5.1 175 13).toInt = (M0.1 175 13).toInt := tl_slot (hf.1 175 13 (show ¬ ((175 = 175 ∧ 13 = 14) ∨ (175 = 175 ∧ 13 = 15)) by decide))
      refine li_aload_n 1 dX12_product_6 rfl ?_
      refine li_callV (n := 0) (As := []) dX12_product_7 (k_X12_fine (d - 1) (by omega)  M5 hJ ) (by omega) (Nat.le_of_ble_eq_true rfl) w_1581 w_1583 w_43 w_112 w_1584 (by decide +kernel) rfl (by decide) sh_175 rfl rfl (Nat.le_of_ble_eq_true rfl) (fun r M7 h8 => ?_)
      obtain ⟨qx6, h8, jM7⟩ := h8
      have hf := li_fs_trans hf h8 (fun i k h => False.elim h)
      have kM7 : (li_hr M7).toInt = (li_hr M5).toInt := li_hr_fs h8 id id id id (fun _ _ _ => id) (by assumption)
      have hJ := jM7
      have rM7_12 := J_sl12 (M := M7) hJ
      have rM7_13 := J_sl13 (M := M7) hJ
      have rM7_14 := J_sl14 (M := M7) hJ
      have rM7_15 := J_sl15 (M := M7) hJ
      have mM7_12 : (M7.1 175 12).toInt = (M5.1 175 12).toInt := tl_slot (h8.1 175 12 id)
      have mM7_13 : (M7.1 175 13).toInt = (M5.1 175 13).toInt := tl_slot (h8.1 175 13 id)
      have mM7_14 : (M7.1 175 14).toInt = (M5.1 175 14).toInt := tl_slot (h8.1 175 14 id)
      have mM7_15 : (M7.1 175 15).toInt = (M5.1 175 15).toInt := tl_slot (h8.1 175 15 id)
      rcases qx6 with ⟨rfl, qx6⟩ | ⟨rfl, qx6⟩
      · skip
        refine li_if_eq 91 dX12_product_10 (by decide) (fun c => absurd c (by decide)) (fun c => ?_)
        refine li_aload_n 1 dX12_product_13 rfl ?_
        refine li_callV (n := 0) (As := []) dX12_product_14 (k_X12_here (d - 1) (by omega)  M7 hJ ) (by omega) (Nat.le_of_ble_eq_true rfl) w_1597 w_1599 w_47 w_112 w_1600 (by decide +kernel) rfl (by decide) sh_175 rfl rfl (Nat.le_of_ble_eq_true rfl) (fun r M11 h12 => ?_)
        obtain ⟨⟨x10, rfl, qx10⟩, h12, jM11⟩ := h12
        have gx10 := tl_rg x10
        have hf := li_fs_trans hf h12 (fun i k h => False.elim h)
        have kM11 : (li_hr M11).toInt = (li_hr M7).toInt := li_hr_fs h12 id id id id (fun _ _ _ => id) (by assumption)
        have hJ := jM11
        have rM11_12 := J_sl12 (M := M11) hJ
        have rM11_13 := J_sl13 (M := M11) hJ
        have rM11_14 := J_sl14 (M := M11) hJ
        have rM11_15 := J_sl15 (M := M11) hJ
        have mM11_12 : (M11.1 175 12).toInt = (M7.1 175 12).toInt := tl_slot (h12.1 175 12 id)
        have mM11_13 : (M11.1 175 13).toInt = (M7.1 175 13).toInt := tl_slot (h12.1 175 13 id)
        have mM11_14 : (M11.1 175 14).toInt = (M7.1 175 14).toInt := tl_slot (h12.1 175 14 id)
        have mM11_15 : (M11.1 175 15).toInt = (M7.1 175 15).toInt := tl_slot (h12.1 175 15 id)
        refine li_bipush 42 dX12_product_17 (by decide) ?_
        refine li_icmp_eq 31 dX12_product_19 (by decide) (fun c13 => ?_) (fun c13 => ?_)
        · have tc13 : x10.toInt = 42 := tl_eq c13
          refine li_aload_n 1 dX12_product_31 rfl ?_
          refine li_callV (n := 0) (As := []) dX12_product_32 (k_X12_here (d - 1) (by omega)  M11 hJ ) (by omega) (Nat.le_of_ble_eq_true rfl) w_1597 w_1599 w_47 w_112 w_1600 (by decide +kernel) rfl (by decide) sh_175 rfl rfl (Nat.le_of_ble_eq_true rfl) (fun r M15 h16 => ?_)
          obtain ⟨⟨x14, rfl, qx14⟩, h16, jM15⟩ := h16
          have gx14 := tl_rg x14
          have hf := li_fs_trans hf h16 (fun i k h => False.elim h)
          have kM15 : (li_hr M15).toInt = (li_hr M11).toInt := li_hr_fs h16 id id id id (fun _ _ _ => id) (by assumption)
          have hJ := jM15
          have rM15_12 := J_sl12 (M := M15) hJ
          have rM15_13 := J_sl13 (M := M15) hJ
          have rM15_14 := J_sl14 (M := M15) hJ
          have rM15_15 := J_sl15 (M := M15) hJ
          have mM15_12 : (M15.1 175 12).toInt = (M11.1 175 12).toInt := tl_slot (h16.1 175 12 id)
          have mM15_13 : (M15.1 175 13).toInt = (M11.1 175 13).toInt := tl_slot (h16.1 175 13 id)
          have mM15_14 : (M15.1 175 14).toInt = (M11.1 175 14).toInt := tl_slot (h16.1 175 14 id)
          have mM15_15 : (M15.1 175 15).toInt = (M11.1 175 15).toInt := tl_slot (h16.1 175 15 id)
          refine li_bipush 42 dX12_product_35 (by decide) ?_
          have J45 : ∀ (x18 : Int32) (M19 : li_M), li_fs (fun i k => (i = 175 ∧ k = 14) ∨ (i = 175 ∧ k = 15)) M0 M19 → li_J M19 → (M19.1 175 14).toInt + 1 ≤ (M19.1 175 12).toInt ∧ (M19.1 175 14).toInt + 1 ≤ (M19.1 175 13).toInt ∧ (M5.1 175 14).toInt ≤ (M19.1 175 14).toInt → li_T l Z YX12_product d 45 [(2, .int x4), (0, .ref (Z.2.2 175)), (1, .int p1)] [.int x18] M19 (fun r M' => (∃ x : Int32, r = some (.int x) ∧ ((M0.1 175 14).toInt ≤ (M'.1 175 14).toInt ∧ ((M0.1 175 14).toInt ≤ (M0.1 175 13).toInt → (M'.1 175 14).toInt ≤ (M0.1 175 13).toInt))) ∧ li_fs (fun i k => (i = 175 ∧ k = 14) ∨ (i = 175 ∧ k = 15)) M0 M' ∧ li_J M') := by
            intro x18 M19 hf hJ hi
            have gx18 := tl_rg x18
            have rM19_12 := J_sl12 (M := M19) hJ
            have rM19_13 := J_sl13 (M := M19) hJ
            have rM19_14 := J_sl14 (M := M19) hJ
            have rM19_15 := J_sl15 (M := M19) hJ
            have mM19_12 : (M19.1 175 12).toInt = (M0.1 175 12).toInt := tl_slot (hf.1 175 12 (show ¬ ((175 = 175 ∧ 12 = 14) ∨ (175 = 175 ∧ 12 = 15)) by decide))
            have mM19_13 : (M19.1 175 13).toInt = (M0.1 175 13).toInt := tl_slot (hf.1 175 13 (show ¬ ((175 = 175 ∧ 13 = 14) ∨ (175 = 175 ∧ 13 = 15)) by decide))
            refine li_istore_n [(3, .int x18), (2, .int x4), (0, .ref (Z.2.2 175)), (1, .int p1)] dX12_product_45 (by decide) rfl ?_
            refine li_aload_n 2 dX12_product_46 rfl ?_
            refine li_dup dX12_product_47 rfl ?_
            refine li_geti (k := 14) (N := 52) (T := TX12) (C0 := RX12) dX12_product_48 (by decide) sh_175 rfl rfl (by decide) li_in12 w_1418 ?_
            refine li_top (fun x20 ex20 => ?_)
            have gx20 : 0 ≤ x20.toInt ∧ x20.toInt ≤ 81 := by rw [ex20]; exact J_sl14 hJ
            have mx20 : x20.toInt = (M19.1 175 14).toInt := tl_slot ex20
            refine li_iconst 1 dX12_product_51 (by decide) ?_
            refine li_iadd dX12_product_52 ?_
            refine li_top (fun x21 ex21 => ?_)
            have z1 : (1 : Int32).toInt = 1 := rfl
            try (have tx21 : x21.toInt = (x20 : Int32).toInt + (1 : Int32).toInt := tl_add ex21 (by omega))
            refine li_puti (k := 14) (N := 52) (T := TX12) (C0 := RX12) dX12_product_53 (by decide) sh_175 rfl rfl (by decide) li_in12 tyX12_ok nmX12 rfl rfl rfl rfl w_1418 ?_
            refine li_nm (fun M22 eM22 => ?_)
            have hf := li_fs_ui hf (Or.inl ⟨rfl, rfl⟩) eM22
            have hJ := J_pt14 hJ (show 0 ≤ (x21 : Int32).toInt ∧ (x21 : Int32).toInt ≤ 81 by omega) eM22
            have rM22_12 := J_sl12 (M := M22) hJ
            have rM22_13 := J_sl13 (M := M22) hJ
            have rM22_14 := J_sl14 (M := M22) hJ
            have rM22_15 := J_sl15 (M := M22) hJ
            have mM22_12 : (M22.1 175 12).toInt = (M19.1 175 12).toInt := by rw [eM22, li_ui_at, if_pos rfl, if_neg (by decide)]
            have mM22_13 : (M22.1 175 13).toInt = (M19.1 175 13).toInt := by rw [eM22, li_ui_at, if_pos rfl, if_neg (by decide)]
            have mM22_14 : (M22.1 175 14).toInt = x21.toInt := by rw [eM22, li_ui_at, if_pos rfl, if_pos rfl]
            have mM22_15 : (M22.1 175 15).toInt = (M19.1 175 15).toInt := by rw [eM22, li_ui_at, if_pos rfl, if_neg (by decide)]
            refine li_aload_n 2 dX12_product_56 rfl ?_
            refine li_iload_n 3 dX12_product_57 rfl ?_
            refine li_callV (n := 1) (As := [.int p1]) dX12_product_58 (PT p1 M22 hJ (by omega)) (by omega) (Nat.le_of_ble_eq_true rfl) w_1637 w_1639 w_55 w_112 w_1640 (by decide +kernel) rfl (by decide) sh_175 rfl rfl (Nat.le_of_ble_eq_true rfl) (fun r M24 h25 => ?_)
            obtain ⟨⟨x23, rfl, qx23⟩, h25, jM24⟩ := h25
            have gx23 := tl_rg x23
            have hf := li_fs_trans hf h25 (fun i k => fun h => Or.elim h (fun h => Or.inl h) (fun h => Or.inr h))
            have hJ := jM24
            have rM24_12 := J_sl12 (M := M24) hJ
            have rM24_13 := J_sl13 (M := M24) hJ
            have rM24_14 := J_sl14 (M := M24) hJ
            have rM24_15 := J_sl15 (M := M24) hJ
            have mM24_12 : (M24.1 175 12).toInt = (M22.1 175 12).toInt := tl_slot (h25.1 175 12 (show ¬ ((175 = 175 ∧ 12 = 14) ∨ (175 = 175 ∧ 12 = 15)) by decide))
            have mM24_13 : (M24.1 175 13).toInt = (M22.1 175 13).toInt := tl_slot (h25.1 175 13 (show ¬ ((175 = 175 ∧ 13 = 14) ∨ (175 = 175 ∧ 13 = 15)) by decide))
            refine li_istore [(4, .int x23), (3, .int x18), (2, .int x4), (0, .ref (Z.2.2 175)), (1, .int p1)] dX12_product_61 (by decide) rfl ?_
            refine li_iload_n 1 dX12_product_63 rfl ?_
            have J87 : ∀ (x27 : Int32) (M28 : li_M), li_fs (fun i k => (i = 175 ∧ k = 14) ∨ (i = 175 ∧ k = 15)) M0 M28 → li_J M28 → (M5.1 175 14).toInt + 1 ≤ (M28.1 175 14).toInt ∧ ((M0.1 175 14).toInt ≤ (M0.1 175 13).toInt → (M28.1 175 14).toInt ≤ (M0.1 175 13).toInt) → li_T l Z YX12_product d 87 [(4, .int x23), (3, .int x18), (2, .int x4), (0, .ref (Z.2.2 175)), (1, .int p1)] [.int x27] M28 (fun r M' => (∃ x : Int32, r = some (.int x) ∧ ((M0.1 175 14).toInt ≤ (M'.1 175 14).toInt ∧ ((M0.1 175 14).toInt ≤ (M0.1 175 13).toInt → (M'.1 175 14).toInt ≤ (M0.1 175 13).toInt))) ∧ li_fs (fun i k => (i = 175 ∧ k = 14) ∨ (i = 175 ∧ k = 15)) M0 M' ∧ li_J M') := by
              intro x27 M28 hf hJ hi
              have gx27 := tl_rg x27
              have rM28_12 := J_sl12 (M := M28) hJ
              have rM28_13 := J_sl13 (M := M28) hJ
              have rM28_14 := J_sl14 (M := M28) hJ
              have rM28_15 := J_sl15 (M := M28) hJ
              have mM28_12 : (M28.1 175 12).toInt = (M0.1 175 12).toInt := tl_slot (hf.1 175 12 (show ¬ ((175 = 175 ∧ 12 = 14) ∨ (175 = 175 ∧ 12 = 15)) by decide))
              have mM28_13 : (M28.1 175 13).toInt = (M0.1 175 13).toInt := tl_slot (hf.1 175 13 (show ¬ ((175 = 175 ∧ 13 = 14) ∨ (175 = 175 ∧ 13 = 15)) by decide))
              refine li_istore_n [(2, .int x27), (4, .int x23), (3, .int x18), (0, .ref (Z.2.2 175)), (1, .int p1)] dX12_product_87 (by decide) rfl ?_
              refine li_goto 6 dX12_product_88 (by decide) ?_
              refine li_pick [0, 3, 4] [(2, .int x27), (0, .ref (Z.2.2 175)), (1, .int p1)] rfl ?_
              exact ih6 x27 M28 (by omega) hf hJ (by omega)
            refine li_if_eq 74 dX12_product_64 (by decide) (fun c26 => ?_) (fun c26 => ?_)
            · have tc26 : x18.toInt = 0 := tl_eq c26
              refine li_iload 0 dX12_product_74 rfl ?_
              refine li_if_ne 83 dX12_product_76 (by decide) (fun c29 => ?_) (fun c29 => ?_)
              · have tc29 : ¬ x23.toInt = 0 := tl_ne c29
                refine li_iload_n 2 dX12_product_83 rfl ?_
                refine li_iload 0 dX12_product_84 rfl ?_
                refine li_idiv dX12_product_86 (by assumption) ?_
                refine li_top (fun x30 ex30 => ?_)
                refine li_pick [0, 1, 2, 3, 4] [(4, .int x23), (3, .int x18), (2, .int x4), (0, .ref (Z.2.2 175)), (1, .int p1)] rfl ?_
                exact J87 x30 M24 hf hJ (by omega)
              · have tc29 : x23.toInt = 0 := tl_eq c29
                refine li_iconst 0 dX12_product_79 (by decide) ?_
                refine li_goto 87 dX12_product_80 (by decide) ?_
                refine li_pick [0, 1, 2, 3, 4] [(4, .int x23), (3, .int x18), (2, .int x4), (0, .ref (Z.2.2 175)), (1, .int p1)] rfl ?_
                have z0 : (0 : Int32).toInt = 0 := rfl
                exact J87 0 M24 hf hJ (by omega)
            · have tc26 : ¬ x18.toInt = 0 := tl_ne c26
              refine li_iload_n 2 dX12_product_67 rfl ?_
              refine li_iload 0 dX12_product_68 rfl ?_
              refine li_imul dX12_product_70 ?_
              refine li_top (fun x31 ex31 => ?_)
              refine li_goto 87 dX12_product_71 (by decide) ?_
              refine li_pick [0, 1, 2, 3, 4] [(4, .int x23), (3, .int x18), (2, .int x4), (0, .ref (Z.2.2 175)), (1, .int p1)] rfl ?_
              exact J87 x31 M24 hf hJ (by omega)
          refine li_icmp_ne 44 dX12_product_37 (by decide) (fun c17 => ?_) (fun c17 => ?_)
          · have tc17 : ¬ x14.toInt = 42 := tl_ne c17
            refine li_iconst 0 dX12_product_44 (by decide) ?_
            refine li_pick [0, 1, 2] [(2, .int x4), (0, .ref (Z.2.2 175)), (1, .int p1)] rfl ?_
            have z0 : (0 : Int32).toInt = 0 := rfl
            exact J45 0 M15 hf hJ (by omega)
          · have tc17 : x14.toInt = 42 := tl_eq c17
            refine li_iconst 1 dX12_product_40 (by decide) ?_
            refine li_goto 45 dX12_product_41 (by decide) ?_
            refine li_pick [0, 1, 2] [(2, .int x4), (0, .ref (Z.2.2 175)), (1, .int p1)] rfl ?_
            have z1 : (1 : Int32).toInt = 1 := rfl
            exact J45 1 M15 hf hJ (by omega)
        · have tc13 : ¬ x10.toInt = 42 := tl_ne c13
          refine li_aload_n 1 dX12_product_22 rfl ?_
          refine li_callV (n := 0) (As := []) dX12_product_23 (k_X12_here (d - 1) (by omega)  M11 hJ ) (by omega) (Nat.le_of_ble_eq_true rfl) w_1597 w_1599 w_47 w_112 w_1600 (by decide +kernel) rfl (by decide) sh_175 rfl rfl (Nat.le_of_ble_eq_true rfl) (fun r M33 h34 => ?_)
          obtain ⟨⟨x32, rfl, qx32⟩, h34, jM33⟩ := h34
          have gx32 := tl_rg x32
          have hf := li_fs_trans hf h34 (fun i k h => False.elim h)
          have kM33 : (li_hr M33).toInt = (li_hr M11).toInt := li_hr_fs h34 id id id id (fun _ _ _ => id) (by assumption)
          have hJ := jM33
          have rM33_12 := J_sl12 (M := M33) hJ
          have rM33_13 := J_sl13 (M := M33) hJ
          have rM33_14 := J_sl14 (M := M33) hJ
          have rM33_15 := J_sl15 (M := M33) hJ
          have mM33_12 : (M33.1 175 12).toInt = (M11.1 175 12).toInt := tl_slot (h34.1 175 12 id)
          have mM33_13 : (M33.1 175 13).toInt = (M11.1 175 13).toInt := tl_slot (h34.1 175 13 id)
          have mM33_14 : (M33.1 175 14).toInt = (M11.1 175 14).toInt := tl_slot (h34.1 175 14 id)
          have mM33_15 : (M33.1 175 15).toInt = (M11.1 175 15).toInt := tl_slot (h34.1 175 15 id)
          refine li_bipush 47 dX12_product_26 (by decide) ?_
          refine li_icmp_ne 91 dX12_product_28 (by decide) (fun c35 => ?_) (fun c35 => ?_)
          · have tc35 : ¬ x32.toInt = 47 := tl_ne c35
            refine li_iload_n 0 dX12_product_91 rfl ?_
            exact li_iret dX12_product_92 rfl rfl ⟨⟨_, rfl, (by first | omega | (intro _; omega) | (refine ⟨?_, ?_⟩ <;> first | omega | (intro _; omega)) | (refine ⟨?_, ?_, ?_, ?_⟩ <;> first | omega | (intro _; omega)))⟩, hf, hJ⟩
          · have tc35 : x32.toInt = 47 := tl_eq c35
            refine li_aload_n 1 dX12_product_31 rfl ?_
            refine li_callV (n := 0) (As := []) dX12_product_32 (k_X12_here (d - 1) (by omega)  M33 hJ ) (by omega) (Nat.le_of_ble_eq_true rfl) w_1597 w_1599 w_47 w_112 w_1600 (by decide +kernel) rfl (by decide) sh_175 rfl rfl (Nat.le_of_ble_eq_true rfl) (fun r M37 h38 => ?_)
            obtain ⟨⟨x36, rfl, qx36⟩, h38, jM37⟩ := h38
            have gx36 := tl_rg x36
            have hf := li_fs_trans hf h38 (fun i k h => False.elim h)
            have kM37 : (li_hr M37).toInt = (li_hr M33).toInt := li_hr_fs h38 id id id id (fun _ _ _ => id) (by assumption)
            have hJ := jM37
            have rM37_12 := J_sl12 (M := M37) hJ
            have rM37_13 := J_sl13 (M := M37) hJ
            have rM37_14 := J_sl14 (M := M37) hJ
            have rM37_15 := J_sl15 (M := M37) hJ
            have mM37_12 : (M37.1 175 12).toInt = (M33.1 175 12).toInt := tl_slot (h38.1 175 12 id)
            have mM37_13 : (M37.1 175 13).toInt = (M33.1 175 13).toInt := tl_slot (h38.1 175 13 id)
            have mM37_14 : (M37.1 175 14).toInt = (M33.1 175 14).toInt := tl_slot (h38.1 175 14 id)
            have mM37_15 : (M37.1 175 15).toInt = (M33.1 175 15).toInt := tl_slot (h38.1 175 15 id)
            refine li_bipush 42 dX12_product_35 (by decide) ?_
            have J45 : ∀ (x40 : Int32) (M41 : li_M), li_fs (fun i k => (i = 175 ∧ k = 14) ∨ (i = 175 ∧ k = 15)) M0 M41 → li_J M41 → (M41.1 175 14).toInt + 1 ≤ (M41.1 175 12).toInt ∧ (M41.1 175 14).toInt + 1 ≤ (M41.1 175 13).toInt ∧ (M5.1 175 14).toInt ≤ (M41.1 175 14).toInt → li_T l Z YX12_product d 45 [(2, .int x4), (0, .ref (Z.2.2 175)), (1, .int p1)] [.int x40] M41 (fun r M' => (∃ x : Int32, r = some (.int x) ∧ ((M0.1 175 14).toInt ≤ (M'.1 175 14).toInt ∧ ((M0.1 175 14).toInt ≤ (M0.1 175 13).toInt → (M'.1 175 14).toInt ≤ (M0.1 175 13).toInt))) ∧ li_fs (fun i k => (i = 175 ∧ k = 14) ∨ (i = 175 ∧ k = 15)) M0 M' ∧ li_J M') := by
              intro x40 M41 hf hJ hi
              have gx40 := tl_rg x40
              have rM41_12 := J_sl12 (M := M41) hJ
              have rM41_13 := J_sl13 (M := M41) hJ
              have rM41_14 := J_sl14 (M := M41) hJ
              have rM41_15 := J_sl15 (M := M41) hJ
              have mM41_12 : (M41.1 175 12).toInt = (M0.1 175 12).toInt := tl_slot (hf.1 175 12 (show ¬ ((175 = 175 ∧ 12 = 14) ∨ (175 = 175 ∧ 12 = 15)) by decide))
              have mM41_13 : (M41.1 175 13).toInt = (M0.1 175 13).toInt := tl_slot (hf.1 175 13 (show ¬ ((175 = 175 ∧ 13 = 14) ∨ (175 = 175 ∧ 13 = 15)) by decide))
              refine li_istore_n [(3, .int x40), (2, .int x4), (0, .ref (Z.2.2 175)), (1, .int p1)] dX12_product_45 (by decide) rfl ?_
              refine li_aload_n 2 dX12_product_46 rfl ?_
              refine li_dup dX12_product_47 rfl ?_
              refine li_geti (k := 14) (N := 52) (T := TX12) (C0 := RX12) dX12_product_48 (by decide) sh_175 rfl rfl (by decide) li_in12 w_1418 ?_
              refine li_top (fun x42 ex42 => ?_)
              have gx42 : 0 ≤ x42.toInt ∧ x42.toInt ≤ 81 := by rw [ex42]; exact J_sl14 hJ
              have mx42 : x42.toInt = (M41.1 175 14).toInt := tl_slot ex42
              refine li_iconst 1 dX12_product_51 (by decide) ?_
              refine li_iadd dX12_product_52 ?_
              refine li_top (fun x43 ex43 => ?_)
              have z1 : (1 : Int32).toInt = 1 := rfl
              try (have tx43 : x43.toInt = (x42 : Int32).toInt + (1 : Int32).toInt := tl_add ex43 (by omega))
              refine li_puti (k := 14) (N := 52) (T := TX12) (C0 := RX12) dX12_product_53 (by decide) sh_175 rfl rfl (by decide) li_in12 tyX12_ok nmX12 rfl rfl rfl rfl w_1418 ?_
              refine li_nm (fun M44 eM44 => ?_)
              have hf := li_fs_ui hf (Or.inl ⟨rfl, rfl⟩) eM44
              have hJ := J_pt14 hJ (show 0 ≤ (x43 : Int32).toInt ∧ (x43 : Int32).toInt ≤ 81 by omega) eM44
              have rM44_12 := J_sl12 (M := M44) hJ
              have rM44_13 := J_sl13 (M := M44) hJ
              have rM44_14 := J_sl14 (M := M44) hJ
              have rM44_15 := J_sl15 (M := M44) hJ
              have mM44_12 : (M44.1 175 12).toInt = (M41.1 175 12).toInt := by rw [eM44, li_ui_at, if_pos rfl, if_neg (by decide)]
              have mM44_13 : (M44.1 175 13).toInt = (M41.1 175 13).toInt := by rw [eM44, li_ui_at, if_pos rfl, if_neg (by decide)]
              have mM44_14 : (M44.1 175 14).toInt = x43.toInt := by rw [eM44, li_ui_at, if_pos rfl, if_pos rfl]
              have mM44_15 : (M44.1 175 15).toInt = (M41.1 175 15).toInt := by rw [eM44, li_ui_at, if_pos rfl, if_neg (by decide)]
              refine li_aload_n 2 dX12_product_56 rfl ?_
              refine li_iload_n 3 dX12_product_57 rfl ?_
              refine li_callV (n := 1) (As := [.int p1]) dX12_product_58 (PT p1 M44 hJ (by omega)) (by omega) (Nat.le_of_ble_eq_true rfl) w_1637 w_1639 w_55 w_112 w_1640 (by decide +kernel) rfl (by decide) sh_175 rfl rfl (Nat.le_of_ble_eq_true rfl) (fun r M46 h47 => ?_)
              obtain ⟨⟨x45, rfl, qx45⟩, h47, jM46⟩ := h47
              have gx45 := tl_rg x45
              have hf := li_fs_trans hf h47 (fun i k => fun h => Or.elim h (fun h => Or.inl h) (fun h => Or.inr h))
              have hJ := jM46
              have rM46_12 := J_sl12 (M := M46) hJ
              have rM46_13 := J_sl13 (M := M46) hJ
              have rM46_14 := J_sl14 (M := M46) hJ
              have rM46_15 := J_sl15 (M := M46) hJ
              have mM46_12 : (M46.1 175 12).toInt = (M44.1 175 12).toInt := tl_slot (h47.1 175 12 (show ¬ ((175 = 175 ∧ 12 = 14) ∨ (175 = 175 ∧ 12 = 15)) by decide))
              have mM46_13 : (M46.1 175 13).toInt = (M44.1 175 13).toInt := tl_slot (h47.1 175 13 (show ¬ ((175 = 175 ∧ 13 = 14) ∨ (175 = 175 ∧ 13 = 15)) by decide))
              refine li_istore [(4, .int x45), (3, .int x40), (2, .int x4), (0, .ref (Z.2.2 175)), (1, .int p1)] dX12_product_61 (by decide) rfl ?_
              refine li_iload_n 1 dX12_product_63 rfl ?_
              have J87 : ∀ (x49 : Int32) (M50 : li_M), li_fs (fun i k => (i = 175 ∧ k = 14) ∨ (i = 175 ∧ k = 15)) M0 M50 → li_J M50 → (M5.1 175 14).toInt + 1 ≤ (M50.1 175 14).toInt ∧ ((M0.1 175 14).toInt ≤ (M0.1 175 13).toInt → (M50.1 175 14).toInt ≤ (M0.1 175 13).toInt) → li_T l Z YX12_product d 87 [(4, .int x45), (3, .int x40), (2, .int x4), (0, .ref (Z.2.2 175)), (1, .int p1)] [.int x49] M50 (fun r M' => (∃ x : Int32, r = some (.int x) ∧ ((M0.1 175 14).toInt ≤ (M'.1 175 14).toInt ∧ ((M0.1 175 14).toInt ≤ (M0.1 175 13).toInt → (M'.1 175 14).toInt ≤ (M0.1 175 13).toInt))) ∧ li_fs (fun i k => (i = 175 ∧ k = 14) ∨ (i = 175 ∧ k = 15)) M0 M' ∧ li_J M') := by
                intro x49 M50 hf hJ hi
                have gx49 := tl_rg x49
                have rM50_12 := J_sl12 (M := M50) hJ
                have rM50_13 := J_sl13 (M := M50) hJ
                have rM50_14 := J_sl14 (M := M50) hJ
                have rM50_15 := J_sl15 (M := M50) hJ
                have mM50_12 : (M50.1 175 12).toInt = (M0.1 175 12).toInt := tl_slot (hf.1 175 12 (show ¬ ((175 = 175 ∧ 12 = 14) ∨ (175 = 175 ∧ 12 = 15)) by decide))
                have mM50_13 : (M50.1 175 13).toInt = (M0.1 175 13).toInt := tl_slot (hf.1 175 13 (show ¬ ((175 = 175 ∧ 13 = 14) ∨ (175 = 175 ∧ 13 = 15)) by decide))
                refine li_istore_n [(2, .int x49), (4, .int x45), (3, .int x40), (0, .ref (Z.2.2 175)), (1, .int p1)] dX12_product_87 (by decide) rfl ?_
                refine li_goto 6 dX12_product_88 (by decide) ?_
                refine li_pick [0, 3, 4] [(2, .int x49), (0, .ref (Z.2.2 175)), (1, .int p1)] rfl ?_
                exact ih6 x49 M50 (by omega) hf hJ (by omega)
              refine li_if_eq 74 dX12_product_64 (by decide) (fun c48 => ?_) (fun c48 => ?_)
              · have tc48 : x40.toInt = 0 := tl_eq c48
                refine li_iload 0 dX12_product_74 rfl ?_
                refine li_if_ne 83 dX12_product_76 (by decide) (fun c51 => ?_) (fun c51 => ?_)
                · have tc51 : ¬ x45.toInt = 0 := tl_ne c51
                  refine li_iload_n 2 dX12_product_83 rfl ?_
                  refine li_iload 0 dX12_product_84 rfl ?_
                  refine li_idiv dX12_product_86 (by assumption) ?_
                  refine li_top (fun x52 ex52 => ?_)
                  refine li_pick [0, 1, 2, 3, 4] [(4, .int x45), (3, .int x40), (2, .int x4), (0, .ref (Z.2.2 175)), (1, .int p1)] rfl ?_
                  exact J87 x52 M46 hf hJ (by omega)
                · have tc51 : x45.toInt = 0 := tl_eq c51
                  refine li_iconst 0 dX12_product_79 (by decide) ?_
                  refine li_goto 87 dX12_product_80 (by decide) ?_
                  refine li_pick [0, 1, 2, 3, 4] [(4, .int x45), (3, .int x40), (2, .int x4), (0, .ref (Z.2.2 175)), (1, .int p1)] rfl ?_
                  have z0 : (0 : Int32).toInt = 0 := rfl
                  exact J87 0 M46 hf hJ (by omega)
              · have tc48 : ¬ x40.toInt = 0 := tl_ne c48
                refine li_iload_n 2 dX12_product_67 rfl ?_
                refine li_iload 0 dX12_product_68 rfl ?_
                refine li_imul dX12_product_70 ?_
                refine li_top (fun x53 ex53 => ?_)
                refine li_goto 87 dX12_product_71 (by decide) ?_
                refine li_pick [0, 1, 2, 3, 4] [(4, .int x45), (3, .int x40), (2, .int x4), (0, .ref (Z.2.2 175)), (1, .int p1)] rfl ?_
                exact J87 x53 M46 hf hJ (by omega)
            refine li_icmp_ne 44 dX12_product_37 (by decide) (fun c39 => ?_) (fun c39 => ?_)
            · have tc39 : ¬ x36.toInt = 42 := tl_ne c39
              refine li_iconst 0 dX12_product_44 (by decide) ?_
              refine li_pick [0, 1, 2] [(2, .int x4), (0, .ref (Z.2.2 175)), (1, .int p1)] rfl ?_
              have z0 : (0 : Int32).toInt = 0 := rfl
              exact J45 0 M37 hf hJ (by omega)
            · have tc39 : x36.toInt = 42 := tl_eq c39
              refine li_iconst 1 dX12_product_40 (by decide) ?_
              refine li_goto 45 dX12_product_41 (by decide) ?_
              refine li_pick [0, 1, 2] [(2, .int x4), (0, .ref (Z.2.2 175)), (1, .int p1)] rfl ?_
              have z1 : (1 : Int32).toInt = 1 := rfl
              exact J45 1 M37 hf hJ (by omega)
      · skip
        refine li_if_eq 91 dX12_product_10 (by decide) (fun c => ?_) (fun c => absurd rfl c)
        refine li_iload_n 0 dX12_product_91 rfl ?_
        exact li_iret dX12_product_92 rfl rfl ⟨⟨_, rfl, (by first | omega | (intro _; omega) | (refine ⟨?_, ?_⟩ <;> first | omega | (intro _; omega)) | (refine ⟨?_, ?_, ?_, ?_⟩ <;> first | omega | (intro _; omega)))⟩, hf, hJ⟩
  exact L6 _ x1 M2 (Nat.lt_succ_self _) hf hJ (by omega)
set_option maxRecDepth 100000 in
set_option maxHeartbeats 4000000 in
theorem k_X12_sum {l : Launch} {Z : li_Z} (d : Nat) (hd : 2 ≤ d) (p1 : Int32) (dE : Nat) (hE : dE + 1 ≤ d) (M0 : li_M) (hJ : li_J M0) (PR : ∀ (q : Int32) (M : li_M), li_J M → (M0.1 175 14).toInt ≤ (M.1 175 14).toInt → li_Met l Z YX12_product dE [.ref (Z.2.2 175), .int q] M (fun r M' => (∃ x : Int32, r = some (.int x) ∧ (M.1 175 14).toInt ≤ (M'.1 175 14).toInt ∧ ((M.1 175 14).toInt ≤ (M.1 175 13).toInt → (M'.1 175 14).toInt ≤ (M.1 175 13).toInt)) ∧ li_fs (fun i k => (i = 175 ∧ k = 14) ∨ (i = 175 ∧ k = 15)) M M' ∧ li_J M')) : li_Met l Z YX12_sum d [.ref (Z.2.2 175), .int p1] M0 (fun r M' => (∃ x : Int32, r = some (.int x) ∧ ((M0.1 175 14).toInt ≤ (M'.1 175 14).toInt ∧ ((M0.1 175 14).toInt ≤ (M0.1 175 13).toInt → (M'.1 175 14).toInt ≤ (M0.1 175 13).toInt))) ∧ li_fs (fun i k => (i = 175 ∧ k = 14) ∨ (i = 175 ∧ k = 15)) M0 M' ∧ li_J M') := by
  refine li_enter (by decide +kernel) (Nat.le_of_ble_eq_true rfl) ?_
  show li_T l Z YX12_sum d 0 [(0, .ref (Z.2.2 175)), (1, .int p1)] [] M0 _
  have hf : li_fs (fun i k => (i = 175 ∧ k = 14) ∨ (i = 175 ∧ k = 15)) M0 M0 := li_fs_refl
  have gp1 := tl_rg p1
  have rM0_12 := J_sl12 (M := M0) hJ
  have rM0_13 := J_sl13 (M := M0) hJ
  have rM0_14 := J_sl14 (M := M0) hJ
  have rM0_15 := J_sl15 (M := M0) hJ
  refine li_aload_n 0 dX12_sum_0 rfl ?_
  refine li_iload_n 1 dX12_sum_1 rfl ?_
  refine li_callV (n := 1) (As := [.int p1]) dX12_sum_2 (PR p1 M0 hJ (by omega)) (by omega) (Nat.le_of_ble_eq_true rfl) w_1633 w_1635 w_54 w_112 w_1636 (by decide +kernel) rfl (by decide) sh_175 rfl rfl (Nat.le_of_ble_eq_true rfl) (fun r M2 h3 => ?_)
  obtain ⟨⟨x1, rfl, qx1⟩, h3, jM2⟩ := h3
  have gx1 := tl_rg x1
  have hf := li_fs_trans hf h3 (fun i k => fun h => Or.elim h (fun h => Or.inl h) (fun h => Or.inr h))
  have hJ := jM2
  have rM2_12 := J_sl12 (M := M2) hJ
  have rM2_13 := J_sl13 (M := M2) hJ
  have rM2_14 := J_sl14 (M := M2) hJ
  have rM2_15 := J_sl15 (M := M2) hJ
  have mM2_12 : (M2.1 175 12).toInt = (M0.1 175 12).toInt := tl_slot (h3.1 175 12 (show ¬ ((175 = 175 ∧ 12 = 14) ∨ (175 = 175 ∧ 12 = 15)) by decide))
  have mM2_13 : (M2.1 175 13).toInt = (M0.1 175 13).toInt := tl_slot (h3.1 175 13 (show ¬ ((175 = 175 ∧ 13 = 14) ∨ (175 = 175 ∧ 13 = 15)) by decide))
  refine li_istore_n [(2, .int x1), (0, .ref (Z.2.2 175)), (1, .int p1)] dX12_sum_5 (by decide) rfl ?_
  have L6 : ∀ (n : Nat) (x4 : Int32) (M5 : li_M), (81 - (M5.1 175 14).toInt).toNat < n → li_fs (fun i k => (i = 175 ∧ k = 14) ∨ (i = 175 ∧ k = 15)) M0 M5 → li_J M5 → (M0.1 175 14).toInt ≤ (M5.1 175 14).toInt ∧ ((M0.1 175 14).toInt ≤ (M0.1 175 13).toInt → (M5.1 175 14).toInt ≤ (M0.1 175 13).toInt) → li_T l Z YX12_sum d 6 [(2, .int x4), (0, .ref (Z.2.2 175)), (1, .int p1)] [] M5 (fun r M' => (∃ x : Int32, r = some (.int x) ∧ ((M0.1 175 14).toInt ≤ (M'.1 175 14).toInt ∧ ((M0.1 175 14).toInt ≤ (M0.1 175 13).toInt → (M'.1 175 14).toInt ≤ (M0.1 175 13).toInt))) ∧ li_fs (fun i k => (i = 175 ∧ k = 14) ∨ (i = 175 ∧ k = 15)) M0 M' ∧ li_J M') := by
    intro n
    induction n with
    | zero => intro x4 M5 hn; exact absurd hn (Nat.not_lt_zero _)
    | succ n ih6 =>
      intro x4 M5 hn hf hJ hi
      have gx4 := tl_rg x4
      have rM5_12 := J_sl12 (M := M5) hJ
      have rM5_13 := J_sl13 (M := M5) hJ
      have rM5_14 := J_sl14 (M := M5) hJ
      have rM5_15 := J_sl15 (M := M5) hJ
      have mM5_12 : (M5.1 175 12).toInt = (M0.1 175 12).toInt := tl_slot (hf.1 175 12 (show ¬ ((175 = 175 ∧ 12 = 14) ∨ (175 = 175 ∧ 12 = 15)) by decide))
      have mM5_13 : (M5.1 175 13).toInt = (M0.1 175 13).toInt := tl_slot (hf.1 175 13 (show ¬ ((175 = 175 ∧ 13 = 14) ∨ (175 = 175 ∧ 13 = 15)) by decide))
      refine li_aload_n 1 dX12_sum_6 rfl ?_
      refine li_callV (n := 0) (As := []) dX12_sum_7 (k_X12_fine (d - 1) (by omega)  M5 hJ ) (by omega) (Nat.le_of_ble_eq_true rfl) w_1581 w_1583 w_43 w_112 w_1584 (by decide +kernel) rfl (by decide) sh_175 rfl rfl (Nat.le_of_ble_eq_true rfl) (fun r M7 h8 => ?_)
      obtain ⟨qx6, h8, jM7⟩ := h8
      have hf := li_fs_trans hf h8 (fun i k h => False.elim h)
      have kM7 : (li_hr M7).toInt = (li_hr M5).toInt := li_hr_fs h8 id id id id (fun _ _ _ => id) (by assumption)
      have hJ := jM7
      have rM7_12 := J_sl12 (M := M7) hJ
      have rM7_13 := J_sl13 (M := M7) hJ
      have rM7_14 := J_sl14 (M := M7) hJ
      have rM7_15 := J_sl15 (M := M7) hJ
      have mM7_12 : (M7.1 175 12).toInt = (M5.1 175 12).toInt := tl_slot (h8.1 175 12 id)
      have mM7_13 : (M7.1 175 13).toInt = (M5.1 175 13).toInt := tl_slot (h8.1 175 13 id)
      have mM7_14 : (M7.1 175 14).toInt = (M5.1 175 14).toInt := tl_slot (h8.1 175 14 id)
      have mM7_15 : (M7.1 175 15).toInt = (M5.1 175 15).toInt := tl_slot (h8.1 175 15 id)
      rcases qx6 with ⟨rfl, qx6⟩ | ⟨rfl, qx6⟩
      · skip
        refine li_if_eq 82 dX12_sum_10 (by decide) (fun c => absurd c (by decide)) (fun c => ?_)
        refine li_aload_n 1 dX12_sum_13 rfl ?_
        refine li_callV (n := 0) (As := []) dX12_sum_14 (k_X12_here (d - 1) (by omega)  M7 hJ ) (by omega) (Nat.le_of_ble_eq_true rfl) w_1597 w_1599 w_47 w_112 w_1600 (by decide +kernel) rfl (by decide) sh_175 rfl rfl (Nat.le_of_ble_eq_true rfl) (fun r M11 h12 => ?_)
        obtain ⟨⟨x10, rfl, qx10⟩, h12, jM11⟩ := h12
        have gx10 := tl_rg x10
        have hf := li_fs_trans hf h12 (fun i k h => False.elim h)
        have kM11 : (li_hr M11).toInt = (li_hr M7).toInt := li_hr_fs h12 id id id id (fun _ _ _ => id) (by assumption)
        have hJ := jM11
        have rM11_12 := J_sl12 (M := M11) hJ
        have rM11_13 := J_sl13 (M := M11) hJ
        have rM11_14 := J_sl14 (M := M11) hJ
        have rM11_15 := J_sl15 (M := M11) hJ
        have mM11_12 : (M11.1 175 12).toInt = (M7.1 175 12).toInt := tl_slot (h12.1 175 12 id)
        have mM11_13 : (M11.1 175 13).toInt = (M7.1 175 13).toInt := tl_slot (h12.1 175 13 id)
        have mM11_14 : (M11.1 175 14).toInt = (M7.1 175 14).toInt := tl_slot (h12.1 175 14 id)
        have mM11_15 : (M11.1 175 15).toInt = (M7.1 175 15).toInt := tl_slot (h12.1 175 15 id)
        refine li_bipush 43 dX12_sum_17 (by decide) ?_
        refine li_icmp_eq 31 dX12_sum_19 (by decide) (fun c13 => ?_) (fun c13 => ?_)
        · have tc13 : x10.toInt = 43 := tl_eq c13
          refine li_aload_n 1 dX12_sum_31 rfl ?_
          refine li_callV (n := 0) (As := []) dX12_sum_32 (k_X12_here (d - 1) (by omega)  M11 hJ ) (by omega) (Nat.le_of_ble_eq_true rfl) w_1597 w_1599 w_47 w_112 w_1600 (by decide +kernel) rfl (by decide) sh_175 rfl rfl (Nat.le_of_ble_eq_true rfl) (fun r M15 h16 => ?_)
          obtain ⟨⟨x14, rfl, qx14⟩, h16, jM15⟩ := h16
          have gx14 := tl_rg x14
          have hf := li_fs_trans hf h16 (fun i k h => False.elim h)
          have kM15 : (li_hr M15).toInt = (li_hr M11).toInt := li_hr_fs h16 id id id id (fun _ _ _ => id) (by assumption)
          have hJ := jM15
          have rM15_12 := J_sl12 (M := M15) hJ
          have rM15_13 := J_sl13 (M := M15) hJ
          have rM15_14 := J_sl14 (M := M15) hJ
          have rM15_15 := J_sl15 (M := M15) hJ
          have mM15_12 : (M15.1 175 12).toInt = (M11.1 175 12).toInt := tl_slot (h16.1 175 12 id)
          have mM15_13 : (M15.1 175 13).toInt = (M11.1 175 13).toInt := tl_slot (h16.1 175 13 id)
          have mM15_14 : (M15.1 175 14).toInt = (M11.1 175 14).toInt := tl_slot (h16.1 175 14 id)
          have mM15_15 : (M15.1 175 15).toInt = (M11.1 175 15).toInt := tl_slot (h16.1 175 15 id)
          refine li_bipush 43 dX12_sum_35 (by decide) ?_
          have J45 : ∀ (x18 : Int32) (M19 : li_M), li_fs (fun i k => (i = 175 ∧ k = 14) ∨ (i = 175 ∧ k = 15)) M0 M19 → li_J M19 → (M19.1 175 14).toInt + 1 ≤ (M19.1 175 12).toInt ∧ (M19.1 175 14).toInt + 1 ≤ (M19.1 175 13).toInt ∧ (M5.1 175 14).toInt ≤ (M19.1 175 14).toInt → li_T l Z YX12_sum d 45 [(2, .int x4), (0, .ref (Z.2.2 175)), (1, .int p1)] [.int x18] M19 (fun r M' => (∃ x : Int32, r = some (.int x) ∧ ((M0.1 175 14).toInt ≤ (M'.1 175 14).toInt ∧ ((M0.1 175 14).toInt ≤ (M0.1 175 13).toInt → (M'.1 175 14).toInt ≤ (M0.1 175 13).toInt))) ∧ li_fs (fun i k => (i = 175 ∧ k = 14) ∨ (i = 175 ∧ k = 15)) M0 M' ∧ li_J M') := by
            intro x18 M19 hf hJ hi
            have gx18 := tl_rg x18
            have rM19_12 := J_sl12 (M := M19) hJ
            have rM19_13 := J_sl13 (M := M19) hJ
            have rM19_14 := J_sl14 (M := M19) hJ
            have rM19_15 := J_sl15 (M := M19) hJ
            have mM19_12 : (M19.1 175 12).toInt = (M0.1 175 12).toInt := tl_slot (hf.1 175 12 (show ¬ ((175 = 175 ∧ 12 = 14) ∨ (175 = 175 ∧ 12 = 15)) by decide))
            have mM19_13 : (M19.1 175 13).toInt = (M0.1 175 13).toInt := tl_slot (hf.1 175 13 (show ¬ ((175 = 175 ∧ 13 = 14) ∨ (175 = 175 ∧ 13 = 15)) by decide))
            refine li_istore_n [(3, .int x18), (2, .int x4), (0, .ref (Z.2.2 175)), (1, .int p1)] dX12_sum_45 (by decide) rfl ?_
            refine li_aload_n 2 dX12_sum_46 rfl ?_
            refine li_dup dX12_sum_47 rfl ?_
            refine li_geti (k := 14) (N := 52) (T := TX12) (C0 := RX12) dX12_sum_48 (by decide) sh_175 rfl rfl (by decide) li_in12 w_1418 ?_
            refine li_top (fun x20 ex20 => ?_)
            have gx20 : 0 ≤ x20.toInt ∧ x20.toInt ≤ 81 := by rw [ex20]; exact J_sl14 hJ
            have mx20 : x20.toInt = (M19.1 175 14).toInt := tl_slot ex20
            refine li_iconst 1 dX12_sum_51 (by decide) ?_
            refine li_iadd dX12_sum_52 ?_
            refine li_top (fun x21 ex21 => ?_)
            have z1 : (1 : Int32).toInt = 1 := rfl
            try (have tx21 : x21.toInt = (x20 : Int32).toInt + (1 : Int32).toInt := tl_add ex21 (by omega))
            refine li_puti (k := 14) (N := 52) (T := TX12) (C0 := RX12) dX12_sum_53 (by decide) sh_175 rfl rfl (by decide) li_in12 tyX12_ok nmX12 rfl rfl rfl rfl w_1418 ?_
            refine li_nm (fun M22 eM22 => ?_)
            have hf := li_fs_ui hf (Or.inl ⟨rfl, rfl⟩) eM22
            have hJ := J_pt14 hJ (show 0 ≤ (x21 : Int32).toInt ∧ (x21 : Int32).toInt ≤ 81 by omega) eM22
            have rM22_12 := J_sl12 (M := M22) hJ
            have rM22_13 := J_sl13 (M := M22) hJ
            have rM22_14 := J_sl14 (M := M22) hJ
            have rM22_15 := J_sl15 (M := M22) hJ
            have mM22_12 : (M22.1 175 12).toInt = (M19.1 175 12).toInt := by rw [eM22, li_ui_at, if_pos rfl, if_neg (by decide)]
            have mM22_13 : (M22.1 175 13).toInt = (M19.1 175 13).toInt := by rw [eM22, li_ui_at, if_pos rfl, if_neg (by decide)]
            have mM22_14 : (M22.1 175 14).toInt = x21.toInt := by rw [eM22, li_ui_at, if_pos rfl, if_pos rfl]
            have mM22_15 : (M22.1 175 15).toInt = (M19.1 175 15).toInt := by rw [eM22, li_ui_at, if_pos rfl, if_neg (by decide)]
            refine li_aload_n 2 dX12_sum_56 rfl ?_
            refine li_iload_n 3 dX12_sum_57 rfl ?_
            refine li_callV (n := 1) (As := [.int p1]) dX12_sum_58 (PR p1 M22 hJ (by omega)) (by omega) (Nat.le_of_ble_eq_true rfl) w_1633 w_1635 w_54 w_112 w_1636 (by decide +kernel) rfl (by decide) sh_175 rfl rfl (Nat.le_of_ble_eq_true rfl) (fun r M24 h25 => ?_)
            obtain ⟨⟨x23, rfl, qx23⟩, h25, jM24⟩ := h25
            have gx23 := tl_rg x23
            have hf := li_fs_trans hf h25 (fun i k => fun h => Or.elim h (fun h => Or.inl h) (fun h => Or.inr h))
            have hJ := jM24
            have rM24_12 := J_sl12 (M := M24) hJ
            have rM24_13 := J_sl13 (M := M24) hJ
            have rM24_14 := J_sl14 (M := M24) hJ
            have rM24_15 := J_sl15 (M := M24) hJ
            have mM24_12 : (M24.1 175 12).toInt = (M22.1 175 12).toInt := tl_slot (h25.1 175 12 (show ¬ ((175 = 175 ∧ 12 = 14) ∨ (175 = 175 ∧ 12 = 15)) by decide))
            have mM24_13 : (M24.1 175 13).toInt = (M22.1 175 13).toInt := tl_slot (h25.1 175 13 (show ¬ ((175 = 175 ∧ 13 = 14) ∨ (175 = 175 ∧ 13 = 15)) by decide))
            refine li_istore [(4, .int x23), (3, .int x18), (2, .int x4), (0, .ref (Z.2.2 175)), (1, .int p1)] dX12_sum_61 (by decide) rfl ?_
            refine li_iload_n 1 dX12_sum_63 rfl ?_
            have J78 : ∀ (x27 : Int32) (M28 : li_M), li_fs (fun i k => (i = 175 ∧ k = 14) ∨ (i = 175 ∧ k = 15)) M0 M28 → li_J M28 → (M5.1 175 14).toInt + 1 ≤ (M28.1 175 14).toInt ∧ ((M0.1 175 14).toInt ≤ (M0.1 175 13).toInt → (M28.1 175 14).toInt ≤ (M0.1 175 13).toInt) → li_T l Z YX12_sum d 78 [(4, .int x23), (3, .int x18), (2, .int x4), (0, .ref (Z.2.2 175)), (1, .int p1)] [.int x27] M28 (fun r M' => (∃ x : Int32, r = some (.int x) ∧ ((M0.1 175 14).toInt ≤ (M'.1 175 14).toInt ∧ ((M0.1 175 14).toInt ≤ (M0.1 175 13).toInt → (M'.1 175 14).toInt ≤ (M0.1 175 13).toInt))) ∧ li_fs (fun i k => (i = 175 ∧ k = 14) ∨ (i = 175 ∧ k = 15)) M0 M' ∧ li_J M') := by
              intro x27 M28 hf hJ hi
              have gx27 := tl_rg x27
              have rM28_12 := J_sl12 (M := M28) hJ
              have rM28_13 := J_sl13 (M := M28) hJ
              have rM28_14 := J_sl14 (M := M28) hJ
              have rM28_15 := J_sl15 (M := M28) hJ
              have mM28_12 : (M28.1 175 12).toInt = (M0.1 175 12).toInt := tl_slot (hf.1 175 12 (show ¬ ((175 = 175 ∧ 12 = 14) ∨ (175 = 175 ∧ 12 = 15)) by decide))
              have mM28_13 : (M28.1 175 13).toInt = (M0.1 175 13).toInt := tl_slot (hf.1 175 13 (show ¬ ((175 = 175 ∧ 13 = 14) ∨ (175 = 175 ∧ 13 = 15)) by decide))
              refine li_istore_n [(2, .int x27), (4, .int x23), (3, .int x18), (0, .ref (Z.2.2 175)), (1, .int p1)] dX12_sum_78 (by decide) rfl ?_
              refine li_goto 6 dX12_sum_79 (by decide) ?_
              refine li_pick [0, 3, 4] [(2, .int x27), (0, .ref (Z.2.2 175)), (1, .int p1)] rfl ?_
              exact ih6 x27 M28 (by omega) hf hJ (by omega)
            refine li_if_eq 74 dX12_sum_64 (by decide) (fun c26 => ?_) (fun c26 => ?_)
            · have tc26 : x18.toInt = 0 := tl_eq c26
              refine li_iload_n 2 dX12_sum_74 rfl ?_
              refine li_iload 0 dX12_sum_75 rfl ?_
              refine li_isub dX12_sum_77 ?_
              refine li_top (fun x29 ex29 => ?_)
              try (have tx29 : x29.toInt = (x4 : Int32).toInt - (x23 : Int32).toInt := tl_sub ex29 (by omega))
              refine li_pick [0, 1, 2, 3, 4] [(4, .int x23), (3, .int x18), (2, .int x4), (0, .ref (Z.2.2 175)), (1, .int p1)] rfl ?_
              exact J78 x29 M24 hf hJ (by omega)
            · have tc26 : ¬ x18.toInt = 0 := tl_ne c26
              refine li_iload_n 2 dX12_sum_67 rfl ?_
              refine li_iload 0 dX12_sum_68 rfl ?_
              refine li_iadd dX12_sum_70 ?_
              refine li_top (fun x30 ex30 => ?_)
              try (have tx30 : x30.toInt = (x4 : Int32).toInt + (x23 : Int32).toInt := tl_add ex30 (by omega))
              refine li_goto 78 dX12_sum_71 (by decide) ?_
              refine li_pick [0, 1, 2, 3, 4] [(4, .int x23), (3, .int x18), (2, .int x4), (0, .ref (Z.2.2 175)), (1, .int p1)] rfl ?_
              exact J78 x30 M24 hf hJ (by omega)
          refine li_icmp_ne 44 dX12_sum_37 (by decide) (fun c17 => ?_) (fun c17 => ?_)
          · have tc17 : ¬ x14.toInt = 43 := tl_ne c17
            refine li_iconst 0 dX12_sum_44 (by decide) ?_
            refine li_pick [0, 1, 2] [(2, .int x4), (0, .ref (Z.2.2 175)), (1, .int p1)] rfl ?_
            have z0 : (0 : Int32).toInt = 0 := rfl
            exact J45 0 M15 hf hJ (by omega)
          · have tc17 : x14.toInt = 43 := tl_eq c17
            refine li_iconst 1 dX12_sum_40 (by decide) ?_
            refine li_goto 45 dX12_sum_41 (by decide) ?_
            refine li_pick [0, 1, 2] [(2, .int x4), (0, .ref (Z.2.2 175)), (1, .int p1)] rfl ?_
            have z1 : (1 : Int32).toInt = 1 := rfl
            exact J45 1 M15 hf hJ (by omega)
        · have tc13 : ¬ x10.toInt = 43 := tl_ne c13
          refine li_aload_n 1 dX12_sum_22 rfl ?_
          refine li_callV (n := 0) (As := []) dX12_sum_23 (k_X12_here (d - 1) (by omega)  M11 hJ ) (by omega) (Nat.le_of_ble_eq_true rfl) w_1597 w_1599 w_47 w_112 w_1600 (by decide +kernel) rfl (by decide) sh_175 rfl rfl (Nat.le_of_ble_eq_true rfl) (fun r M32 h33 => ?_)
          obtain ⟨⟨x31, rfl, qx31⟩, h33, jM32⟩ := h33
          have gx31 := tl_rg x31
          have hf := li_fs_trans hf h33 (fun i k h => False.elim h)
          have kM32 : (li_hr M32).toInt = (li_hr M11).toInt := li_hr_fs h33 id id id id (fun _ _ _ => id) (by assumption)
          have hJ := jM32
          have rM32_12 := J_sl12 (M := M32) hJ
          have rM32_13 := J_sl13 (M := M32) hJ
          have rM32_14 := J_sl14 (M := M32) hJ
          have rM32_15 := J_sl15 (M := M32) hJ
          have mM32_12 : (M32.1 175 12).toInt = (M11.1 175 12).toInt := tl_slot (h33.1 175 12 id)
          have mM32_13 : (M32.1 175 13).toInt = (M11.1 175 13).toInt := tl_slot (h33.1 175 13 id)
          have mM32_14 : (M32.1 175 14).toInt = (M11.1 175 14).toInt := tl_slot (h33.1 175 14 id)
          have mM32_15 : (M32.1 175 15).toInt = (M11.1 175 15).toInt := tl_slot (h33.1 175 15 id)
          refine li_bipush 45 dX12_sum_26 (by decide) ?_
          refine li_icmp_ne 82 dX12_sum_28 (by decide) (fun c34 => ?_) (fun c34 => ?_)
          · have tc34 : ¬ x31.toInt = 45 := tl_ne c34
            refine li_iload_n 0 dX12_sum_82 rfl ?_
            exact li_iret dX12_sum_83 rfl rfl ⟨⟨_, rfl, (by first | omega | (intro _; omega) | (refine ⟨?_, ?_⟩ <;> first | omega | (intro _; omega)) | (refine ⟨?_, ?_, ?_, ?_⟩ <;> first | omega | (intro _; omega)))⟩, hf, hJ⟩
          · have tc34 : x31.toInt = 45 := tl_eq c34
            refine li_aload_n 1 dX12_sum_31 rfl ?_
            refine li_callV (n := 0) (As := []) dX12_sum_32 (k_X12_here (d - 1) (by omega)  M32 hJ ) (by omega) (Nat.le_of_ble_eq_true rfl) w_1597 w_1599 w_47 w_112 w_1600 (by decide +kernel) rfl (by decide) sh_175 rfl rfl (Nat.le_of_ble_eq_true rfl) (fun r M36 h37 => ?_)
            obtain ⟨⟨x35, rfl, qx35⟩, h37, jM36⟩ := h37
            have gx35 := tl_rg x35
            have hf := li_fs_trans hf h37 (fun i k h => False.elim h)
            have kM36 : (li_hr M36).toInt = (li_hr M32).toInt := li_hr_fs h37 id id id id (fun _ _ _ => id) (by assumption)
            have hJ := jM36
            have rM36_12 := J_sl12 (M := M36) hJ
            have rM36_13 := J_sl13 (M := M36) hJ
            have rM36_14 := J_sl14 (M := M36) hJ
            have rM36_15 := J_sl15 (M := M36) hJ
            have mM36_12 : (M36.1 175 12).toInt = (M32.1 175 12).toInt := tl_slot (h37.1 175 12 id)
            have mM36_13 : (M36.1 175 13).toInt = (M32.1 175 13).toInt := tl_slot (h37.1 175 13 id)
            have mM36_14 : (M36.1 175 14).toInt = (M32.1 175 14).toInt := tl_slot (h37.1 175 14 id)
            have mM36_15 : (M36.1 175 15).toInt = (M32.1 175 15).toInt := tl_slot (h37.1 175 15 id)
            refine li_bipush 43 dX12_sum_35 (by decide) ?_
            have J45 : ∀ (x39 : Int32) (M40 : li_M), li_fs (fun i k => (i = 175 ∧ k = 14) ∨ (i = 175 ∧ k = 15)) M0 M40 → li_J M40 → (M40.1 175 14).toInt + 1 ≤ (M40.1 175 12).toInt ∧ (M40.1 175 14).toInt + 1 ≤ (M40.1 175 13).toInt ∧ (M5.1 175 14).toInt ≤ (M40.1 175 14).toInt → li_T l Z YX12_sum d 45 [(2, .int x4), (0, .ref (Z.2.2 175)), (1, .int p1)] [.int x39] M40 (fun r M' => (∃ x : Int32, r = some (.int x) ∧ ((M0.1 175 14).toInt ≤ (M'.1 175 14).toInt ∧ ((M0.1 175 14).toInt ≤ (M0.1 175 13).toInt → (M'.1 175 14).toInt ≤ (M0.1 175 13).toInt))) ∧ li_fs (fun i k => (i = 175 ∧ k = 14) ∨ (i = 175 ∧ k = 15)) M0 M' ∧ li_J M') := by
              intro x39 M40 hf hJ hi
              have gx39 := tl_rg x39
              have rM40_12 := J_sl12 (M := M40) hJ
              have rM40_13 := J_sl13 (M := M40) hJ
              have rM40_14 := J_sl14 (M := M40) hJ
              have rM40_15 := J_sl15 (M := M40) hJ
              have mM40_12 : (M40.1 175 12).toInt = (M0.1 175 12).toInt := tl_slot (hf.1 175 12 (show ¬ ((175 = 175 ∧ 12 = 14) ∨ (175 = 175 ∧ 12 = 15)) by decide))
              have mM40_13 : (M40.1 175 13).toInt = (M0.1 175 13).toInt := tl_slot (hf.1 175 13 (show ¬ ((175 = 175 ∧ 13 = 14) ∨ (175 = 175 ∧ 13 = 15)) by decide))
              refine li_istore_n [(3, .int x39), (2, .int x4), (0, .ref (Z.2.2 175)), (1, .int p1)] dX12_sum_45 (by decide) rfl ?_
              refine li_aload_n 2 dX12_sum_46 rfl ?_
              refine li_dup dX12_sum_47 rfl ?_
              refine li_geti (k := 14) (N := 52) (T := TX12) (C0 := RX12) dX12_sum_48 (by decide) sh_175 rfl rfl (by decide) li_in12 w_1418 ?_
              refine li_top (fun x41 ex41 => ?_)
              have gx41 : 0 ≤ x41.toInt ∧ x41.toInt ≤ 81 := by rw [ex41]; exact J_sl14 hJ
              have mx41 : x41.toInt = (M40.1 175 14).toInt := tl_slot ex41
              refine li_iconst 1 dX12_sum_51 (by decide) ?_
              refine li_iadd dX12_sum_52 ?_
              refine li_top (fun x42 ex42 => ?_)
              have z1 : (1 : Int32).toInt = 1 := rfl
              try (have tx42 : x42.toInt = (x41 : Int32).toInt + (1 : Int32).toInt := tl_add ex42 (by omega))
              refine li_puti (k := 14) (N := 52) (T := TX12) (C0 := RX12) dX12_sum_53 (by decide) sh_175 rfl rfl (by decide) li_in12 tyX12_ok nmX12 rfl rfl rfl rfl w_1418 ?_
              refine li_nm (fun M43 eM43 => ?_)
              have hf := li_fs_ui hf (Or.inl ⟨rfl, rfl⟩) eM43
              have hJ := J_pt14 hJ (show 0 ≤ (x42 : Int32).toInt ∧ (x42 : Int32).toInt ≤ 81 by omega) eM43
              have rM43_12 := J_sl12 (M := M43) hJ
              have rM43_13 := J_sl13 (M := M43) hJ
              have rM43_14 := J_sl14 (M := M43) hJ
              have rM43_15 := J_sl15 (M := M43) hJ
              have mM43_12 : (M43.1 175 12).toInt = (M40.1 175 12).toInt := by rw [eM43, li_ui_at, if_pos rfl, if_neg (by decide)]
              have mM43_13 : (M43.1 175 13).toInt = (M40.1 175 13).toInt := by rw [eM43, li_ui_at, if_pos rfl, if_neg (by decide)]
              have mM43_14 : (M43.1 175 14).toInt = x42.toInt := by rw [eM43, li_ui_at, if_pos rfl, if_pos rfl]
              have mM43_15 : (M43.1 175 15).toInt = (M40.1 175 15).toInt := by rw [eM43, li_ui_at, if_pos rfl, if_neg (by decide)]
              refine li_aload_n 2 dX12_sum_56 rfl ?_
              refine li_iload_n 3 dX12_sum_57 rfl ?_
              refine li_callV (n := 1) (As := [.int p1]) dX12_sum_58 (PR p1 M43 hJ (by omega)) (by omega) (Nat.le_of_ble_eq_true rfl) w_1633 w_1635 w_54 w_112 w_1636 (by decide +kernel) rfl (by decide) sh_175 rfl rfl (Nat.le_of_ble_eq_true rfl) (fun r M45 h46 => ?_)
              obtain ⟨⟨x44, rfl, qx44⟩, h46, jM45⟩ := h46
              have gx44 := tl_rg x44
              have hf := li_fs_trans hf h46 (fun i k => fun h => Or.elim h (fun h => Or.inl h) (fun h => Or.inr h))
              have hJ := jM45
              have rM45_12 := J_sl12 (M := M45) hJ
              have rM45_13 := J_sl13 (M := M45) hJ
              have rM45_14 := J_sl14 (M := M45) hJ
              have rM45_15 := J_sl15 (M := M45) hJ
              have mM45_12 : (M45.1 175 12).toInt = (M43.1 175 12).toInt := tl_slot (h46.1 175 12 (show ¬ ((175 = 175 ∧ 12 = 14) ∨ (175 = 175 ∧ 12 = 15)) by decide))
              have mM45_13 : (M45.1 175 13).toInt = (M43.1 175 13).toInt := tl_slot (h46.1 175 13 (show ¬ ((175 = 175 ∧ 13 = 14) ∨ (175 = 175 ∧ 13 = 15)) by decide))
              refine li_istore [(4, .int x44), (3, .int x39), (2, .int x4), (0, .ref (Z.2.2 175)), (1, .int p1)] dX12_sum_61 (by decide) rfl ?_
              refine li_iload_n 1 dX12_sum_63 rfl ?_
              have J78 : ∀ (x48 : Int32) (M49 : li_M), li_fs (fun i k => (i = 175 ∧ k = 14) ∨ (i = 175 ∧ k = 15)) M0 M49 → li_J M49 → (M5.1 175 14).toInt + 1 ≤ (M49.1 175 14).toInt ∧ ((M0.1 175 14).toInt ≤ (M0.1 175 13).toInt → (M49.1 175 14).toInt ≤ (M0.1 175 13).toInt) → li_T l Z YX12_sum d 78 [(4, .int x44), (3, .int x39), (2, .int x4), (0, .ref (Z.2.2 175)), (1, .int p1)] [.int x48] M49 (fun r M' => (∃ x : Int32, r = some (.int x) ∧ ((M0.1 175 14).toInt ≤ (M'.1 175 14).toInt ∧ ((M0.1 175 14).toInt ≤ (M0.1 175 13).toInt → (M'.1 175 14).toInt ≤ (M0.1 175 13).toInt))) ∧ li_fs (fun i k => (i = 175 ∧ k = 14) ∨ (i = 175 ∧ k = 15)) M0 M' ∧ li_J M') := by
                intro x48 M49 hf hJ hi
                have gx48 := tl_rg x48
                have rM49_12 := J_sl12 (M := M49) hJ
                have rM49_13 := J_sl13 (M := M49) hJ
                have rM49_14 := J_sl14 (M := M49) hJ
                have rM49_15 := J_sl15 (M := M49) hJ
                have mM49_12 : (M49.1 175 12).toInt = (M0.1 175 12).toInt := tl_slot (hf.1 175 12 (show ¬ ((175 = 175 ∧ 12 = 14) ∨ (175 = 175 ∧ 12 = 15)) by decide))
                have mM49_13 : (M49.1 175 13).toInt = (M0.1 175 13).toInt := tl_slot (hf.1 175 13 (show ¬ ((175 = 175 ∧ 13 = 14) ∨ (175 = 175 ∧ 13 = 15)) by decide))
                refine li_istore_n [(2, .int x48), (4, .int x44), (3, .int x39), (0, .ref (Z.2.2 175)), (1, .int p1)] dX12_sum_78 (by decide) rfl ?_
                refine li_goto 6 dX12_sum_79 (by decide) ?_
                refine li_pick [0, 3, 4] [(2, .int x48), (0, .ref (Z.2.2 175)), (1, .int p1)] rfl ?_
                exact ih6 x48 M49 (by omega) hf hJ (by omega)
              refine li_if_eq 74 dX12_sum_64 (by decide) (fun c47 => ?_) (fun c47 => ?_)
              · have tc47 : x39.toInt = 0 := tl_eq c47
                refine li_iload_n 2 dX12_sum_74 rfl ?_
                refine li_iload 0 dX12_sum_75 rfl ?_
                refine li_isub dX12_sum_77 ?_
                refine li_top (fun x50 ex50 => ?_)
                try (have tx50 : x50.toInt = (x4 : Int32).toInt - (x44 : Int32).toInt := tl_sub ex50 (by omega))
                refine li_pick [0, 1, 2, 3, 4] [(4, .int x44), (3, .int x39), (2, .int x4), (0, .ref (Z.2.2 175)), (1, .int p1)] rfl ?_
                exact J78 x50 M45 hf hJ (by omega)
              · have tc47 : ¬ x39.toInt = 0 := tl_ne c47
                refine li_iload_n 2 dX12_sum_67 rfl ?_
                refine li_iload 0 dX12_sum_68 rfl ?_
                refine li_iadd dX12_sum_70 ?_
                refine li_top (fun x51 ex51 => ?_)
                try (have tx51 : x51.toInt = (x4 : Int32).toInt + (x44 : Int32).toInt := tl_add ex51 (by omega))
                refine li_goto 78 dX12_sum_71 (by decide) ?_
                refine li_pick [0, 1, 2, 3, 4] [(4, .int x44), (3, .int x39), (2, .int x4), (0, .ref (Z.2.2 175)), (1, .int p1)] rfl ?_
                exact J78 x51 M45 hf hJ (by omega)
            refine li_icmp_ne 44 dX12_sum_37 (by decide) (fun c38 => ?_) (fun c38 => ?_)
            · have tc38 : ¬ x35.toInt = 43 := tl_ne c38
              refine li_iconst 0 dX12_sum_44 (by decide) ?_
              refine li_pick [0, 1, 2] [(2, .int x4), (0, .ref (Z.2.2 175)), (1, .int p1)] rfl ?_
              have z0 : (0 : Int32).toInt = 0 := rfl
              exact J45 0 M36 hf hJ (by omega)
            · have tc38 : x35.toInt = 43 := tl_eq c38
              refine li_iconst 1 dX12_sum_40 (by decide) ?_
              refine li_goto 45 dX12_sum_41 (by decide) ?_
              refine li_pick [0, 1, 2] [(2, .int x4), (0, .ref (Z.2.2 175)), (1, .int p1)] rfl ?_
              have z1 : (1 : Int32).toInt = 1 := rfl
              exact J45 1 M36 hf hJ (by omega)
      · skip
        refine li_if_eq 82 dX12_sum_10 (by decide) (fun c => ?_) (fun c => absurd rfl c)
        refine li_iload_n 0 dX12_sum_82 rfl ?_
        exact li_iret dX12_sum_83 rfl rfl ⟨⟨_, rfl, (by first | omega | (intro _; omega) | (refine ⟨?_, ?_⟩ <;> first | omega | (intro _; omega)) | (refine ⟨?_, ?_, ?_, ?_⟩ <;> first | omega | (intro _; omega)))⟩, hf, hJ⟩
  exact L6 _ x1 M2 (Nat.lt_succ_self _) hf hJ (by omega)
set_option maxRecDepth 100000 in
set_option maxHeartbeats 4000000 in
theorem k_X12_held {l : Launch} {Z : li_Z} (d : Nat) (hd : 3 ≤ d) (p1 : Int32) (dE : Nat) (hE : dE + 1 ≤ d) (M0 : li_M) (hJ : li_J M0) (SM : ∀ (q : Int32) (M : li_M), li_J M → (M0.1 175 14).toInt ≤ (M.1 175 14).toInt → li_Met l Z YX12_sum dE [.ref (Z.2.2 175), .int q] M (fun r M' => (∃ x : Int32, r = some (.int x) ∧ (M.1 175 14).toInt ≤ (M'.1 175 14).toInt ∧ ((M.1 175 14).toInt ≤ (M.1 175 13).toInt → (M'.1 175 14).toInt ≤ (M.1 175 13).toInt)) ∧ li_fs (fun i k => (i = 175 ∧ k = 14) ∨ (i = 175 ∧ k = 15)) M M' ∧ li_J M')) : li_Met l Z YX12_held d [.ref (Z.2.2 175), .int p1] M0 (fun r M' => (∃ x : Int32, r = some (.int x) ∧ ((M0.1 175 14).toInt ≤ (M'.1 175 14).toInt ∧ ((M0.1 175 14).toInt ≤ (M0.1 175 13).toInt → (M'.1 175 14).toInt ≤ (M0.1 175 13).toInt))) ∧ li_fs (fun i k => (i = 175 ∧ k = 14) ∨ (i = 175 ∧ k = 15)) M0 M' ∧ li_J M') := by
  refine li_enter (by decide +kernel) (Nat.le_of_ble_eq_true rfl) ?_
  show li_T l Z YX12_held d 0 [(0, .ref (Z.2.2 175)), (1, .int p1)] [] M0 _
  have hf : li_fs (fun i k => (i = 175 ∧ k = 14) ∨ (i = 175 ∧ k = 15)) M0 M0 := li_fs_refl
  have gp1 := tl_rg p1
  have rM0_12 := J_sl12 (M := M0) hJ
  have rM0_13 := J_sl13 (M := M0) hJ
  have rM0_14 := J_sl14 (M := M0) hJ
  have rM0_15 := J_sl15 (M := M0) hJ
  refine li_aload_n 0 dX12_held_0 rfl ?_
  refine li_iload_n 1 dX12_held_1 rfl ?_
  refine li_callV (n := 1) (As := [.int p1]) dX12_held_2 (SM p1 M0 hJ (by omega)) (by omega) (Nat.le_of_ble_eq_true rfl) w_1629 w_1631 w_53 w_112 w_1632 (by decide +kernel) rfl (by decide) sh_175 rfl rfl (Nat.le_of_ble_eq_true rfl) (fun r M2 h3 => ?_)
  obtain ⟨⟨x1, rfl, qx1⟩, h3, jM2⟩ := h3
  have gx1 := tl_rg x1
  have hf := li_fs_trans hf h3 (fun i k => fun h => Or.elim h (fun h => Or.inl h) (fun h => Or.inr h))
  have hJ := jM2
  have rM2_12 := J_sl12 (M := M2) hJ
  have rM2_13 := J_sl13 (M := M2) hJ
  have rM2_14 := J_sl14 (M := M2) hJ
  have rM2_15 := J_sl15 (M := M2) hJ
  have mM2_12 : (M2.1 175 12).toInt = (M0.1 175 12).toInt := tl_slot (h3.1 175 12 (show ¬ ((175 = 175 ∧ 12 = 14) ∨ (175 = 175 ∧ 12 = 15)) by decide))
  have mM2_13 : (M2.1 175 13).toInt = (M0.1 175 13).toInt := tl_slot (h3.1 175 13 (show ¬ ((175 = 175 ∧ 13 = 14) ∨ (175 = 175 ∧ 13 = 15)) by decide))
  refine li_istore_n [(2, .int x1), (0, .ref (Z.2.2 175)), (1, .int p1)] dX12_held_5 (by decide) rfl ?_
  refine li_aload_n 1 dX12_held_6 rfl ?_
  refine li_bipush 60 dX12_held_7 (by decide) ?_
  have z60 : (60 : Int32).toInt = 60 := rfl
  refine li_callV (n := 1) (As := [.int 60]) dX12_held_9 (k_X12_passes (d - 1) (by omega) 60 M2 hJ (by omega)) (by omega) (Nat.le_of_ble_eq_true rfl) w_1605 w_1607 w_49 w_112 w_1608 (by decide +kernel) rfl (by decide) sh_175 rfl rfl (Nat.le_of_ble_eq_true rfl) (fun r M5 h6 => ?_)
  obtain ⟨qx4, h6, jM5⟩ := h6
  have hf := li_fs_trans hf h6 (fun i k => fun h => Or.inl h)
  have hJ := jM5
  have rM5_12 := J_sl12 (M := M5) hJ
  have rM5_13 := J_sl13 (M := M5) hJ
  have rM5_14 := J_sl14 (M := M5) hJ
  have rM5_15 := J_sl15 (M := M5) hJ
  have mM5_12 : (M5.1 175 12).toInt = (M2.1 175 12).toInt := tl_slot (h6.1 175 12 (show ¬ ((175 = 175 ∧ 12 = 14)) by decide))
  have mM5_13 : (M5.1 175 13).toInt = (M2.1 175 13).toInt := tl_slot (h6.1 175 13 (show ¬ ((175 = 175 ∧ 13 = 14)) by decide))
  have mM5_15 : (M5.1 175 15).toInt = (M2.1 175 15).toInt := tl_slot (h6.1 175 15 (show ¬ ((175 = 175 ∧ 15 = 14)) by decide))
  rcases qx4 with ⟨rfl, qx4⟩ | ⟨rfl, qx4⟩
  · skip
    refine li_if_eq 30 dX12_held_12 (by decide) (fun c => absurd c (by decide)) (fun c => ?_)
    refine li_iload_n 0 dX12_held_15 rfl ?_
    refine li_aload_n 1 dX12_held_16 rfl ?_
    refine li_iload_n 2 dX12_held_17 rfl ?_
    refine li_callV (n := 1) (As := [.int p1]) dX12_held_18 (SM p1 M5 hJ (by omega)) (by omega) (Nat.le_of_ble_eq_true rfl) w_1629 w_1631 w_53 w_112 w_1632 (by decide +kernel) rfl (by decide) sh_175 rfl rfl (Nat.le_of_ble_eq_true rfl) (fun r M9 h10 => ?_)
    obtain ⟨⟨x8, rfl, qx8⟩, h10, jM9⟩ := h10
    have gx8 := tl_rg x8
    have hf := li_fs_trans hf h10 (fun i k => fun h => Or.elim h (fun h => Or.inl h) (fun h => Or.inr h))
    have hJ := jM9
    have rM9_12 := J_sl12 (M := M9) hJ
    have rM9_13 := J_sl13 (M := M9) hJ
    have rM9_14 := J_sl14 (M := M9) hJ
    have rM9_15 := J_sl15 (M := M9) hJ
    have mM9_12 : (M9.1 175 12).toInt = (M5.1 175 12).toInt := tl_slot (h10.1 175 12 (show ¬ ((175 = 175 ∧ 12 = 14) ∨ (175 = 175 ∧ 12 = 15)) by decide))
    have mM9_13 : (M9.1 175 13).toInt = (M5.1 175 13).toInt := tl_slot (h10.1 175 13 (show ¬ ((175 = 175 ∧ 13 = 14) ∨ (175 = 175 ∧ 13 = 15)) by decide))
    refine li_icmp_ge 28 dX12_held_21 (by decide) (fun c11 => ?_) (fun c11 => ?_)
    · have tc11 : x8.toInt ≤ x1.toInt := tl_le c11
      refine li_iconst 0 dX12_held_28 (by decide) ?_
      have z0 : (0 : Int32).toInt = 0 := rfl
      exact li_iret dX12_held_29 rfl rfl ⟨⟨_, rfl, (by first | omega | (intro _; omega) | (refine ⟨?_, ?_⟩ <;> first | omega | (intro _; omega)) | (refine ⟨?_, ?_, ?_, ?_⟩ <;> first | omega | (intro _; omega)))⟩, hf, hJ⟩
    · have tc11 : x1.toInt < x8.toInt := tl_nle c11
      refine li_iconst 1 dX12_held_24 (by decide) ?_
      refine li_goto 29 dX12_held_25 (by decide) ?_
      have z1 : (1 : Int32).toInt = 1 := rfl
      exact li_iret dX12_held_29 rfl rfl ⟨⟨_, rfl, (by first | omega | (intro _; omega) | (refine ⟨?_, ?_⟩ <;> first | omega | (intro _; omega)) | (refine ⟨?_, ?_, ?_, ?_⟩ <;> first | omega | (intro _; omega)))⟩, hf, hJ⟩
  · skip
    refine li_if_eq 30 dX12_held_12 (by decide) (fun c => ?_) (fun c => absurd rfl c)
    refine li_aload_n 1 dX12_held_30 rfl ?_
    refine li_bipush 62 dX12_held_31 (by decide) ?_
    have z62 : (62 : Int32).toInt = 62 := rfl
    refine li_callV (n := 1) (As := [.int 62]) dX12_held_33 (k_X12_passes (d - 1) (by omega) 62 M5 hJ (by omega)) (by omega) (Nat.le_of_ble_eq_true rfl) w_1605 w_1607 w_49 w_112 w_1608 (by decide +kernel) rfl (by decide) sh_175 rfl rfl (Nat.le_of_ble_eq_true rfl) (fun r M14 h15 => ?_)
    obtain ⟨qx13, h15, jM14⟩ := h15
    have hf := li_fs_trans hf h15 (fun i k => fun h => Or.inl h)
    have hJ := jM14
    have rM14_12 := J_sl12 (M := M14) hJ
    have rM14_13 := J_sl13 (M := M14) hJ
    have rM14_14 := J_sl14 (M := M14) hJ
    have rM14_15 := J_sl15 (M := M14) hJ
    have mM14_12 : (M14.1 175 12).toInt = (M5.1 175 12).toInt := tl_slot (h15.1 175 12 (show ¬ ((175 = 175 ∧ 12 = 14)) by decide))
    have mM14_13 : (M14.1 175 13).toInt = (M5.1 175 13).toInt := tl_slot (h15.1 175 13 (show ¬ ((175 = 175 ∧ 13 = 14)) by decide))
    have mM14_15 : (M14.1 175 15).toInt = (M5.1 175 15).toInt := tl_slot (h15.1 175 15 (show ¬ ((175 = 175 ∧ 15 = 14)) by decide))
    rcases qx13 with ⟨rfl, qx13⟩ | ⟨rfl, qx13⟩
    · skip
      refine li_if_eq 54 dX12_held_36 (by decide) (fun c => absurd c (by decide)) (fun c => ?_)
      refine li_iload_n 0 dX12_held_39 rfl ?_
      refine li_aload_n 1 dX12_held_40 rfl ?_
      refine li_iload_n 2 dX12_held_41 rfl ?_
      refine li_callV (n := 1) (As := [.int p1]) dX12_held_42 (SM p1 M14 hJ (by omega)) (by omega) (Nat.le_of_ble_eq_true rfl) w_1629 w_1631 w_53 w_112 w_1632 (by decide +kernel) rfl (by decide) sh_175 rfl rfl (Nat.le_of_ble_eq_true rfl) (fun r M18 h19 => ?_)
      obtain ⟨⟨x17, rfl, qx17⟩, h19, jM18⟩ := h19
      have gx17 := tl_rg x17
      have hf := li_fs_trans hf h19 (fun i k => fun h => Or.elim h (fun h => Or.inl h) (fun h => Or.inr h))
      have hJ := jM18
      have rM18_12 := J_sl12 (M := M18) hJ
      have rM18_13 := J_sl13 (M := M18) hJ
      have rM18_14 := J_sl14 (M := M18) hJ
      have rM18_15 := J_sl15 (M := M18) hJ
      have mM18_12 : (M18.1 175 12).toInt = (M14.1 175 12).toInt := tl_slot (h19.1 175 12 (show ¬ ((175 = 175 ∧ 12 = 14) ∨ (175 = 175 ∧ 12 = 15)) by decide))
      have mM18_13 : (M18.1 175 13).toInt = (M14.1 175 13).toInt := tl_slot (h19.1 175 13 (show ¬ ((175 = 175 ∧ 13 = 14) ∨ (175 = 175 ∧ 13 = 15)) by decide))
      refine li_icmp_le 52 dX12_held_45 (by decide) (fun c20 => ?_) (fun c20 => ?_)
      · have tc20 : x1.toInt ≤ x17.toInt := tl_le c20
        refine li_iconst 0 dX12_held_52 (by decide) ?_
        have z0 : (0 : Int32).toInt = 0 := rfl
        exact li_iret dX12_held_53 rfl rfl ⟨⟨_, rfl, (by first | omega | (intro _; omega) | (refine ⟨?_, ?_⟩ <;> first | omega | (intro _; omega)) | (refine ⟨?_, ?_, ?_, ?_⟩ <;> first | omega | (intro _; omega)))⟩, hf, hJ⟩
      · have tc20 : x17.toInt < x1.toInt := tl_nle c20
        refine li_iconst 1 dX12_held_48 (by decide) ?_
        refine li_goto 53 dX12_held_49 (by decide) ?_
        have z1 : (1 : Int32).toInt = 1 := rfl
        exact li_iret dX12_held_53 rfl rfl ⟨⟨_, rfl, (by first | omega | (intro _; omega) | (refine ⟨?_, ?_⟩ <;> first | omega | (intro _; omega)) | (refine ⟨?_, ?_, ?_, ?_⟩ <;> first | omega | (intro _; omega)))⟩, hf, hJ⟩
    · skip
      refine li_if_eq 54 dX12_held_36 (by decide) (fun c => ?_) (fun c => absurd rfl c)
      refine li_aload_n 1 dX12_held_54 rfl ?_
      refine li_bipush 61 dX12_held_55 (by decide) ?_
      have z61 : (61 : Int32).toInt = 61 := rfl
      refine li_callV (n := 1) (As := [.int 61]) dX12_held_57 (k_X12_passes (d - 1) (by omega) 61 M14 hJ (by omega)) (by omega) (Nat.le_of_ble_eq_true rfl) w_1605 w_1607 w_49 w_112 w_1608 (by decide +kernel) rfl (by decide) sh_175 rfl rfl (Nat.le_of_ble_eq_true rfl) (fun r M23 h24 => ?_)
      obtain ⟨qx22, h24, jM23⟩ := h24
      have hf := li_fs_trans hf h24 (fun i k => fun h => Or.inl h)
      have hJ := jM23
      have rM23_12 := J_sl12 (M := M23) hJ
      have rM23_13 := J_sl13 (M := M23) hJ
      have rM23_14 := J_sl14 (M := M23) hJ
      have rM23_15 := J_sl15 (M := M23) hJ
      have mM23_12 : (M23.1 175 12).toInt = (M14.1 175 12).toInt := tl_slot (h24.1 175 12 (show ¬ ((175 = 175 ∧ 12 = 14)) by decide))
      have mM23_13 : (M23.1 175 13).toInt = (M14.1 175 13).toInt := tl_slot (h24.1 175 13 (show ¬ ((175 = 175 ∧ 13 = 14)) by decide))
      have mM23_15 : (M23.1 175 15).toInt = (M14.1 175 15).toInt := tl_slot (h24.1 175 15 (show ¬ ((175 = 175 ∧ 15 = 14)) by decide))
      rcases qx22 with ⟨rfl, qx22⟩ | ⟨rfl, qx22⟩
      · skip
        refine li_if_eq 78 dX12_held_60 (by decide) (fun c => absurd c (by decide)) (fun c => ?_)
        refine li_iload_n 0 dX12_held_63 rfl ?_
        refine li_aload_n 1 dX12_held_64 rfl ?_
        refine li_iload_n 2 dX12_held_65 rfl ?_
        refine li_callV (n := 1) (As := [.int p1]) dX12_held_66 (SM p1 M23 hJ (by omega)) (by omega) (Nat.le_of_ble_eq_true rfl) w_1629 w_1631 w_53 w_112 w_1632 (by decide +kernel) rfl (by decide) sh_175 rfl rfl (Nat.le_of_ble_eq_true rfl) (fun r M27 h28 => ?_)
        obtain ⟨⟨x26, rfl, qx26⟩, h28, jM27⟩ := h28
        have gx26 := tl_rg x26
        have hf := li_fs_trans hf h28 (fun i k => fun h => Or.elim h (fun h => Or.inl h) (fun h => Or.inr h))
        have hJ := jM27
        have rM27_12 := J_sl12 (M := M27) hJ
        have rM27_13 := J_sl13 (M := M27) hJ
        have rM27_14 := J_sl14 (M := M27) hJ
        have rM27_15 := J_sl15 (M := M27) hJ
        have mM27_12 : (M27.1 175 12).toInt = (M23.1 175 12).toInt := tl_slot (h28.1 175 12 (show ¬ ((175 = 175 ∧ 12 = 14) ∨ (175 = 175 ∧ 12 = 15)) by decide))
        have mM27_13 : (M27.1 175 13).toInt = (M23.1 175 13).toInt := tl_slot (h28.1 175 13 (show ¬ ((175 = 175 ∧ 13 = 14) ∨ (175 = 175 ∧ 13 = 15)) by decide))
        refine li_icmp_ne 76 dX12_held_69 (by decide) (fun c29 => ?_) (fun c29 => ?_)
        · have tc29 : ¬ x1.toInt = x26.toInt := tl_ne c29
          refine li_iconst 0 dX12_held_76 (by decide) ?_
          have z0 : (0 : Int32).toInt = 0 := rfl
          exact li_iret dX12_held_77 rfl rfl ⟨⟨_, rfl, (by first | omega | (intro _; omega) | (refine ⟨?_, ?_⟩ <;> first | omega | (intro _; omega)) | (refine ⟨?_, ?_, ?_, ?_⟩ <;> first | omega | (intro _; omega)))⟩, hf, hJ⟩
        · have tc29 : x1.toInt = x26.toInt := tl_eq c29
          refine li_iconst 1 dX12_held_72 (by decide) ?_
          refine li_goto 77 dX12_held_73 (by decide) ?_
          have z1 : (1 : Int32).toInt = 1 := rfl
          exact li_iret dX12_held_77 rfl rfl ⟨⟨_, rfl, (by first | omega | (intro _; omega) | (refine ⟨?_, ?_⟩ <;> first | omega | (intro _; omega)) | (refine ⟨?_, ?_, ?_, ?_⟩ <;> first | omega | (intro _; omega)))⟩, hf, hJ⟩
      · skip
        refine li_if_eq 78 dX12_held_60 (by decide) (fun c => ?_) (fun c => absurd rfl c)
        refine li_iload_n 0 dX12_held_78 rfl ?_
        exact li_iret dX12_held_79 rfl rfl ⟨⟨_, rfl, (by first | omega | (intro _; omega) | (refine ⟨?_, ?_⟩ <;> first | omega | (intro _; omega)) | (refine ⟨?_, ?_, ?_, ?_⟩ <;> first | omega | (intro _; omega)))⟩, hf, hJ⟩
theorem kk_parse {l : Launch} {Z : li_Z} : ∀ n : Nat, (∀ (q : Int32) (M : li_M) (d : Nat), li_J M → (81 - (M.1 175 14).toInt).toNat ≤ n → 4 * n + 10 ≤ d → li_Met l Z YX12_part d [.ref (Z.2.2 175), .int q] M (fun r M' => (∃ x : Int32, r = some (.int x) ∧ (M.1 175 14).toInt ≤ (M'.1 175 14).toInt ∧ ((M.1 175 14).toInt ≤ (M.1 175 13).toInt → (M'.1 175 14).toInt ≤ (M.1 175 13).toInt)) ∧ li_fs (fun i k => (i = 175 ∧ k = 14) ∨ (i = 175 ∧ k = 15)) M M' ∧ li_J M')) ∧ (∀ (q : Int32) (M : li_M) (d : Nat), li_J M → (81 - (M.1 175 14).toInt).toNat ≤ n → 4 * n + 11 ≤ d → li_Met l Z YX12_product d [.ref (Z.2.2 175), .int q] M (fun r M' => (∃ x : Int32, r = some (.int x) ∧ (M.1 175 14).toInt ≤ (M'.1 175 14).toInt ∧ ((M.1 175 14).toInt ≤ (M.1 175 13).toInt → (M'.1 175 14).toInt ≤ (M.1 175 13).toInt)) ∧ li_fs (fun i k => (i = 175 ∧ k = 14) ∨ (i = 175 ∧ k = 15)) M M' ∧ li_J M')) ∧ (∀ (q : Int32) (M : li_M) (d : Nat), li_J M → (81 - (M.1 175 14).toInt).toNat ≤ n → 4 * n + 12 ≤ d → li_Met l Z YX12_sum d [.ref (Z.2.2 175), .int q] M (fun r M' => (∃ x : Int32, r = some (.int x) ∧ (M.1 175 14).toInt ≤ (M'.1 175 14).toInt ∧ ((M.1 175 14).toInt ≤ (M.1 175 13).toInt → (M'.1 175 14).toInt ≤ (M.1 175 13).toInt)) ∧ li_fs (fun i k => (i = 175 ∧ k = 14) ∨ (i = 175 ∧ k = 15)) M M' ∧ li_J M')) ∧ (∀ (q : Int32) (M : li_M) (d : Nat), li_J M → (81 - (M.1 175 14).toInt).toNat ≤ n → 4 * n + 13 ≤ d → li_Met l Z YX12_held d [.ref (Z.2.2 175), .int q] M (fun r M' => (∃ x : Int32, r = some (.int x) ∧ (M.1 175 14).toInt ≤ (M'.1 175 14).toInt ∧ ((M.1 175 14).toInt ≤ (M.1 175 13).toInt → (M'.1 175 14).toInt ≤ (M.1 175 13).toInt)) ∧ li_fs (fun i k => (i = 175 ∧ k = 14) ∨ (i = 175 ∧ k = 15)) M M' ∧ li_J M')) := by
  have up : ∀ n : Nat, (∀ (q : Int32) (M : li_M) (d : Nat), li_J M → (81 - (M.1 175 14).toInt).toNat ≤ n → 4 * n + 10 ≤ d → li_Met l Z YX12_part d [.ref (Z.2.2 175), .int q] M (fun r M' => (∃ x : Int32, r = some (.int x) ∧ (M.1 175 14).toInt ≤ (M'.1 175 14).toInt ∧ ((M.1 175 14).toInt ≤ (M.1 175 13).toInt → (M'.1 175 14).toInt ≤ (M.1 175 13).toInt)) ∧ li_fs (fun i k => (i = 175 ∧ k = 14) ∨ (i = 175 ∧ k = 15)) M M' ∧ li_J M')) → (∀ (q : Int32) (M : li_M) (d : Nat), li_J M → (81 - (M.1 175 14).toInt).toNat ≤ n → 4 * n + 10 ≤ d → li_Met l Z YX12_part d [.ref (Z.2.2 175), .int q] M (fun r M' => (∃ x : Int32, r = some (.int x) ∧ (M.1 175 14).toInt ≤ (M'.1 175 14).toInt ∧ ((M.1 175 14).toInt ≤ (M.1 175 13).toInt → (M'.1 175 14).toInt ≤ (M.1 175 13).toInt)) ∧ li_fs (fun i k => (i = 175 ∧ k = 14) ∨ (i = 175 ∧ k = 15)) M M' ∧ li_J M')) ∧ (∀ (q : Int32) (M : li_M) (d : Nat), li_J M → (81 - (M.1 175 14).toInt).toNat ≤ n → 4 * n + 11 ≤ d → li_Met l Z YX12_product d [.ref (Z.2.2 175), .int q] M (fun r M' => (∃ x : Int32, r = some (.int x) ∧ (M.1 175 14).toInt ≤ (M'.1 175 14).toInt ∧ ((M.1 175 14).toInt ≤ (M.1 175 13).toInt → (M'.1 175 14).toInt ≤ (M.1 175 13).toInt)) ∧ li_fs (fun i k => (i = 175 ∧ k = 14) ∨ (i = 175 ∧ k = 15)) M M' ∧ li_J M')) ∧ (∀ (q : Int32) (M : li_M) (d : Nat), li_J M → (81 - (M.1 175 14).toInt).toNat ≤ n → 4 * n + 12 ≤ d → li_Met l Z YX12_sum d [.ref (Z.2.2 175), .int q] M (fun r M' => (∃ x : Int32, r = some (.int x) ∧ (M.1 175 14).toInt ≤ (M'.1 175 14).toInt ∧ ((M.1 175 14).toInt ≤ (M.1 175 13).toInt → (M'.1 175 14).toInt ≤ (M.1 175 13).toInt)) ∧ li_fs (fun i k => (i = 175 ∧ k = 14) ∨ (i = 175 ∧ k = 15)) M M' ∧ li_J M')) ∧ (∀ (q : Int32) (M : li_M) (d : Nat), li_J M → (81 - (M.1 175 14).toInt).toNat ≤ n → 4 * n + 13 ≤ d → li_Met l Z YX12_held d [.ref (Z.2.2 175), .int q] M (fun r M' => (∃ x : Int32, r = some (.int x) ∧ (M.1 175 14).toInt ≤ (M'.1 175 14).toInt ∧ ((M.1 175 14).toInt ≤ (M.1 175 13).toInt → (M'.1 175 14).toInt ≤ (M.1 175 13).toInt)) ∧ li_fs (fun i k => (i = 175 ∧ k = 14) ∨ (i = 175 ∧ k = 15)) M M' ∧ li_J M')) := by
    intro n hp
    have hpr : (∀ (q : Int32) (M : li_M) (d : Nat), li_J M → (81 - (M.1 175 14).toInt).toNat ≤ n → 4 * n + 11 ≤ d → li_Met l Z YX12_product d [.ref (Z.2.2 175), .int q] M (fun r M' => (∃ x : Int32, r = some (.int x) ∧ (M.1 175 14).toInt ≤ (M'.1 175 14).toInt ∧ ((M.1 175 14).toInt ≤ (M.1 175 13).toInt → (M'.1 175 14).toInt ≤ (M.1 175 13).toInt)) ∧ li_fs (fun i k => (i = 175 ∧ k = 14) ∨ (i = 175 ∧ k = 15)) M M' ∧ li_J M')) := fun q M d hJ hn hd => k_X12_product d (by omega) q (4 * n + 10) (by omega) M hJ (fun q2 M2 hJ2 h => hp q2 M2 _ hJ2 (by omega) (by omega))
    have hsm : (∀ (q : Int32) (M : li_M) (d : Nat), li_J M → (81 - (M.1 175 14).toInt).toNat ≤ n → 4 * n + 12 ≤ d → li_Met l Z YX12_sum d [.ref (Z.2.2 175), .int q] M (fun r M' => (∃ x : Int32, r = some (.int x) ∧ (M.1 175 14).toInt ≤ (M'.1 175 14).toInt ∧ ((M.1 175 14).toInt ≤ (M.1 175 13).toInt → (M'.1 175 14).toInt ≤ (M.1 175 13).toInt)) ∧ li_fs (fun i k => (i = 175 ∧ k = 14) ∨ (i = 175 ∧ k = 15)) M M' ∧ li_J M')) := fun q M d hJ hn hd => k_X12_sum d (by omega) q (4 * n + 11) (by omega) M hJ (fun q2 M2 hJ2 h => hpr q2 M2 _ hJ2 (by omega) (by omega))
    exact ⟨hp, hpr, hsm, fun q M d hJ hn hd => k_X12_held d (by omega) q (4 * n + 12) (by omega) M hJ (fun q2 M2 hJ2 h => hsm q2 M2 _ hJ2 (by omega) (by omega))⟩
  intro n
  induction n with
  | zero => exact up 0 (fun q M d hJ hn hd => k_X12_part d (by omega) q 9 (by omega) M hJ (fun q2 M2 hJ2 h => absurd (J_sl14 hJ2) (by omega)) (fun q2 M2 hJ2 h => absurd (J_sl14 hJ2) (by omega)))
  | succ n ih => exact up (n + 1) (fun q M d hJ hn hd => k_X12_part d (by omega) q (4 * n + 13) (by omega) M hJ (fun q2 M2 hJ2 h => ih.1 q2 M2 _ hJ2 (by omega) (by omega)) (fun q2 M2 hJ2 h => ih.2.2.2 q2 M2 _ hJ2 (by omega) (by omega)))
