theorem w_57 : (Jvm.Cond.selects "ClockForTalkModel" ({ cls := "ClockForTalkModel", name := "lost", desc := "()I" } : Jvm.MethodName) ({ cls := "ClockForTalkModel", name := "lost", desc := "()I" } : Jvm.MethodName)) ∈ li_ws := li_mem 57 (by decide +kernel) (by decide +kernel)
theorem w_58 : (Jvm.Cond.selects "ClockForTalkModel" ({ cls := "ClockForTalkModel", name := "owedBy", desc := "(II)I" } : Jvm.MethodName) ({ cls := "ClockForTalkModel", name := "owedBy", desc := "(II)I" } : Jvm.MethodName)) ∈ li_ws := li_mem 58 (by decide +kernel) (by decide +kernel)
theorem w_59 : (Jvm.Cond.selects "ClockForTalkModel" ({ cls := "ClockForTalkModel", name := "isThing", desc := "(I)Z" } : Jvm.MethodName) ({ cls := "ClockForTalkModel", name := "isThing", desc := "(I)Z" } : Jvm.MethodName)) ∈ li_ws := li_mem 59 (by decide +kernel) (by decide +kernel)
theorem w_62 : (Jvm.Cond.selects "ClockForTalkModel" ({ cls := "ClockForTalkModel", name := "bestWayOf", desc := "([II)I" } : Jvm.MethodName) ({ cls := "ClockForTalkModel", name := "bestWayOf", desc := "([II)I" } : Jvm.MethodName)) ∈ li_ws := li_mem 62 (by decide +kernel) (by decide +kernel)
theorem w_63 : (Jvm.Cond.selects "ClockForTalkModel" ({ cls := "ClockForTalkModel", name := "bestWay", desc := "([IIII)I" } : Jvm.MethodName) ({ cls := "ClockForTalkModel", name := "bestWay", desc := "([IIII)I" } : Jvm.MethodName)) ∈ li_ws := li_mem 63 (by decide +kernel) (by decide +kernel)
theorem w_64 : (Jvm.Cond.selects "ClockForTalkModel" ({ cls := "ClockForTalkModel", name := "costOf", desc := "([IIIII)I" } : Jvm.MethodName) ({ cls := "ClockForTalkModel", name := "costOf", desc := "([IIIII)I" } : Jvm.MethodName)) ∈ li_ws := li_mem 64 (by decide +kernel) (by decide +kernel)
theorem w_65 : (Jvm.Cond.selects "ClockForTalkModel" ({ cls := "ClockForTalkModel", name := "hears", desc := "(II)I" } : Jvm.MethodName) ({ cls := "ClockForTalkModel", name := "hears", desc := "(II)I" } : Jvm.MethodName)) ∈ li_ws := li_mem 65 (by decide +kernel) (by decide +kernel)
theorem w_66 : (Jvm.Cond.selects "ClockForTalkModel" ({ cls := "ClockForTalkModel", name := "costBy", desc := "(IIIIII)I" } : Jvm.MethodName) ({ cls := "ClockForTalkModel", name := "costBy", desc := "(IIIIII)I" } : Jvm.MethodName)) ∈ li_ws := li_mem 66 (by decide +kernel) (by decide +kernel)
theorem w_68 : (Jvm.Cond.selects "ClockForTalkModel" ({ cls := "ClockForTalkModel", name := "costOfThing", desc := "([III)I" } : Jvm.MethodName) ({ cls := "ClockForTalkModel", name := "costOfThing", desc := "([III)I" } : Jvm.MethodName)) ∈ li_ws := li_mem 68 (by decide +kernel) (by decide +kernel)
theorem w_1652 : (Jvm.Cond.methodLink "ClockForTalkModel" (259 : Nat) ({ cls := "ClockForTalkModel", name := "lost", desc := "()I" } : Jvm.MethodName)) ∈ li_ws := li_mem 1652 (by decide +kernel) (by decide +kernel)
theorem w_1654 : (Jvm.Cond.instanceMethod ({ cls := "ClockForTalkModel", name := "lost", desc := "()I" } : Jvm.MethodName)) ∈ li_ws := li_mem 1654 (by decide +kernel) (by decide +kernel)
theorem w_1655 : (Jvm.Cond.code ({ cls := "ClockForTalkModel", name := "lost", desc := "()I" } : Jvm.MethodName) prog_13_method_5_code (1 : Nat) (Option.some Jvm.ClassFile.FieldType.int)) ∈ li_ws := li_mem 1655 (by decide +kernel) (by decide +kernel)
theorem w_1656 : (Jvm.Cond.methodLink "ClockForTalkModel" (262 : Nat) ({ cls := "ClockForTalkModel", name := "owedBy", desc := "(II)I" } : Jvm.MethodName)) ∈ li_ws := li_mem 1656 (by decide +kernel) (by decide +kernel)
theorem w_1658 : (Jvm.Cond.instanceMethod ({ cls := "ClockForTalkModel", name := "owedBy", desc := "(II)I" } : Jvm.MethodName)) ∈ li_ws := li_mem 1658 (by decide +kernel) (by decide +kernel)
theorem w_1659 : (Jvm.Cond.code ({ cls := "ClockForTalkModel", name := "owedBy", desc := "(II)I" } : Jvm.MethodName) prog_13_method_43_code (6 : Nat) (Option.some Jvm.ClassFile.FieldType.int)) ∈ li_ws := li_mem 1659 (by decide +kernel) (by decide +kernel)
theorem w_1664 : (Jvm.Cond.methodLink "ClockForTalkModel" (265 : Nat) ({ cls := "ClockForTalkModel", name := "isThing", desc := "(I)Z" } : Jvm.MethodName)) ∈ li_ws := li_mem 1664 (by decide +kernel) (by decide +kernel)
theorem w_1666 : (Jvm.Cond.instanceMethod ({ cls := "ClockForTalkModel", name := "isThing", desc := "(I)Z" } : Jvm.MethodName)) ∈ li_ws := li_mem 1666 (by decide +kernel) (by decide +kernel)
theorem w_1667 : (Jvm.Cond.code ({ cls := "ClockForTalkModel", name := "isThing", desc := "(I)Z" } : Jvm.MethodName) prog_13_method_9_code (2 : Nat) (Option.some Jvm.ClassFile.FieldType.boolean)) ∈ li_ws := li_mem 1667 (by decide +kernel) (by decide +kernel)
theorem w_1677 : (Jvm.Cond.methodLink "ClockForTalkModel" (243 : Nat) ({ cls := "ClockForTalkModel", name := "bestWayOf", desc := "([II)I" } : Jvm.MethodName)) ∈ li_ws := li_mem 1677 (by decide +kernel) (by decide +kernel)
theorem w_1679 : (Jvm.Cond.instanceMethod ({ cls := "ClockForTalkModel", name := "bestWayOf", desc := "([II)I" } : Jvm.MethodName)) ∈ li_ws := li_mem 1679 (by decide +kernel) (by decide +kernel)
theorem w_1680 : (Jvm.Cond.code ({ cls := "ClockForTalkModel", name := "bestWayOf", desc := "([II)I" } : Jvm.MethodName) prog_13_method_39_code (3 : Nat) (Option.some Jvm.ClassFile.FieldType.int)) ∈ li_ws := li_mem 1680 (by decide +kernel) (by decide +kernel)
theorem w_1681 : (Jvm.Cond.methodLink "ClockForTalkModel" (239 : Nat) ({ cls := "ClockForTalkModel", name := "bestWay", desc := "([IIII)I" } : Jvm.MethodName)) ∈ li_ws := li_mem 1681 (by decide +kernel) (by decide +kernel)
theorem w_1683 : (Jvm.Cond.instanceMethod ({ cls := "ClockForTalkModel", name := "bestWay", desc := "([IIII)I" } : Jvm.MethodName)) ∈ li_ws := li_mem 1683 (by decide +kernel) (by decide +kernel)
theorem w_1684 : (Jvm.Cond.code ({ cls := "ClockForTalkModel", name := "bestWay", desc := "([IIII)I" } : Jvm.MethodName) prog_13_method_38_code (7 : Nat) (Option.some Jvm.ClassFile.FieldType.int)) ∈ li_ws := li_mem 1684 (by decide +kernel) (by decide +kernel)
theorem w_1688 : (Jvm.Cond.methodLink "ClockForTalkModel" (235 : Nat) ({ cls := "ClockForTalkModel", name := "costOf", desc := "([IIIII)I" } : Jvm.MethodName)) ∈ li_ws := li_mem 1688 (by decide +kernel) (by decide +kernel)
theorem w_1690 : (Jvm.Cond.instanceMethod ({ cls := "ClockForTalkModel", name := "costOf", desc := "([IIIII)I" } : Jvm.MethodName)) ∈ li_ws := li_mem 1690 (by decide +kernel) (by decide +kernel)
theorem w_1691 : (Jvm.Cond.code ({ cls := "ClockForTalkModel", name := "costOf", desc := "([IIIII)I" } : Jvm.MethodName) prog_13_method_36_code (6 : Nat) (Option.some Jvm.ClassFile.FieldType.int)) ∈ li_ws := li_mem 1691 (by decide +kernel) (by decide +kernel)
theorem w_1692 : (Jvm.Cond.methodLink "ClockForTalkModel" (223 : Nat) ({ cls := "ClockForTalkModel", name := "hears", desc := "(II)I" } : Jvm.MethodName)) ∈ li_ws := li_mem 1692 (by decide +kernel) (by decide +kernel)
theorem w_1694 : (Jvm.Cond.instanceMethod ({ cls := "ClockForTalkModel", name := "hears", desc := "(II)I" } : Jvm.MethodName)) ∈ li_ws := li_mem 1694 (by decide +kernel) (by decide +kernel)
theorem w_1695 : (Jvm.Cond.code ({ cls := "ClockForTalkModel", name := "hears", desc := "(II)I" } : Jvm.MethodName) prog_13_method_33_code (5 : Nat) (Option.some Jvm.ClassFile.FieldType.int)) ∈ li_ws := li_mem 1695 (by decide +kernel) (by decide +kernel)
theorem w_1696 : (Jvm.Cond.methodLink "ClockForTalkModel" (226 : Nat) ({ cls := "java/lang/Integer", name := "bitCount", desc := "(I)I" } : Jvm.MethodName)) ∈ li_ws := li_mem 1696 (by decide +kernel) (by decide +kernel)
theorem w_1697 : (Jvm.Cond.methodLink "ClockForTalkModel" (231 : Nat) ({ cls := "ClockForTalkModel", name := "costBy", desc := "(IIIIII)I" } : Jvm.MethodName)) ∈ li_ws := li_mem 1697 (by decide +kernel) (by decide +kernel)
theorem w_1699 : (Jvm.Cond.instanceMethod ({ cls := "ClockForTalkModel", name := "costBy", desc := "(IIIIII)I" } : Jvm.MethodName)) ∈ li_ws := li_mem 1699 (by decide +kernel) (by decide +kernel)
theorem w_1700 : (Jvm.Cond.code ({ cls := "ClockForTalkModel", name := "costBy", desc := "(IIIIII)I" } : Jvm.MethodName) prog_13_method_30_code (8 : Nat) (Option.some Jvm.ClassFile.FieldType.int)) ∈ li_ws := li_mem 1700 (by decide +kernel) (by decide +kernel)
theorem w_1722 : (Jvm.Cond.methodLink "ClockForTalkModel" (247 : Nat) ({ cls := "ClockForTalkModel", name := "costOfThing", desc := "([III)I" } : Jvm.MethodName)) ∈ li_ws := li_mem 1722 (by decide +kernel) (by decide +kernel)
theorem w_1724 : (Jvm.Cond.instanceMethod ({ cls := "ClockForTalkModel", name := "costOfThing", desc := "([III)I" } : Jvm.MethodName)) ∈ li_ws := li_mem 1724 (by decide +kernel) (by decide +kernel)
theorem w_1725 : (Jvm.Cond.code ({ cls := "ClockForTalkModel", name := "costOfThing", desc := "([III)I" } : Jvm.MethodName) prog_13_method_37_code (4 : Nat) (Option.some Jvm.ClassFile.FieldType.int)) ∈ li_ws := li_mem 1725 (by decide +kernel) (by decide +kernel)
theorem dX12_costOf_0 : decode cX12_costOf 0 = .ok (.aload_n 0, 1) := by decide +kernel
theorem dX12_costOf_1 : decode cX12_costOf 1 = .ok (.aload_n 1, 1) := by decide +kernel
theorem dX12_costOf_2 : decode cX12_costOf 2 = .ok (.bipush 19, 2) := by decide +kernel
theorem dX12_costOf_4 : decode cX12_costOf 4 = .ok (.iaload, 1) := by decide +kernel
theorem dX12_costOf_5 : decode cX12_costOf 5 = .ok (.iload 4, 2) := by decide +kernel
theorem dX12_costOf_7 : decode cX12_costOf 7 = .ok (.iload 5, 2) := by decide +kernel
theorem dX12_costOf_9 : decode cX12_costOf 9 = .ok (.aload_n 0, 1) := by decide +kernel
theorem dX12_costOf_10 : decode cX12_costOf 10 = .ok (.iload_n 2, 1) := by decide +kernel
theorem dX12_costOf_11 : decode cX12_costOf 11 = .ok (.iload_n 3, 1) := by decide +kernel
theorem dX12_costOf_12 : decode cX12_costOf 12 = .ok (.invokevirtual 214, 3) := by decide +kernel
theorem dX12_costOf_15 : decode cX12_costOf 15 = .ok (.aload_n 1, 1) := by decide +kernel
theorem dX12_costOf_16 : decode cX12_costOf 16 = .ok (.iload_n 2, 1) := by decide +kernel
theorem dX12_costOf_17 : decode cX12_costOf 17 = .ok (.iaload, 1) := by decide +kernel
theorem dX12_costOf_18 : decode cX12_costOf 18 = .ok (.aload_n 0, 1) := by decide +kernel
theorem dX12_costOf_19 : decode cX12_costOf 19 = .ok (.iload_n 2, 1) := by decide +kernel
theorem dX12_costOf_20 : decode cX12_costOf 20 = .ok (.iload 5, 2) := by decide +kernel
theorem dX12_costOf_22 : decode cX12_costOf 22 = .ok (.invokevirtual 223, 3) := by decide +kernel
theorem dX12_costOf_25 : decode cX12_costOf 25 = .ok (.invokestatic 226, 3) := by decide +kernel
theorem dX12_costOf_28 : decode cX12_costOf 28 = .ok (.invokevirtual 231, 3) := by decide +kernel
theorem dX12_costOf_31 : decode cX12_costOf 31 = .ok (.ireturn, 1) := by decide +kernel
abbrev YX12_costOf : li_Y := (yX12_costOf, cX12_costOf, 6, (some .int))
theorem dX12_costOfThing_0 : decode cX12_costOfThing 0 = .ok (.aload_n 0, 1) := by decide +kernel
theorem dX12_costOfThing_1 : decode cX12_costOfThing 1 = .ok (.aload_n 1, 1) := by decide +kernel
theorem dX12_costOfThing_2 : decode cX12_costOfThing 2 = .ok (.aload_n 0, 1) := by decide +kernel
theorem dX12_costOfThing_3 : decode cX12_costOfThing 3 = .ok (.iload_n 2, 1) := by decide +kernel
theorem dX12_costOfThing_4 : decode cX12_costOfThing 4 = .ok (.iconst 0, 1) := by decide +kernel
theorem dX12_costOfThing_5 : decode cX12_costOfThing 5 = .ok (.invokevirtual 220, 3) := by decide +kernel
theorem dX12_costOfThing_8 : decode cX12_costOfThing 8 = .ok (.aload_n 0, 1) := by decide +kernel
theorem dX12_costOfThing_9 : decode cX12_costOfThing 9 = .ok (.iload_n 2, 1) := by decide +kernel
theorem dX12_costOfThing_10 : decode cX12_costOfThing 10 = .ok (.iconst 1, 1) := by decide +kernel
theorem dX12_costOfThing_11 : decode cX12_costOfThing 11 = .ok (.invokevirtual 220, 3) := by decide +kernel
theorem dX12_costOfThing_14 : decode cX12_costOfThing 14 = .ok (.aload_n 0, 1) := by decide +kernel
theorem dX12_costOfThing_15 : decode cX12_costOfThing 15 = .ok (.iload_n 2, 1) := by decide +kernel
theorem dX12_costOfThing_16 : decode cX12_costOfThing 16 = .ok (.iconst 2, 1) := by decide +kernel
theorem dX12_costOfThing_17 : decode cX12_costOfThing 17 = .ok (.invokevirtual 220, 3) := by decide +kernel
theorem dX12_costOfThing_20 : decode cX12_costOfThing 20 = .ok (.iload_n 3, 1) := by decide +kernel
theorem dX12_costOfThing_21 : decode cX12_costOfThing 21 = .ok (.invokevirtual 235, 3) := by decide +kernel
theorem dX12_costOfThing_24 : decode cX12_costOfThing 24 = .ok (.ireturn, 1) := by decide +kernel
abbrev YX12_costOfThing : li_Y := (yX12_costOfThing, cX12_costOfThing, 4, (some .int))
theorem dX12_bestWay_0 : decode cX12_bestWay 0 = .ok (.iconst 3, 1) := by decide +kernel
theorem dX12_bestWay_1 : decode cX12_bestWay 1 = .ok (.istore 5, 2) := by decide +kernel
theorem dX12_bestWay_3 : decode cX12_bestWay 3 = .ok (.iconst 2, 1) := by decide +kernel
theorem dX12_bestWay_4 : decode cX12_bestWay 4 = .ok (.istore 6, 2) := by decide +kernel
theorem dX12_bestWay_6 : decode cX12_bestWay 6 = .ok (.iload 6, 2) := by decide +kernel
theorem dX12_bestWay_8 : decode cX12_bestWay 8 = .ok (.ifCond .lt 52, 3) := by decide +kernel
theorem dX12_bestWay_11 : decode cX12_bestWay 11 = .ok (.aload_n 0, 1) := by decide +kernel
theorem dX12_bestWay_12 : decode cX12_bestWay 12 = .ok (.iload_n 2, 1) := by decide +kernel
theorem dX12_bestWay_13 : decode cX12_bestWay 13 = .ok (.iload_n 3, 1) := by decide +kernel
theorem dX12_bestWay_14 : decode cX12_bestWay 14 = .ok (.invokevirtual 214, 3) := by decide +kernel
theorem dX12_bestWay_17 : decode cX12_bestWay 17 = .ok (.iload 6, 2) := by decide +kernel
theorem dX12_bestWay_19 : decode cX12_bestWay 19 = .ok (.invokestatic 217, 3) := by decide +kernel
theorem dX12_bestWay_22 : decode cX12_bestWay 22 = .ok (.if_icmp .gt 32, 3) := by decide +kernel
theorem dX12_bestWay_25 : decode cX12_bestWay 25 = .ok (.aload_n 0, 1) := by decide +kernel
theorem dX12_bestWay_26 : decode cX12_bestWay 26 = .ok (.aload_n 1, 1) := by decide +kernel
theorem dX12_bestWay_27 : decode cX12_bestWay 27 = .ok (.iload_n 2, 1) := by decide +kernel
theorem dX12_bestWay_28 : decode cX12_bestWay 28 = .ok (.iload_n 3, 1) := by decide +kernel
theorem dX12_bestWay_29 : decode cX12_bestWay 29 = .ok (.iload 4, 2) := by decide +kernel
theorem dX12_bestWay_31 : decode cX12_bestWay 31 = .ok (.iload 6, 2) := by decide +kernel
theorem dX12_bestWay_33 : decode cX12_bestWay 33 = .ok (.invokevirtual 235, 3) := by decide +kernel
theorem dX12_bestWay_36 : decode cX12_bestWay 36 = .ok (.aload_n 0, 1) := by decide +kernel
theorem dX12_bestWay_37 : decode cX12_bestWay 37 = .ok (.aload_n 1, 1) := by decide +kernel
theorem dX12_bestWay_38 : decode cX12_bestWay 38 = .ok (.iload_n 2, 1) := by decide +kernel
theorem dX12_bestWay_39 : decode cX12_bestWay 39 = .ok (.iload_n 3, 1) := by decide +kernel
theorem dX12_bestWay_40 : decode cX12_bestWay 40 = .ok (.iload 4, 2) := by decide +kernel
theorem dX12_bestWay_42 : decode cX12_bestWay 42 = .ok (.iload 5, 2) := by decide +kernel
theorem dX12_bestWay_44 : decode cX12_bestWay 44 = .ok (.invokevirtual 235, 3) := by decide +kernel
theorem dX12_bestWay_47 : decode cX12_bestWay 47 = .ok (.if_icmp .gt 7, 3) := by decide +kernel
theorem dX12_bestWay_50 : decode cX12_bestWay 50 = .ok (.iload 6, 2) := by decide +kernel
theorem dX12_bestWay_52 : decode cX12_bestWay 52 = .ok (.istore 5, 2) := by decide +kernel
theorem dX12_bestWay_54 : decode cX12_bestWay 54 = .ok (.iinc 6 (-1), 3) := by decide +kernel
theorem dX12_bestWay_57 : decode cX12_bestWay 57 = .ok (.goto (-51), 3) := by decide +kernel
theorem dX12_bestWay_60 : decode cX12_bestWay 60 = .ok (.iload 5, 2) := by decide +kernel
theorem dX12_bestWay_62 : decode cX12_bestWay 62 = .ok (.ireturn, 1) := by decide +kernel
abbrev YX12_bestWay : li_Y := (yX12_bestWay, cX12_bestWay, 7, (some .int))
theorem dX12_bestWayOf_0 : decode cX12_bestWayOf 0 = .ok (.aload_n 0, 1) := by decide +kernel
theorem dX12_bestWayOf_1 : decode cX12_bestWayOf 1 = .ok (.aload_n 1, 1) := by decide +kernel
theorem dX12_bestWayOf_2 : decode cX12_bestWayOf 2 = .ok (.aload_n 0, 1) := by decide +kernel
theorem dX12_bestWayOf_3 : decode cX12_bestWayOf 3 = .ok (.iload_n 2, 1) := by decide +kernel
theorem dX12_bestWayOf_4 : decode cX12_bestWayOf 4 = .ok (.iconst 0, 1) := by decide +kernel
theorem dX12_bestWayOf_5 : decode cX12_bestWayOf 5 = .ok (.invokevirtual 220, 3) := by decide +kernel
theorem dX12_bestWayOf_8 : decode cX12_bestWayOf 8 = .ok (.aload_n 0, 1) := by decide +kernel
theorem dX12_bestWayOf_9 : decode cX12_bestWayOf 9 = .ok (.iload_n 2, 1) := by decide +kernel
theorem dX12_bestWayOf_10 : decode cX12_bestWayOf 10 = .ok (.iconst 1, 1) := by decide +kernel
theorem dX12_bestWayOf_11 : decode cX12_bestWayOf 11 = .ok (.invokevirtual 220, 3) := by decide +kernel
theorem dX12_bestWayOf_14 : decode cX12_bestWayOf 14 = .ok (.aload_n 0, 1) := by decide +kernel
theorem dX12_bestWayOf_15 : decode cX12_bestWayOf 15 = .ok (.iload_n 2, 1) := by decide +kernel
theorem dX12_bestWayOf_16 : decode cX12_bestWayOf 16 = .ok (.iconst 2, 1) := by decide +kernel
theorem dX12_bestWayOf_17 : decode cX12_bestWayOf 17 = .ok (.invokevirtual 220, 3) := by decide +kernel
theorem dX12_bestWayOf_20 : decode cX12_bestWayOf 20 = .ok (.invokevirtual 239, 3) := by decide +kernel
theorem dX12_bestWayOf_23 : decode cX12_bestWayOf 23 = .ok (.ireturn, 1) := by decide +kernel
abbrev YX12_bestWayOf : li_Y := (yX12_bestWayOf, cX12_bestWayOf, 3, (some .int))
theorem dX12_leastOf_0 : decode cX12_leastOf 0 = .ok (.aload_n 0, 1) := by decide +kernel
theorem dX12_leastOf_1 : decode cX12_leastOf 1 = .ok (.aload_n 1, 1) := by decide +kernel
theorem dX12_leastOf_2 : decode cX12_leastOf 2 = .ok (.iload_n 2, 1) := by decide +kernel
theorem dX12_leastOf_3 : decode cX12_leastOf 3 = .ok (.aload_n 0, 1) := by decide +kernel
theorem dX12_leastOf_4 : decode cX12_leastOf 4 = .ok (.aload_n 1, 1) := by decide +kernel
theorem dX12_leastOf_5 : decode cX12_leastOf 5 = .ok (.iload_n 2, 1) := by decide +kernel
theorem dX12_leastOf_6 : decode cX12_leastOf 6 = .ok (.invokevirtual 243, 3) := by decide +kernel
theorem dX12_leastOf_9 : decode cX12_leastOf 9 = .ok (.invokevirtual 247, 3) := by decide +kernel
theorem dX12_leastOf_12 : decode cX12_leastOf 12 = .ok (.ireturn, 1) := by decide +kernel
abbrev YX12_leastOf : li_Y := (yX12_leastOf, cX12_leastOf, 3, (some .int))
theorem dX12_person_0 : decode cX12_person 0 = .ok (.aload_n 0, 1) := by decide +kernel
theorem dX12_person_1 : decode cX12_person 1 = .ok (.iconst 0, 1) := by decide +kernel
theorem dX12_person_2 : decode cX12_person 2 = .ok (.putfield 103, 3) := by decide +kernel
theorem dX12_person_5 : decode cX12_person 5 = .ok (.aload_n 0, 1) := by decide +kernel
theorem dX12_person_6 : decode cX12_person 6 = .ok (.iload_n 1, 1) := by decide +kernel
theorem dX12_person_7 : decode cX12_person 7 = .ok (.invokevirtual 117, 3) := by decide +kernel
theorem dX12_person_10 : decode cX12_person 10 = .ok (.ifCond .eq 13, 3) := by decide +kernel
theorem dX12_person_13 : decode cX12_person 13 = .ok (.iload_n 2, 1) := by decide +kernel
theorem dX12_person_14 : decode cX12_person 14 = .ok (.iconst 0, 1) := by decide +kernel
theorem dX12_person_15 : decode cX12_person 15 = .ok (.bipush 6, 2) := by decide +kernel
theorem dX12_person_17 : decode cX12_person 17 = .ok (.invokestatic 113, 3) := by decide +kernel
theorem dX12_person_20 : decode cX12_person 20 = .ok (.ifCond .ne 8, 3) := by decide +kernel
theorem dX12_person_23 : decode cX12_person 23 = .ok (.aload_n 0, 1) := by decide +kernel
theorem dX12_person_24 : decode cX12_person 24 = .ok (.invokevirtual 259, 3) := by decide +kernel
theorem dX12_person_27 : decode cX12_person 27 = .ok (.ireturn, 1) := by decide +kernel
theorem dX12_person_28 : decode cX12_person 28 = .ok (.iload_n 2, 1) := by decide +kernel
theorem dX12_person_29 : decode cX12_person 29 = .ok (.tableswitch 84 0 5 #[39, 46, 53, 60, 70, 77], 39) := by decide +kernel
theorem dX12_person_68 : decode cX12_person 68 = .ok (.aload_n 0, 1) := by decide +kernel
theorem dX12_person_69 : decode cX12_person 69 = .ok (.getfield 13, 3) := by decide +kernel
theorem dX12_person_72 : decode cX12_person 72 = .ok (.iload_n 1, 1) := by decide +kernel
theorem dX12_person_73 : decode cX12_person 73 = .ok (.iaload, 1) := by decide +kernel
theorem dX12_person_74 : decode cX12_person 74 = .ok (.ireturn, 1) := by decide +kernel
theorem dX12_person_75 : decode cX12_person 75 = .ok (.aload_n 0, 1) := by decide +kernel
theorem dX12_person_76 : decode cX12_person 76 = .ok (.getfield 9, 3) := by decide +kernel
theorem dX12_person_79 : decode cX12_person 79 = .ok (.iload_n 1, 1) := by decide +kernel
theorem dX12_person_80 : decode cX12_person 80 = .ok (.iaload, 1) := by decide +kernel
theorem dX12_person_81 : decode cX12_person 81 = .ok (.ireturn, 1) := by decide +kernel
theorem dX12_person_82 : decode cX12_person 82 = .ok (.aload_n 0, 1) := by decide +kernel
theorem dX12_person_83 : decode cX12_person 83 = .ok (.getfield 16, 3) := by decide +kernel
theorem dX12_person_86 : decode cX12_person 86 = .ok (.iload_n 1, 1) := by decide +kernel
theorem dX12_person_87 : decode cX12_person 87 = .ok (.iaload, 1) := by decide +kernel
theorem dX12_person_88 : decode cX12_person 88 = .ok (.ireturn, 1) := by decide +kernel
theorem dX12_person_89 : decode cX12_person 89 = .ok (.aload_n 0, 1) := by decide +kernel
theorem dX12_person_90 : decode cX12_person 90 = .ok (.getfield 9, 3) := by decide +kernel
theorem dX12_person_93 : decode cX12_person 93 = .ok (.bipush 6, 2) := by decide +kernel
theorem dX12_person_95 : decode cX12_person 95 = .ok (.iload_n 1, 1) := by decide +kernel
theorem dX12_person_96 : decode cX12_person 96 = .ok (.iadd, 1) := by decide +kernel
theorem dX12_person_97 : decode cX12_person 97 = .ok (.iaload, 1) := by decide +kernel
theorem dX12_person_98 : decode cX12_person 98 = .ok (.ireturn, 1) := by decide +kernel
theorem dX12_person_99 : decode cX12_person 99 = .ok (.aload_n 0, 1) := by decide +kernel
theorem dX12_person_100 : decode cX12_person 100 = .ok (.iload_n 1, 1) := by decide +kernel
theorem dX12_person_101 : decode cX12_person 101 = .ok (.iconst 1, 1) := by decide +kernel
theorem dX12_person_102 : decode cX12_person 102 = .ok (.invokevirtual 262, 3) := by decide +kernel
theorem dX12_person_105 : decode cX12_person 105 = .ok (.ireturn, 1) := by decide +kernel
theorem dX12_person_106 : decode cX12_person 106 = .ok (.aload_n 0, 1) := by decide +kernel
theorem dX12_person_107 : decode cX12_person 107 = .ok (.iload_n 1, 1) := by decide +kernel
theorem dX12_person_108 : decode cX12_person 108 = .ok (.iconst 0, 1) := by decide +kernel
theorem dX12_person_109 : decode cX12_person 109 = .ok (.invokevirtual 262, 3) := by decide +kernel
theorem dX12_person_112 : decode cX12_person 112 = .ok (.ireturn, 1) := by decide +kernel
theorem dX12_person_113 : decode cX12_person 113 = .ok (.aload_n 0, 1) := by decide +kernel
theorem dX12_person_114 : decode cX12_person 114 = .ok (.getfield 9, 3) := by decide +kernel
theorem dX12_person_117 : decode cX12_person 117 = .ok (.bipush 12, 2) := by decide +kernel
theorem dX12_person_119 : decode cX12_person 119 = .ok (.iload_n 1, 1) := by decide +kernel
theorem dX12_person_120 : decode cX12_person 120 = .ok (.iadd, 1) := by decide +kernel
theorem dX12_person_121 : decode cX12_person 121 = .ok (.iaload, 1) := by decide +kernel
theorem dX12_person_122 : decode cX12_person 122 = .ok (.ireturn, 1) := by decide +kernel
abbrev YX12_person : li_Y := (yX12_person, cX12_person, 3, (some .int))
theorem dX12_thing_0 : decode cX12_thing 0 = .ok (.aload_n 0, 1) := by decide +kernel
theorem dX12_thing_1 : decode cX12_thing 1 = .ok (.iconst 0, 1) := by decide +kernel
theorem dX12_thing_2 : decode cX12_thing 2 = .ok (.putfield 103, 3) := by decide +kernel
theorem dX12_thing_5 : decode cX12_thing 5 = .ok (.aload_n 0, 1) := by decide +kernel
theorem dX12_thing_6 : decode cX12_thing 6 = .ok (.iload_n 1, 1) := by decide +kernel
theorem dX12_thing_7 : decode cX12_thing 7 = .ok (.invokevirtual 265, 3) := by decide +kernel
theorem dX12_thing_10 : decode cX12_thing 10 = .ok (.ifCond .eq 13, 3) := by decide +kernel
theorem dX12_thing_13 : decode cX12_thing 13 = .ok (.iload_n 2, 1) := by decide +kernel
theorem dX12_thing_14 : decode cX12_thing 14 = .ok (.iconst 0, 1) := by decide +kernel
theorem dX12_thing_15 : decode cX12_thing 15 = .ok (.bipush 7, 2) := by decide +kernel
theorem dX12_thing_17 : decode cX12_thing 17 = .ok (.invokestatic 113, 3) := by decide +kernel
theorem dX12_thing_20 : decode cX12_thing 20 = .ok (.ifCond .ne 8, 3) := by decide +kernel
theorem dX12_thing_23 : decode cX12_thing 23 = .ok (.aload_n 0, 1) := by decide +kernel
theorem dX12_thing_24 : decode cX12_thing 24 = .ok (.invokevirtual 259, 3) := by decide +kernel
theorem dX12_thing_27 : decode cX12_thing 27 = .ok (.ireturn, 1) := by decide +kernel
theorem dX12_thing_28 : decode cX12_thing 28 = .ok (.iload_n 2, 1) := by decide +kernel
theorem dX12_thing_29 : decode cX12_thing 29 = .ok (.iconst 5, 1) := by decide +kernel
theorem dX12_thing_30 : decode cX12_thing 30 = .ok (.if_icmp .ge 10, 3) := by decide +kernel
theorem dX12_thing_33 : decode cX12_thing 33 = .ok (.aload_n 0, 1) := by decide +kernel
theorem dX12_thing_34 : decode cX12_thing 34 = .ok (.iload_n 1, 1) := by decide +kernel
theorem dX12_thing_35 : decode cX12_thing 35 = .ok (.iload_n 2, 1) := by decide +kernel
theorem dX12_thing_36 : decode cX12_thing 36 = .ok (.invokevirtual 220, 3) := by decide +kernel
theorem dX12_thing_39 : decode cX12_thing 39 = .ok (.ireturn, 1) := by decide +kernel
theorem dX12_thing_40 : decode cX12_thing 40 = .ok (.iload_n 2, 1) := by decide +kernel
theorem dX12_thing_41 : decode cX12_thing 41 = .ok (.iconst 5, 1) := by decide +kernel
theorem dX12_thing_42 : decode cX12_thing 42 = .ok (.if_icmp .ne 17, 3) := by decide +kernel
theorem dX12_thing_45 : decode cX12_thing 45 = .ok (.aload_n 0, 1) := by decide +kernel
theorem dX12_thing_46 : decode cX12_thing 46 = .ok (.getfield 9, 3) := by decide +kernel
theorem dX12_thing_49 : decode cX12_thing 49 = .ok (.bipush 18, 2) := by decide +kernel
theorem dX12_thing_51 : decode cX12_thing 51 = .ok (.iaload, 1) := by decide +kernel
theorem dX12_thing_52 : decode cX12_thing 52 = .ok (.iload_n 1, 1) := by decide +kernel
theorem dX12_thing_53 : decode cX12_thing 53 = .ok (.ishr, 1) := by decide +kernel
theorem dX12_thing_54 : decode cX12_thing 54 = .ok (.iconst 1, 1) := by decide +kernel
theorem dX12_thing_55 : decode cX12_thing 55 = .ok (.iand, 1) := by decide +kernel
theorem dX12_thing_56 : decode cX12_thing 56 = .ok (.goto 37, 3) := by decide +kernel
theorem dX12_thing_59 : decode cX12_thing 59 = .ok (.iload_n 2, 1) := by decide +kernel
theorem dX12_thing_60 : decode cX12_thing 60 = .ok (.bipush 6, 2) := by decide +kernel
theorem dX12_thing_62 : decode cX12_thing 62 = .ok (.if_icmp .ne 22, 3) := by decide +kernel
theorem dX12_thing_65 : decode cX12_thing 65 = .ok (.aload_n 0, 1) := by decide +kernel
theorem dX12_thing_66 : decode cX12_thing 66 = .ok (.aload_n 0, 1) := by decide +kernel
theorem dX12_thing_67 : decode cX12_thing 67 = .ok (.iload_n 1, 1) := by decide +kernel
theorem dX12_thing_68 : decode cX12_thing 68 = .ok (.iconst 0, 1) := by decide +kernel
theorem dX12_thing_69 : decode cX12_thing 69 = .ok (.invokevirtual 220, 3) := by decide +kernel
theorem dX12_thing_72 : decode cX12_thing 72 = .ok (.aload_n 0, 1) := by decide +kernel
theorem dX12_thing_73 : decode cX12_thing 73 = .ok (.iload_n 1, 1) := by decide +kernel
theorem dX12_thing_74 : decode cX12_thing 74 = .ok (.iconst 1, 1) := by decide +kernel
theorem dX12_thing_75 : decode cX12_thing 75 = .ok (.invokevirtual 220, 3) := by decide +kernel
theorem dX12_thing_78 : decode cX12_thing 78 = .ok (.invokevirtual 214, 3) := by decide +kernel
theorem dX12_thing_81 : decode cX12_thing 81 = .ok (.goto 12, 3) := by decide +kernel
theorem dX12_thing_84 : decode cX12_thing 84 = .ok (.aload_n 0, 1) := by decide +kernel
theorem dX12_thing_85 : decode cX12_thing 85 = .ok (.aload_n 0, 1) := by decide +kernel
theorem dX12_thing_86 : decode cX12_thing 86 = .ok (.getfield 9, 3) := by decide +kernel
theorem dX12_thing_89 : decode cX12_thing 89 = .ok (.iload_n 1, 1) := by decide +kernel
theorem dX12_thing_90 : decode cX12_thing 90 = .ok (.invokevirtual 243, 3) := by decide +kernel
theorem dX12_thing_93 : decode cX12_thing 93 = .ok (.ireturn, 1) := by decide +kernel
abbrev YX12_thing : li_Y := (yX12_thing, cX12_thing, 3, (some .int))
theorem dX12_loan_0 : decode cX12_loan 0 = .ok (.aload_n 0, 1) := by decide +kernel
theorem dX12_loan_1 : decode cX12_loan 1 = .ok (.iconst 0, 1) := by decide +kernel
theorem dX12_loan_2 : decode cX12_loan 2 = .ok (.putfield 103, 3) := by decide +kernel
theorem dX12_loan_5 : decode cX12_loan 5 = .ok (.iload_n 1, 1) := by decide +kernel
theorem dX12_loan_6 : decode cX12_loan 6 = .ok (.iconst 0, 1) := by decide +kernel
theorem dX12_loan_7 : decode cX12_loan 7 = .ok (.aload_n 0, 1) := by decide +kernel
theorem dX12_loan_8 : decode cX12_loan 8 = .ok (.getfield 9, 3) := by decide +kernel
theorem dX12_loan_11 : decode cX12_loan 11 = .ok (.bipush 20, 2) := by decide +kernel
theorem dX12_loan_13 : decode cX12_loan 13 = .ok (.iaload, 1) := by decide +kernel
theorem dX12_loan_14 : decode cX12_loan 14 = .ok (.iconst 1, 1) := by decide +kernel
theorem dX12_loan_15 : decode cX12_loan 15 = .ok (.isub, 1) := by decide +kernel
theorem dX12_loan_16 : decode cX12_loan 16 = .ok (.invokestatic 113, 3) := by decide +kernel
theorem dX12_loan_19 : decode cX12_loan 19 = .ok (.ifCond .eq 12, 3) := by decide +kernel
theorem dX12_loan_22 : decode cX12_loan 22 = .ok (.iload_n 2, 1) := by decide +kernel
theorem dX12_loan_23 : decode cX12_loan 23 = .ok (.iconst 0, 1) := by decide +kernel
theorem dX12_loan_24 : decode cX12_loan 24 = .ok (.iconst 4, 1) := by decide +kernel
theorem dX12_loan_25 : decode cX12_loan 25 = .ok (.invokestatic 113, 3) := by decide +kernel
theorem dX12_loan_28 : decode cX12_loan 28 = .ok (.ifCond .ne 8, 3) := by decide +kernel
theorem dX12_loan_31 : decode cX12_loan 31 = .ok (.aload_n 0, 1) := by decide +kernel
theorem dX12_loan_32 : decode cX12_loan 32 = .ok (.invokevirtual 259, 3) := by decide +kernel
theorem dX12_loan_35 : decode cX12_loan 35 = .ok (.ireturn, 1) := by decide +kernel
theorem dX12_loan_36 : decode cX12_loan 36 = .ok (.aload_n 0, 1) := by decide +kernel
theorem dX12_loan_37 : decode cX12_loan 37 = .ok (.getfield 9, 3) := by decide +kernel
theorem dX12_loan_40 : decode cX12_loan 40 = .ok (.bipush 21, 2) := by decide +kernel
theorem dX12_loan_42 : decode cX12_loan 42 = .ok (.iconst 5, 1) := by decide +kernel
theorem dX12_loan_43 : decode cX12_loan 43 = .ok (.iload_n 1, 1) := by decide +kernel
theorem dX12_loan_44 : decode cX12_loan 44 = .ok (.imul, 1) := by decide +kernel
theorem dX12_loan_45 : decode cX12_loan 45 = .ok (.iadd, 1) := by decide +kernel
theorem dX12_loan_46 : decode cX12_loan 46 = .ok (.iload_n 2, 1) := by decide +kernel
theorem dX12_loan_47 : decode cX12_loan 47 = .ok (.iadd, 1) := by decide +kernel
theorem dX12_loan_48 : decode cX12_loan 48 = .ok (.iaload, 1) := by decide +kernel
theorem dX12_loan_49 : decode cX12_loan 49 = .ok (.ireturn, 1) := by decide +kernel
abbrev YX12_loan : li_Y := (yX12_loan, cX12_loan, 3, (some .int))
theorem dX12_move_0 : decode cX12_move 0 = .ok (.aload_n 0, 1) := by decide +kernel
theorem dX12_move_1 : decode cX12_move 1 = .ok (.iconst 0, 1) := by decide +kernel
theorem dX12_move_2 : decode cX12_move 2 = .ok (.putfield 103, 3) := by decide +kernel
theorem dX12_move_5 : decode cX12_move 5 = .ok (.aload_n 0, 1) := by decide +kernel
theorem dX12_move_6 : decode cX12_move 6 = .ok (.iload_n 1, 1) := by decide +kernel
theorem dX12_move_7 : decode cX12_move 7 = .ok (.invokevirtual 117, 3) := by decide +kernel
theorem dX12_move_10 : decode cX12_move 10 = .ok (.ifCond .eq 13, 3) := by decide +kernel
theorem dX12_move_13 : decode cX12_move 13 = .ok (.iload_n 2, 1) := by decide +kernel
theorem dX12_move_14 : decode cX12_move 14 = .ok (.iconst 0, 1) := by decide +kernel
theorem dX12_move_15 : decode cX12_move 15 = .ok (.bipush 99, 2) := by decide +kernel
theorem dX12_move_17 : decode cX12_move 17 = .ok (.invokestatic 113, 3) := by decide +kernel
theorem dX12_move_20 : decode cX12_move 20 = .ok (.ifCond .ne 5, 3) := by decide +kernel
theorem dX12_move_23 : decode cX12_move 23 = .ok (.iconst (-1), 1) := by decide +kernel
theorem dX12_move_24 : decode cX12_move 24 = .ok (.ireturn, 1) := by decide +kernel
theorem dX12_move_25 : decode cX12_move 25 = .ok (.aload_n 0, 1) := by decide +kernel
theorem dX12_move_26 : decode cX12_move 26 = .ok (.getfield 13, 3) := by decide +kernel
theorem dX12_move_29 : decode cX12_move 29 = .ok (.iload_n 1, 1) := by decide +kernel
theorem dX12_move_30 : decode cX12_move 30 = .ok (.iaload, 1) := by decide +kernel
theorem dX12_move_31 : decode cX12_move 31 = .ok (.istore_n 3, 1) := by decide +kernel
theorem dX12_move_32 : decode cX12_move 32 = .ok (.aload_n 0, 1) := by decide +kernel
theorem dX12_move_33 : decode cX12_move 33 = .ok (.getfield 13, 3) := by decide +kernel
theorem dX12_move_36 : decode cX12_move 36 = .ok (.iload_n 1, 1) := by decide +kernel
theorem dX12_move_37 : decode cX12_move 37 = .ok (.iload_n 2, 1) := by decide +kernel
theorem dX12_move_38 : decode cX12_move 38 = .ok (.iastore, 1) := by decide +kernel
theorem dX12_move_39 : decode cX12_move 39 = .ok (.iload_n 3, 1) := by decide +kernel
theorem dX12_move_40 : decode cX12_move 40 = .ok (.ireturn, 1) := by decide +kernel
abbrev YX12_move : li_Y := (yX12_move, cX12_move, 4, (some .int))
set_option maxRecDepth 100000 in
set_option maxHeartbeats 4000000 in
theorem k_X12_costOf {l : Launch} {Z : li_Z} (d : Nat) (hd : 339 ≤ d) {a : Nat} (ha : li_la a) (p1 p2 p3 p4 : Int32) (M0 : li_M) (hJ : li_J M0) (h1 : 0 ≤ p1.toInt ∧ p1.toInt ≤ 5) (h2 : 0 ≤ p2.toInt ∧ p2.toInt ≤ 5) : li_Met l Z YX12_costOf d [.ref (Z.2.2 175), .ref (Z.2.2 a), .int p1, .int p2, .int p3, .int p4] M0 (fun r M' => (∃ x : Int32, r = some (.int x) ∧ (0 ≤ x.toInt ∧ x.toInt ≤ 999)) ∧ li_fs (fun i k => i = 185 ∨ i = 1000 ∨ (i = 175 ∧ k = 12) ∨ (i = 175 ∧ k = 13) ∨ (i = 175 ∧ k = 14) ∨ (i = 175 ∧ k = 15) ∨ (i = 175 ∧ k = 20)) M0 M' ∧ li_J M') := by
  refine li_enter (by decide +kernel) (Nat.le_of_ble_eq_true rfl) ?_
  show li_T l Z YX12_costOf d 0 [(0, .ref (Z.2.2 175)), (1, .ref (Z.2.2 a)), (2, .int p1), (3, .int p2), (4, .int p3), (5, .int p4)] [] M0 _
  have hf : li_fs (fun i k => i = 185 ∨ i = 1000 ∨ (i = 175 ∧ k = 12) ∨ (i = 175 ∧ k = 13) ∨ (i = 175 ∧ k = 14) ∨ (i = 175 ∧ k = 15) ∨ (i = 175 ∧ k = 20)) M0 M0 := li_fs_refl
  have gp1 := tl_rg p1
  have gp2 := tl_rg p2
  have gp3 := tl_rg p3
  have gp4 := tl_rg p4
  have caa : a = 176 ∨ a = 200 := ha
  refine li_aload_n 0 dX12_costOf_0 rfl ?_
  refine li_aload_n 1 dX12_costOf_1 rfl ?_
  refine li_bipush 19 dX12_costOf_2 (by decide) ?_
  have z19 : (19 : Int32).toInt = 19 := rfl
  refine li_iald dX12_costOf_4 (snA ha) (shA ha) (tl_in (by omega)) ?_
  refine li_top (fun x1 ex1 => ?_)
  have gx1 := tl_rg x1
  have lx1 : ((19 : Int32).toInt % 51 = 20 → 0 ≤ x1.toInt ∧ x1.toInt ≤ 6) ∧ (21 ≤ (19 : Int32).toInt % 51 → ((19 : Int32).toInt % 51 - 21) % 5 < 2 → 0 ≤ x1.toInt ∧ x1.toInt ≤ 5) := hJ.ldLed (li_la_led ha) ex1 (by omega)
  refine li_iload 4 dX12_costOf_5 rfl ?_
  refine li_iload 5 dX12_costOf_7 rfl ?_
  refine li_aload_n 0 dX12_costOf_9 rfl ?_
  refine li_iload_n 2 dX12_costOf_10 rfl ?_
  refine li_iload_n 3 dX12_costOf_11 rfl ?_
  refine li_callV (n := 2) (As := [.int p1, .int p2]) dX12_costOf_12 (k_X12_apart (d - 1) (by omega) p1 p2 M0 hJ (by omega) (by omega)) (by omega) (Nat.le_of_ble_eq_true rfl) w_1672 w_1674 w_61 w_112 w_1675 (by decide +kernel) rfl (by decide) sh_175 rfl rfl (Nat.le_of_ble_eq_true rfl) (fun r M3 h4 => ?_)
  obtain ⟨⟨x2, rfl⟩, h4, jM3⟩ := h4
  have gx2 := tl_rg x2
  have hf := li_fs_trans hf h4 (fun i k h => False.elim h)
  have hJ := jM3
  refine li_aload_n 1 dX12_costOf_15 rfl ?_
  refine li_iload_n 2 dX12_costOf_16 rfl ?_
  refine li_iald dX12_costOf_17 (snA ha) (shA ha) (tl_in (by omega)) ?_
  refine li_top (fun x5 ex5 => ?_)
  have gx5 := tl_rg x5
  try (have ox5 : (p1 : Int32).toInt % 51 = (p1 : Int32).toInt := by omega)
  have lx5 : ((p1 : Int32).toInt % 51 = 20 → 0 ≤ x5.toInt ∧ x5.toInt ≤ 6) ∧ (21 ≤ (p1 : Int32).toInt % 51 → ((p1 : Int32).toInt % 51 - 21) % 5 < 2 → 0 ≤ x5.toInt ∧ x5.toInt ≤ 5) := hJ.ldLed (li_la_led ha) ex5 (by omega)
  refine li_aload_n 0 dX12_costOf_18 rfl ?_
  refine li_iload_n 2 dX12_costOf_19 rfl ?_
  refine li_iload 5 dX12_costOf_20 rfl ?_
  refine li_callV (n := 2) (As := [.int p1, .int p4]) dX12_costOf_22 (k_X12_hears (d - 1) (by omega) p1 p4 M3 hJ (by omega)) (by omega) (Nat.le_of_ble_eq_true rfl) w_1692 w_1694 w_65 w_112 w_1695 (by decide +kernel) rfl (by decide) sh_175 rfl rfl (Nat.le_of_ble_eq_true rfl) (fun r M7 h8 => ?_)
  obtain ⟨⟨x6, rfl⟩, h8, jM7⟩ := h8
  have gx6 := tl_rg x6
  have hf := li_fs_trans hf h8 (fun i k h => False.elim h)
  have hJ := jM7
  refine li_callS (n := 1) (As := [.int x6]) dX12_costOf_25 (k_J6_bitCount_0f7a4 (d - 1) (by omega) x6 M7) (by omega) (Nat.le_of_ble_eq_true rfl) w_1696 w_822 w_123 w_823 (by decide +kernel) rfl rfl (Nat.le_of_ble_eq_true rfl) (fun r M10 h11 => ?_)
  obtain ⟨⟨x9, rfl⟩, h11⟩ := h11
  have eM10 : M10 = M7 := li_fr_none h11
  have hf : li_fs (fun i k => i = 185 ∨ i = 1000 ∨ (i = 175 ∧ k = 12) ∨ (i = 175 ∧ k = 13) ∨ (i = 175 ∧ k = 14) ∨ (i = 175 ∧ k = 15) ∨ (i = 175 ∧ k = 20)) M0 M10 := by rw [eM10]; exact hf
  have hJ : li_J M10 := by rw [eM10]; exact hJ
  have gx9 := tl_rg x9
  refine li_callV (n := 6) (As := [.int x1, .int p3, .int p4, .int x2, .int x5, .int x9]) dX12_costOf_28 (k_X12_costBy (d - 1) (by omega) x1 p3 p4 x2 x5 x9 M10 hJ ) (by omega) (Nat.le_of_ble_eq_true rfl) w_1697 w_1699 w_66 w_112 w_1700 (by decide +kernel) rfl (by decide) sh_175 rfl rfl (Nat.le_of_ble_eq_true rfl) (fun r M13 h14 => ?_)
  obtain ⟨⟨x12, rfl, qx12⟩, h14, jM13⟩ := h14
  have gx12 := tl_rg x12
  have hf := li_fs_trans hf h14 (fun i k => fun h => Or.elim h (fun h => Or.inl h) (fun h => Or.elim h (fun h => Or.inr (Or.inl h)) (fun h => Or.elim h (fun h => Or.inr (Or.inr (Or.inl h))) (fun h => Or.elim h (fun h => Or.inr (Or.inr (Or.inr (Or.inl h)))) (fun h => Or.elim h (fun h => Or.inr (Or.inr (Or.inr (Or.inr (Or.inl h))))) (fun h => Or.elim h (fun h => Or.inr (Or.inr (Or.inr (Or.inr (Or.inr (Or.inl h)))))) (fun h => Or.inr (Or.inr (Or.inr (Or.inr (Or.inr (Or.inr h))))))))))))
  have hJ := jM13
  exact li_iret dX12_costOf_31 rfl rfl ⟨⟨_, rfl, (by first | omega | (intro _; omega) | (refine ⟨?_, ?_⟩ <;> first | omega | (intro _; omega)) | (refine ⟨?_, ?_, ?_, ?_⟩ <;> first | omega | (intro _; omega)))⟩, hf, hJ⟩
set_option maxRecDepth 100000 in
set_option maxHeartbeats 4000000 in
theorem k_X12_costOfThing {l : Launch} {Z : li_Z} (d : Nat) (hd : 340 ≤ d) {a : Nat} (ha : li_la a) (p1 p2 : Int32) (M0 : li_M) (hJ : li_J M0) (h1 : 0 ≤ p1.toInt ∧ p1.toInt ≤ 7) : li_Met l Z YX12_costOfThing d [.ref (Z.2.2 175), .ref (Z.2.2 a), .int p1, .int p2] M0 (fun r M' => (∃ x : Int32, r = some (.int x) ∧ (0 ≤ x.toInt ∧ x.toInt ≤ 999)) ∧ li_fs (fun i k => i = 185 ∨ i = 1000 ∨ (i = 175 ∧ k = 12) ∨ (i = 175 ∧ k = 13) ∨ (i = 175 ∧ k = 14) ∨ (i = 175 ∧ k = 15) ∨ (i = 175 ∧ k = 20)) M0 M' ∧ li_J M') := by
  refine li_enter (by decide +kernel) (Nat.le_of_ble_eq_true rfl) ?_
  show li_T l Z YX12_costOfThing d 0 [(0, .ref (Z.2.2 175)), (1, .ref (Z.2.2 a)), (2, .int p1), (3, .int p2)] [] M0 _
  have hf : li_fs (fun i k => i = 185 ∨ i = 1000 ∨ (i = 175 ∧ k = 12) ∨ (i = 175 ∧ k = 13) ∨ (i = 175 ∧ k = 14) ∨ (i = 175 ∧ k = 15) ∨ (i = 175 ∧ k = 20)) M0 M0 := li_fs_refl
  have gp1 := tl_rg p1
  have gp2 := tl_rg p2
  have caa : a = 176 ∨ a = 200 := ha
  refine li_aload_n 0 dX12_costOfThing_0 rfl ?_
  refine li_aload_n 1 dX12_costOfThing_1 rfl ?_
  refine li_aload_n 0 dX12_costOfThing_2 rfl ?_
  refine li_iload_n 2 dX12_costOfThing_3 rfl ?_
  refine li_iconst 0 dX12_costOfThing_4 (by decide) ?_
  have z0 : (0 : Int32).toInt = 0 := rfl
  refine li_callV (n := 2) (As := [.int p1, .int 0]) dX12_costOfThing_5 (k_X12_field (d - 1) (by omega) p1 0 M0 hJ (by omega) (by omega)) (by omega) (Nat.le_of_ble_eq_true rfl) w_1668 w_1670 w_60 w_112 w_1671 (by decide +kernel) rfl (by decide) sh_175 rfl rfl (Nat.le_of_ble_eq_true rfl) (fun r M2 h3 => ?_)
  obtain ⟨⟨x1, rfl, qx1⟩, h3, jM2⟩ := h3
  have gx1 := tl_rg x1
  have hf := li_fs_trans hf h3 (fun i k h => False.elim h)
  have hJ := jM2
  refine li_aload_n 0 dX12_costOfThing_8 rfl ?_
  refine li_iload_n 2 dX12_costOfThing_9 rfl ?_
  refine li_iconst 1 dX12_costOfThing_10 (by decide) ?_
  have z1 : (1 : Int32).toInt = 1 := rfl
  refine li_callV (n := 2) (As := [.int p1, .int 1]) dX12_costOfThing_11 (k_X12_field (d - 1) (by omega) p1 1 M2 hJ (by omega) (by omega)) (by omega) (Nat.le_of_ble_eq_true rfl) w_1668 w_1670 w_60 w_112 w_1671 (by decide +kernel) rfl (by decide) sh_175 rfl rfl (Nat.le_of_ble_eq_true rfl) (fun r M5 h6 => ?_)
  obtain ⟨⟨x4, rfl, qx4⟩, h6, jM5⟩ := h6
  have gx4 := tl_rg x4
  have hf := li_fs_trans hf h6 (fun i k h => False.elim h)
  have hJ := jM5
  refine li_aload_n 0 dX12_costOfThing_14 rfl ?_
  refine li_iload_n 2 dX12_costOfThing_15 rfl ?_
  refine li_iconst 2 dX12_costOfThing_16 (by decide) ?_
  have z2 : (2 : Int32).toInt = 2 := rfl
  refine li_callV (n := 2) (As := [.int p1, .int 2]) dX12_costOfThing_17 (k_X12_field (d - 1) (by omega) p1 2 M5 hJ (by omega) (by omega)) (by omega) (Nat.le_of_ble_eq_true rfl) w_1668 w_1670 w_60 w_112 w_1671 (by decide +kernel) rfl (by decide) sh_175 rfl rfl (Nat.le_of_ble_eq_true rfl) (fun r M8 h9 => ?_)
  obtain ⟨⟨x7, rfl, qx7⟩, h9, jM8⟩ := h9
  have gx7 := tl_rg x7
  have hf := li_fs_trans hf h9 (fun i k h => False.elim h)
  have hJ := jM8
  refine li_iload_n 3 dX12_costOfThing_20 rfl ?_
  refine li_callV (n := 5) (As := [.ref (Z.2.2 a), .int x1, .int x4, .int x7, .int p2]) dX12_costOfThing_21 (k_X12_costOf (d - 1) (by omega) ha x1 x4 x7 p2 M8 hJ (by omega) (by omega)) (by omega) (Nat.le_of_ble_eq_true rfl) w_1688 w_1690 w_64 w_112 w_1691 (by decide +kernel) rfl (by decide) sh_175 rfl rfl (Nat.le_of_ble_eq_true rfl) (fun r M11 h12 => ?_)
  obtain ⟨⟨x10, rfl, qx10⟩, h12, jM11⟩ := h12
  have gx10 := tl_rg x10
  have hf := li_fs_trans hf h12 (fun i k => fun h => Or.elim h (fun h => Or.inl h) (fun h => Or.elim h (fun h => Or.inr (Or.inl h)) (fun h => Or.elim h (fun h => Or.inr (Or.inr (Or.inl h))) (fun h => Or.elim h (fun h => Or.inr (Or.inr (Or.inr (Or.inl h)))) (fun h => Or.elim h (fun h => Or.inr (Or.inr (Or.inr (Or.inr (Or.inl h))))) (fun h => Or.elim h (fun h => Or.inr (Or.inr (Or.inr (Or.inr (Or.inr (Or.inl h)))))) (fun h => Or.inr (Or.inr (Or.inr (Or.inr (Or.inr (Or.inr h))))))))))))
  have hJ := jM11
  exact li_iret dX12_costOfThing_24 rfl rfl ⟨⟨_, rfl, (by first | omega | (intro _; omega) | (refine ⟨?_, ?_⟩ <;> first | omega | (intro _; omega)) | (refine ⟨?_, ?_, ?_, ?_⟩ <;> first | omega | (intro _; omega)))⟩, hf, hJ⟩
set_option maxRecDepth 100000 in
set_option maxHeartbeats 4000000 in
theorem k_X12_bestWay {l : Launch} {Z : li_Z} (d : Nat) (hd : 340 ≤ d) {a : Nat} (ha : li_la a) (p1 p2 p3 : Int32) (M0 : li_M) (hJ : li_J M0) (h1 : 0 ≤ p1.toInt ∧ p1.toInt ≤ 5) (h2 : 0 ≤ p2.toInt ∧ p2.toInt ≤ 5) : li_Met l Z YX12_bestWay d [.ref (Z.2.2 175), .ref (Z.2.2 a), .int p1, .int p2, .int p3] M0 (fun r M' => (∃ x : Int32, r = some (.int x)) ∧ li_fs (fun i k => i = 185 ∨ i = 1000 ∨ (i = 175 ∧ k = 12) ∨ (i = 175 ∧ k = 13) ∨ (i = 175 ∧ k = 14) ∨ (i = 175 ∧ k = 15) ∨ (i = 175 ∧ k = 20)) M0 M' ∧ li_J M') := by
  refine li_enter (by decide +kernel) (Nat.le_of_ble_eq_true rfl) ?_
  show li_T l Z YX12_bestWay d 0 [(0, .ref (Z.2.2 175)), (1, .ref (Z.2.2 a)), (2, .int p1), (3, .int p2), (4, .int p3)] [] M0 _
  have hf : li_fs (fun i k => i = 185 ∨ i = 1000 ∨ (i = 175 ∧ k = 12) ∨ (i = 175 ∧ k = 13) ∨ (i = 175 ∧ k = 14) ∨ (i = 175 ∧ k = 15) ∨ (i = 175 ∧ k = 20)) M0 M0 := li_fs_refl
  have gp1 := tl_rg p1
  have gp2 := tl_rg p2
  have gp3 := tl_rg p3
  have caa : a = 176 ∨ a = 200 := ha
  refine li_iconst 3 dX12_bestWay_0 (by decide) ?_
  refine li_istore [(5, .int 3), (0, .ref (Z.2.2 175)), (1, .ref (Z.2.2 a)), (2, .int p1), (3, .int p2), (4, .int p3)] dX12_bestWay_1 (by decide) rfl ?_
  refine li_iconst 2 dX12_bestWay_3 (by decide) ?_
  refine li_istore [(6, .int 2), (5, .int 3), (0, .ref (Z.2.2 175)), (1, .ref (Z.2.2 a)), (2, .int p1), (3, .int p2), (4, .int p3)] dX12_bestWay_4 (by decide) rfl ?_
  have L6 : ∀ (n : Nat) (x1 : Int32) (x2 : Int32) (M3 : li_M), ((x1 : Int32).toInt + 1).toNat < n → li_fs (fun i k => i = 185 ∨ i = 1000 ∨ (i = 175 ∧ k = 12) ∨ (i = 175 ∧ k = 13) ∨ (i = 175 ∧ k = 14) ∨ (i = 175 ∧ k = 15) ∨ (i = 175 ∧ k = 20)) M0 M3 → li_J M3 → -1 ≤ (x1 : Int32).toInt ∧ (x1 : Int32).toInt ≤ 2 → li_T l Z YX12_bestWay d 6 [(6, .int x1), (5, .int x2), (0, .ref (Z.2.2 175)), (1, .ref (Z.2.2 a)), (2, .int p1), (3, .int p2), (4, .int p3)] [] M3 (fun r M' => (∃ x : Int32, r = some (.int x)) ∧ li_fs (fun i k => i = 185 ∨ i = 1000 ∨ (i = 175 ∧ k = 12) ∨ (i = 175 ∧ k = 13) ∨ (i = 175 ∧ k = 14) ∨ (i = 175 ∧ k = 15) ∨ (i = 175 ∧ k = 20)) M0 M' ∧ li_J M') := by
    intro n
    induction n with
    | zero => intro x1 x2 M3 hn; exact absurd hn (Nat.not_lt_zero _)
    | succ n ih6 =>
      intro x1 x2 M3 hn hf hJ hi
      have gx1 := tl_rg x1
      have gx2 := tl_rg x2
      refine li_iload 0 dX12_bestWay_6 rfl ?_
      refine li_if_lt 60 dX12_bestWay_8 (by decide) (fun c4 => ?_) (fun c4 => ?_)
      · have tc4 : x1.toInt < 0 := tl_lt c4
        refine li_iload 1 dX12_bestWay_60 rfl ?_
        exact li_iret dX12_bestWay_62 rfl rfl ⟨⟨_, rfl⟩, hf, hJ⟩
      · have tc4 : 0 ≤ x1.toInt := tl_nlt c4
        refine li_aload_n 2 dX12_bestWay_11 rfl ?_
        refine li_iload_n 4 dX12_bestWay_12 rfl ?_
        refine li_iload_n 5 dX12_bestWay_13 rfl ?_
        refine li_callV (n := 2) (As := [.int p1, .int p2]) dX12_bestWay_14 (k_X12_apart (d - 1) (by omega) p1 p2 M3 hJ (by omega) (by omega)) (by omega) (Nat.le_of_ble_eq_true rfl) w_1672 w_1674 w_61 w_112 w_1675 (by decide +kernel) rfl (by decide) sh_175 rfl rfl (Nat.le_of_ble_eq_true rfl) (fun r M6 h7 => ?_)
        obtain ⟨⟨x5, rfl⟩, h7, jM6⟩ := h7
        have gx5 := tl_rg x5
        have hf := li_fs_trans hf h7 (fun i k h => False.elim h)
        have hJ := jM6
        refine li_iload 0 dX12_bestWay_17 rfl ?_
        refine li_callS (n := 1) (As := [.int x1]) dX12_bestWay_19 (k_X12_carries (d - 1) (by omega) x1 M6 hJ ) (by omega) (Nat.le_of_ble_eq_true rfl) w_1685 w_1686 w_112 w_1687 (by decide +kernel) rfl rfl (Nat.le_of_ble_eq_true rfl) (fun r M9 h10 => ?_)
        obtain ⟨⟨x8, rfl⟩, h10, jM9⟩ := h10
        have gx8 := tl_rg x8
        have hf := li_fs_trans hf h10 (fun i k h => False.elim h)
        have hJ := jM9
        have J54 : ∀ (x12 : Int32) (M13 : li_M), li_fs (fun i k => i = 185 ∨ i = 1000 ∨ (i = 175 ∧ k = 12) ∨ (i = 175 ∧ k = 13) ∨ (i = 175 ∧ k = 14) ∨ (i = 175 ∧ k = 15) ∨ (i = 175 ∧ k = 20)) M0 M13 → li_J M13 → li_T l Z YX12_bestWay d 54 [(6, .int x1), (5, .int x12), (0, .ref (Z.2.2 175)), (1, .ref (Z.2.2 a)), (2, .int p1), (3, .int p2), (4, .int p3)] [] M13 (fun r M' => (∃ x : Int32, r = some (.int x)) ∧ li_fs (fun i k => i = 185 ∨ i = 1000 ∨ (i = 175 ∧ k = 12) ∨ (i = 175 ∧ k = 13) ∨ (i = 175 ∧ k = 14) ∨ (i = 175 ∧ k = 15) ∨ (i = 175 ∧ k = 20)) M0 M' ∧ li_J M') := by
          intro x12 M13 hf hJ
          have gx12 := tl_rg x12
          obtain ⟨x14, ex14⟩ : ∃ y : Int32, y = x1 + (-1) := ⟨_, rfl⟩
          have zm1 : ((-1) : Int32).toInt = -1 := rfl
          try (have tx14 : x14.toInt = (x1 : Int32).toInt + ((-1) : Int32).toInt := tl_add ex14 (by omega))
          refine li_iinc 0 [(6, .int x14), (5, .int x12), (0, .ref (Z.2.2 175)), (1, .ref (Z.2.2 a)), (2, .int p1), (3, .int p2), (4, .int p3)] x14 dX12_bestWay_54 rfl (by rw [ex14]; rfl) (by decide) rfl ?_
          refine li_goto 6 dX12_bestWay_57 (by decide) ?_
          refine li_pick [0, 1, 2, 3, 4, 5, 6] [(6, .int x14), (5, .int x12), (0, .ref (Z.2.2 175)), (1, .ref (Z.2.2 a)), (2, .int p1), (3, .int p2), (4, .int p3)] rfl ?_
          exact ih6 x14 x12 M13 (by omega) hf hJ (by omega)
        refine li_icmp_gt 54 dX12_bestWay_22 (by decide) (fun c11 => ?_) (fun c11 => ?_)
        · have tc11 : x8.toInt < x5.toInt := tl_lt c11
          refine li_pick [0, 1, 2, 3, 4, 5, 6] [(6, .int x1), (5, .int x2), (0, .ref (Z.2.2 175)), (1, .ref (Z.2.2 a)), (2, .int p1), (3, .int p2), (4, .int p3)] rfl ?_
          exact J54 x2 M9 hf hJ
        · have tc11 : x5.toInt ≤ x8.toInt := tl_nlt c11
          refine li_aload_n 2 dX12_bestWay_25 rfl ?_
          refine li_aload_n 3 dX12_bestWay_26 rfl ?_
          refine li_iload_n 4 dX12_bestWay_27 rfl ?_
          refine li_iload_n 5 dX12_bestWay_28 rfl ?_
          refine li_iload 6 dX12_bestWay_29 rfl ?_
          refine li_iload 0 dX12_bestWay_31 rfl ?_
          refine li_callV (n := 5) (As := [.ref (Z.2.2 a), .int p1, .int p2, .int p3, .int x1]) dX12_bestWay_33 (k_X12_costOf (d - 1) (by omega) ha p1 p2 p3 x1 M9 hJ (by omega) (by omega)) (by omega) (Nat.le_of_ble_eq_true rfl) w_1688 w_1690 w_64 w_112 w_1691 (by decide +kernel) rfl (by decide) sh_175 rfl rfl (Nat.le_of_ble_eq_true rfl) (fun r M16 h17 => ?_)
          obtain ⟨⟨x15, rfl, qx15⟩, h17, jM16⟩ := h17
          have gx15 := tl_rg x15
          have hf := li_fs_trans hf h17 (fun i k => fun h => Or.elim h (fun h => Or.inl h) (fun h => Or.elim h (fun h => Or.inr (Or.inl h)) (fun h => Or.elim h (fun h => Or.inr (Or.inr (Or.inl h))) (fun h => Or.elim h (fun h => Or.inr (Or.inr (Or.inr (Or.inl h)))) (fun h => Or.elim h (fun h => Or.inr (Or.inr (Or.inr (Or.inr (Or.inl h))))) (fun h => Or.elim h (fun h => Or.inr (Or.inr (Or.inr (Or.inr (Or.inr (Or.inl h)))))) (fun h => Or.inr (Or.inr (Or.inr (Or.inr (Or.inr (Or.inr h))))))))))))
          have hJ := jM16
          refine li_aload_n 2 dX12_bestWay_36 rfl ?_
          refine li_aload_n 3 dX12_bestWay_37 rfl ?_
          refine li_iload_n 4 dX12_bestWay_38 rfl ?_
          refine li_iload_n 5 dX12_bestWay_39 rfl ?_
          refine li_iload 6 dX12_bestWay_40 rfl ?_
          refine li_iload 1 dX12_bestWay_42 rfl ?_
          refine li_callV (n := 5) (As := [.ref (Z.2.2 a), .int p1, .int p2, .int p3, .int x2]) dX12_bestWay_44 (k_X12_costOf (d - 1) (by omega) ha p1 p2 p3 x2 M16 hJ (by omega) (by omega)) (by omega) (Nat.le_of_ble_eq_true rfl) w_1688 w_1690 w_64 w_112 w_1691 (by decide +kernel) rfl (by decide) sh_175 rfl rfl (Nat.le_of_ble_eq_true rfl) (fun r M19 h20 => ?_)
          obtain ⟨⟨x18, rfl, qx18⟩, h20, jM19⟩ := h20
          have gx18 := tl_rg x18
          have hf := li_fs_trans hf h20 (fun i k => fun h => Or.elim h (fun h => Or.inl h) (fun h => Or.elim h (fun h => Or.inr (Or.inl h)) (fun h => Or.elim h (fun h => Or.inr (Or.inr (Or.inl h))) (fun h => Or.elim h (fun h => Or.inr (Or.inr (Or.inr (Or.inl h)))) (fun h => Or.elim h (fun h => Or.inr (Or.inr (Or.inr (Or.inr (Or.inl h))))) (fun h => Or.elim h (fun h => Or.inr (Or.inr (Or.inr (Or.inr (Or.inr (Or.inl h)))))) (fun h => Or.inr (Or.inr (Or.inr (Or.inr (Or.inr (Or.inr h))))))))))))
          have hJ := jM19
          refine li_icmp_gt 54 dX12_bestWay_47 (by decide) (fun c21 => ?_) (fun c21 => ?_)
          · have tc21 : x18.toInt < x15.toInt := tl_lt c21
            refine li_pick [0, 1, 2, 3, 4, 5, 6] [(6, .int x1), (5, .int x2), (0, .ref (Z.2.2 175)), (1, .ref (Z.2.2 a)), (2, .int p1), (3, .int p2), (4, .int p3)] rfl ?_
            exact J54 x2 M19 hf hJ
          · have tc21 : x15.toInt ≤ x18.toInt := tl_nlt c21
            refine li_iload 0 dX12_bestWay_50 rfl ?_
            refine li_istore [(5, .int x1), (6, .int x1), (0, .ref (Z.2.2 175)), (1, .ref (Z.2.2 a)), (2, .int p1), (3, .int p2), (4, .int p3)] dX12_bestWay_52 (by decide) rfl ?_
            refine li_pick [1, 0, 2, 3, 4, 5, 6] [(6, .int x1), (5, .int x1), (0, .ref (Z.2.2 175)), (1, .ref (Z.2.2 a)), (2, .int p1), (3, .int p2), (4, .int p3)] rfl ?_
            exact J54 x1 M19 hf hJ
  have z2 : (2 : Int32).toInt = 2 := rfl
  have z3 : (3 : Int32).toInt = 3 := rfl
  exact L6 _ 2 3 M0 (Nat.lt_succ_self _) hf hJ (by omega)
set_option maxRecDepth 100000 in
set_option maxHeartbeats 4000000 in
theorem k_X12_bestWayOf {l : Launch} {Z : li_Z} (d : Nat) (hd : 341 ≤ d) {a : Nat} (ha : li_la a) (p1 : Int32) (M0 : li_M) (hJ : li_J M0) (h1 : 0 ≤ p1.toInt ∧ p1.toInt ≤ 7) : li_Met l Z YX12_bestWayOf d [.ref (Z.2.2 175), .ref (Z.2.2 a), .int p1] M0 (fun r M' => (∃ x : Int32, r = some (.int x)) ∧ li_fs (fun i k => i = 185 ∨ i = 1000 ∨ (i = 175 ∧ k = 12) ∨ (i = 175 ∧ k = 13) ∨ (i = 175 ∧ k = 14) ∨ (i = 175 ∧ k = 15) ∨ (i = 175 ∧ k = 20)) M0 M' ∧ li_J M') := by
  refine li_enter (by decide +kernel) (Nat.le_of_ble_eq_true rfl) ?_
  show li_T l Z YX12_bestWayOf d 0 [(0, .ref (Z.2.2 175)), (1, .ref (Z.2.2 a)), (2, .int p1)] [] M0 _
  have hf : li_fs (fun i k => i = 185 ∨ i = 1000 ∨ (i = 175 ∧ k = 12) ∨ (i = 175 ∧ k = 13) ∨ (i = 175 ∧ k = 14) ∨ (i = 175 ∧ k = 15) ∨ (i = 175 ∧ k = 20)) M0 M0 := li_fs_refl
  have gp1 := tl_rg p1
  have caa : a = 176 ∨ a = 200 := ha
  refine li_aload_n 0 dX12_bestWayOf_0 rfl ?_
  refine li_aload_n 1 dX12_bestWayOf_1 rfl ?_
  refine li_aload_n 0 dX12_bestWayOf_2 rfl ?_
  refine li_iload_n 2 dX12_bestWayOf_3 rfl ?_
  refine li_iconst 0 dX12_bestWayOf_4 (by decide) ?_
  have z0 : (0 : Int32).toInt = 0 := rfl
  refine li_callV (n := 2) (As := [.int p1, .int 0]) dX12_bestWayOf_5 (k_X12_field (d - 1) (by omega) p1 0 M0 hJ (by omega) (by omega)) (by omega) (Nat.le_of_ble_eq_true rfl) w_1668 w_1670 w_60 w_112 w_1671 (by decide +kernel) rfl (by decide) sh_175 rfl rfl (Nat.le_of_ble_eq_true rfl) (fun r M2 h3 => ?_)
  obtain ⟨⟨x1, rfl, qx1⟩, h3, jM2⟩ := h3
  have gx1 := tl_rg x1
  have hf := li_fs_trans hf h3 (fun i k h => False.elim h)
  have hJ := jM2
  refine li_aload_n 0 dX12_bestWayOf_8 rfl ?_
  refine li_iload_n 2 dX12_bestWayOf_9 rfl ?_
  refine li_iconst 1 dX12_bestWayOf_10 (by decide) ?_
  have z1 : (1 : Int32).toInt = 1 := rfl
  refine li_callV (n := 2) (As := [.int p1, .int 1]) dX12_bestWayOf_11 (k_X12_field (d - 1) (by omega) p1 1 M2 hJ (by omega) (by omega)) (by omega) (Nat.le_of_ble_eq_true rfl) w_1668 w_1670 w_60 w_112 w_1671 (by decide +kernel) rfl (by decide) sh_175 rfl rfl (Nat.le_of_ble_eq_true rfl) (fun r M5 h6 => ?_)
  obtain ⟨⟨x4, rfl, qx4⟩, h6, jM5⟩ := h6
  have gx4 := tl_rg x4
  have hf := li_fs_trans hf h6 (fun i k h => False.elim h)
  have hJ := jM5
  refine li_aload_n 0 dX12_bestWayOf_14 rfl ?_
  refine li_iload_n 2 dX12_bestWayOf_15 rfl ?_
  refine li_iconst 2 dX12_bestWayOf_16 (by decide) ?_
  have z2 : (2 : Int32).toInt = 2 := rfl
  refine li_callV (n := 2) (As := [.int p1, .int 2]) dX12_bestWayOf_17 (k_X12_field (d - 1) (by omega) p1 2 M5 hJ (by omega) (by omega)) (by omega) (Nat.le_of_ble_eq_true rfl) w_1668 w_1670 w_60 w_112 w_1671 (by decide +kernel) rfl (by decide) sh_175 rfl rfl (Nat.le_of_ble_eq_true rfl) (fun r M8 h9 => ?_)
  obtain ⟨⟨x7, rfl, qx7⟩, h9, jM8⟩ := h9
  have gx7 := tl_rg x7
  have hf := li_fs_trans hf h9 (fun i k h => False.elim h)
  have hJ := jM8
  refine li_callV (n := 4) (As := [.ref (Z.2.2 a), .int x1, .int x4, .int x7]) dX12_bestWayOf_20 (k_X12_bestWay (d - 1) (by omega) ha x1 x4 x7 M8 hJ (by omega) (by omega)) (by omega) (Nat.le_of_ble_eq_true rfl) w_1681 w_1683 w_63 w_112 w_1684 (by decide +kernel) rfl (by decide) sh_175 rfl rfl (Nat.le_of_ble_eq_true rfl) (fun r M11 h12 => ?_)
  obtain ⟨⟨x10, rfl⟩, h12, jM11⟩ := h12
  have gx10 := tl_rg x10
  have hf := li_fs_trans hf h12 (fun i k => fun h => Or.elim h (fun h => Or.inl h) (fun h => Or.elim h (fun h => Or.inr (Or.inl h)) (fun h => Or.elim h (fun h => Or.inr (Or.inr (Or.inl h))) (fun h => Or.elim h (fun h => Or.inr (Or.inr (Or.inr (Or.inl h)))) (fun h => Or.elim h (fun h => Or.inr (Or.inr (Or.inr (Or.inr (Or.inl h))))) (fun h => Or.elim h (fun h => Or.inr (Or.inr (Or.inr (Or.inr (Or.inr (Or.inl h)))))) (fun h => Or.inr (Or.inr (Or.inr (Or.inr (Or.inr (Or.inr h))))))))))))
  have hJ := jM11
  exact li_iret dX12_bestWayOf_23 rfl rfl ⟨⟨_, rfl⟩, hf, hJ⟩
set_option maxRecDepth 100000 in
set_option maxHeartbeats 4000000 in
theorem k_X12_leastOf {l : Launch} {Z : li_Z} (d : Nat) (hd : 342 ≤ d) {a : Nat} (ha : li_la a) (p1 : Int32) (M0 : li_M) (hJ : li_J M0) (h1 : 0 ≤ p1.toInt ∧ p1.toInt ≤ 7) : li_Met l Z YX12_leastOf d [.ref (Z.2.2 175), .ref (Z.2.2 a), .int p1] M0 (fun r M' => (∃ x : Int32, r = some (.int x) ∧ (0 ≤ x.toInt ∧ x.toInt ≤ 999)) ∧ li_fs (fun i k => i = 185 ∨ i = 1000 ∨ (i = 175 ∧ k = 12) ∨ (i = 175 ∧ k = 13) ∨ (i = 175 ∧ k = 14) ∨ (i = 175 ∧ k = 15) ∨ (i = 175 ∧ k = 20)) M0 M' ∧ li_J M') := by
  refine li_enter (by decide +kernel) (Nat.le_of_ble_eq_true rfl) ?_
  show li_T l Z YX12_leastOf d 0 [(0, .ref (Z.2.2 175)), (1, .ref (Z.2.2 a)), (2, .int p1)] [] M0 _
  have hf : li_fs (fun i k => i = 185 ∨ i = 1000 ∨ (i = 175 ∧ k = 12) ∨ (i = 175 ∧ k = 13) ∨ (i = 175 ∧ k = 14) ∨ (i = 175 ∧ k = 15) ∨ (i = 175 ∧ k = 20)) M0 M0 := li_fs_refl
  have gp1 := tl_rg p1
  have caa : a = 176 ∨ a = 200 := ha
  refine li_aload_n 0 dX12_leastOf_0 rfl ?_
  refine li_aload_n 1 dX12_leastOf_1 rfl ?_
  refine li_iload_n 2 dX12_leastOf_2 rfl ?_
  refine li_aload_n 0 dX12_leastOf_3 rfl ?_
  refine li_aload_n 1 dX12_leastOf_4 rfl ?_
  refine li_iload_n 2 dX12_leastOf_5 rfl ?_
  refine li_callV (n := 2) (As := [.ref (Z.2.2 a), .int p1]) dX12_leastOf_6 (k_X12_bestWayOf (d - 1) (by omega) ha p1 M0 hJ (by omega)) (by omega) (Nat.le_of_ble_eq_true rfl) w_1677 w_1679 w_62 w_112 w_1680 (by decide +kernel) rfl (by decide) sh_175 rfl rfl (Nat.le_of_ble_eq_true rfl) (fun r M2 h3 => ?_)
  obtain ⟨⟨x1, rfl⟩, h3, jM2⟩ := h3
  have gx1 := tl_rg x1
  have hf := li_fs_trans hf h3 (fun i k => fun h => Or.elim h (fun h => Or.inl h) (fun h => Or.elim h (fun h => Or.inr (Or.inl h)) (fun h => Or.elim h (fun h => Or.inr (Or.inr (Or.inl h))) (fun h => Or.elim h (fun h => Or.inr (Or.inr (Or.inr (Or.inl h)))) (fun h => Or.elim h (fun h => Or.inr (Or.inr (Or.inr (Or.inr (Or.inl h))))) (fun h => Or.elim h (fun h => Or.inr (Or.inr (Or.inr (Or.inr (Or.inr (Or.inl h)))))) (fun h => Or.inr (Or.inr (Or.inr (Or.inr (Or.inr (Or.inr h))))))))))))
  have hJ := jM2
  refine li_callV (n := 3) (As := [.ref (Z.2.2 a), .int p1, .int x1]) dX12_leastOf_9 (k_X12_costOfThing (d - 1) (by omega) ha p1 x1 M2 hJ (by omega)) (by omega) (Nat.le_of_ble_eq_true rfl) w_1722 w_1724 w_68 w_112 w_1725 (by decide +kernel) rfl (by decide) sh_175 rfl rfl (Nat.le_of_ble_eq_true rfl) (fun r M5 h6 => ?_)
  obtain ⟨⟨x4, rfl, qx4⟩, h6, jM5⟩ := h6
  have gx4 := tl_rg x4
  have hf := li_fs_trans hf h6 (fun i k => fun h => Or.elim h (fun h => Or.inl h) (fun h => Or.elim h (fun h => Or.inr (Or.inl h)) (fun h => Or.elim h (fun h => Or.inr (Or.inr (Or.inl h))) (fun h => Or.elim h (fun h => Or.inr (Or.inr (Or.inr (Or.inl h)))) (fun h => Or.elim h (fun h => Or.inr (Or.inr (Or.inr (Or.inr (Or.inl h))))) (fun h => Or.elim h (fun h => Or.inr (Or.inr (Or.inr (Or.inr (Or.inr (Or.inl h)))))) (fun h => Or.inr (Or.inr (Or.inr (Or.inr (Or.inr (Or.inr h))))))))))))
  have hJ := jM5
  exact li_iret dX12_leastOf_12 rfl rfl ⟨⟨_, rfl, (by first | omega | (intro _; omega) | (refine ⟨?_, ?_⟩ <;> first | omega | (intro _; omega)) | (refine ⟨?_, ?_, ?_, ?_⟩ <;> first | omega | (intro _; omega)))⟩, hf, hJ⟩
set_option maxRecDepth 100000 in
set_option maxHeartbeats 4000000 in
theorem k_X12_person {l : Launch} {Z : li_Z} (d : Nat) (hd : 3 ≤ d) (p1 p2 : Int32) (M0 : li_M) (hJ : li_J M0) : li_Met l Z YX12_person d [.ref (Z.2.2 175), .int p1, .int p2] M0 (fun r M' => (∃ x : Int32, r = some (.int x)) ∧ li_fs (fun i k => (i = 175 ∧ k = 10)) M0 M' ∧ li_J M') := by
  refine li_enter (by decide +kernel) (Nat.le_of_ble_eq_true rfl) ?_
  show li_T l Z YX12_person d 0 [(0, .ref (Z.2.2 175)), (1, .int p1), (2, .int p2)] [] M0 _
  have hf : li_fs (fun i k => (i = 175 ∧ k = 10)) M0 M0 := li_fs_refl
  have gp1 := tl_rg p1
  have gp2 := tl_rg p2
  have rM0_1 := J_sl1 (M := M0) hJ
  refine li_aload_n 0 dX12_person_0 rfl ?_
  refine li_iconst 0 dX12_person_1 (by decide) ?_
  refine li_puti (k := 10) (N := 52) (T := TX12) (C0 := RX12) dX12_person_2 (by decide) sh_175 rfl rfl (by decide) li_in12 tyX12_ok nmX12 rfl rfl rfl rfl w_1414 ?_
  refine li_nm (fun M1 eM1 => ?_)
  have hf := li_fs_ui hf (⟨rfl, rfl⟩) eM1
  have z0 : (0 : Int32).toInt = 0 := rfl
  have hJ := hJ.put (k := 10) (by decide) (rg_free rfl) eM1
  have rM1_1 := J_sl1 (M := M1) hJ
  have mM1_1 : (M1.1 175 1).toInt = (M0.1 175 1).toInt := by rw [eM1, li_ui_at, if_pos rfl, if_neg (by decide)]
  refine li_aload_n 0 dX12_person_5 rfl ?_
  refine li_iload_n 1 dX12_person_6 rfl ?_
  refine li_callV (n := 1) (As := [.int p1]) dX12_person_7 (k_X12_isOne (d - 1) (by omega) p1 M1 hJ ) (by omega) (Nat.le_of_ble_eq_true rfl) w_1648 w_1650 w_56 w_112 w_1651 (by decide +kernel) rfl (by decide) sh_175 rfl rfl (Nat.le_of_ble_eq_true rfl) (fun r M3 h4 => ?_)
  obtain ⟨qx2, h4, jM3⟩ := h4
  have hf := li_fs_trans hf h4 (fun i k h => False.elim h)
  have hJ := jM3
  have rM3_1 := J_sl1 (M := M3) hJ
  have mM3_1 : (M3.1 175 1).toInt = (M1.1 175 1).toInt := tl_slot (h4.1 175 1 id)
  rcases qx2 with ⟨rfl, qx2⟩ | ⟨rfl, qx2⟩
  · skip
    refine li_if_eq 23 dX12_person_10 (by decide) (fun c => absurd c (by decide)) (fun c => ?_)
    refine li_iload_n 2 dX12_person_13 rfl ?_
    refine li_iconst 0 dX12_person_14 (by decide) ?_
    refine li_bipush 6 dX12_person_15 (by decide) ?_
    have z0 : (0 : Int32).toInt = 0 := rfl
    have z6 : (6 : Int32).toInt = 6 := rfl
    refine li_callS (n := 3) (As := [.int p2, .int 0, .int 6]) dX12_person_17 (k_X12_in (d - 1) (by omega) p2 0 6 M3 hJ ) (by omega) (Nat.le_of_ble_eq_true rfl) w_1570 w_1571 w_112 w_1572 (by decide +kernel) rfl rfl (Nat.le_of_ble_eq_true rfl) (fun r M7 h8 => ?_)
    obtain ⟨qx6, h8, jM7⟩ := h8
    have hf := li_fs_trans hf h8 (fun i k h => False.elim h)
    have hJ := jM7
    have rM7_1 := J_sl1 (M := M7) hJ
    have mM7_1 : (M7.1 175 1).toInt = (M3.1 175 1).toInt := tl_slot (h8.1 175 1 id)
    rcases qx6 with ⟨rfl, qx6⟩ | ⟨rfl, qx6⟩
    · skip
      refine li_if_ne 28 dX12_person_20 (by decide) (fun c => ?_) (fun c => absurd c (by decide))
      refine li_iload_n 2 dX12_person_28 rfl ?_
      refine li_table dX12_person_29 113 (by decide) (fun c10 => ?_) (fun c10a c10b => ?_)
      · refine li_aload_n 0 dX12_person_113 rfl ?_
        refine li_getr (k := 0) (N := 52) (T := TX12) (C0 := RX12) dX12_person_114 (by decide) sh_175 rfl rfl (by decide) (by decide) li_in12 w_1404 ?_
        refine li_bipush 12 dX12_person_117 (by decide) ?_
        refine li_iload_n 1 dX12_person_119 rfl ?_
        refine li_iadd dX12_person_120 ?_
        refine li_top (fun x11 ex11 => ?_)
        have z12 : (12 : Int32).toInt = 12 := rfl
        try (have tx11 : x11.toInt = (12 : Int32).toInt + (p1 : Int32).toInt := tl_add ex11 (by omega))
        refine li_iald dX12_person_121 (by decide) sh_176 (tl_in (by omega)) ?_
        refine li_top (fun x12 ex12 => ?_)
        have gx12 := tl_rg x12
        try (have ox12 : (x11 : Int32).toInt % 51 = (x11 : Int32).toInt := by omega)
        have lx12 : ((x11 : Int32).toInt % 51 = 20 → 0 ≤ x12.toInt ∧ x12.toInt ≤ 6) ∧ (21 ≤ (x11 : Int32).toInt % 51 → ((x11 : Int32).toInt % 51 - 21) % 5 < 2 → 0 ≤ x12.toInt ∧ x12.toInt ≤ 5) := hJ.ldLed (by unfold li_led; omega) ex12 (by omega)
        exact li_iret dX12_person_122 rfl rfl ⟨⟨_, rfl⟩, hf, hJ⟩
      · rcases (show (p2 : Int32).toInt = 0 ∨ (p2 : Int32).toInt = 1 ∨ (p2 : Int32).toInt = 2 ∨ (p2 : Int32).toInt = 3 ∨ (p2 : Int32).toInt = 4 ∨ (p2 : Int32).toInt = 5 by omega) with c10 | c10 | c10 | c10 | c10 | c10
        · refine ⟨39, 68, by rw [c10]; rfl, by decide, ?_⟩
          refine li_aload_n 0 dX12_person_68 rfl ?_
          refine li_getr (k := 2) (N := 52) (T := TX12) (C0 := RX12) dX12_person_69 (by decide) sh_175 rfl rfl (by decide) (by decide) li_in12 w_1406 ?_
          refine li_iload_n 1 dX12_person_72 rfl ?_
          refine li_iald dX12_person_73 (by decide) sh_177 (tl_in (by omega)) ?_
          refine li_top (fun x13 ex13 => ?_)
          have gx13 := tl_rg x13
          exact li_iret dX12_person_74 rfl rfl ⟨⟨_, rfl⟩, hf, hJ⟩
        · refine ⟨46, 75, by rw [c10]; rfl, by decide, ?_⟩
          refine li_aload_n 0 dX12_person_75 rfl ?_
          refine li_getr (k := 0) (N := 52) (T := TX12) (C0 := RX12) dX12_person_76 (by decide) sh_175 rfl rfl (by decide) (by decide) li_in12 w_1404 ?_
          refine li_iload_n 1 dX12_person_79 rfl ?_
          refine li_iald dX12_person_80 (by decide) sh_176 (tl_in (by omega)) ?_
          refine li_top (fun x14 ex14 => ?_)
          have gx14 := tl_rg x14
          try (have ox14 : (p1 : Int32).toInt % 51 = (p1 : Int32).toInt := by omega)
          have lx14 : ((p1 : Int32).toInt % 51 = 20 → 0 ≤ x14.toInt ∧ x14.toInt ≤ 6) ∧ (21 ≤ (p1 : Int32).toInt % 51 → ((p1 : Int32).toInt % 51 - 21) % 5 < 2 → 0 ≤ x14.toInt ∧ x14.toInt ≤ 5) := hJ.ldLed (by unfold li_led; omega) ex14 (by omega)
          exact li_iret dX12_person_81 rfl rfl ⟨⟨_, rfl⟩, hf, hJ⟩
        · refine ⟨53, 82, by rw [c10]; rfl, by decide, ?_⟩
          refine li_aload_n 0 dX12_person_82 rfl ?_
          refine li_getr (k := 3) (N := 52) (T := TX12) (C0 := RX12) dX12_person_83 (by decide) sh_175 rfl rfl (by decide) (by decide) li_in12 w_1407 ?_
          refine li_iload_n 1 dX12_person_86 rfl ?_
          refine li_iald dX12_person_87 (by decide) sh_178 (tl_in (by omega)) ?_
          refine li_top (fun x15 ex15 => ?_)
          have gx15 := tl_rg x15
          exact li_iret dX12_person_88 rfl rfl ⟨⟨_, rfl⟩, hf, hJ⟩
        · refine ⟨60, 89, by rw [c10]; rfl, by decide, ?_⟩
          refine li_aload_n 0 dX12_person_89 rfl ?_
          refine li_getr (k := 0) (N := 52) (T := TX12) (C0 := RX12) dX12_person_90 (by decide) sh_175 rfl rfl (by decide) (by decide) li_in12 w_1404 ?_
          refine li_bipush 6 dX12_person_93 (by decide) ?_
          refine li_iload_n 1 dX12_person_95 rfl ?_
          refine li_iadd dX12_person_96 ?_
          refine li_top (fun x16 ex16 => ?_)
          have z6 : (6 : Int32).toInt = 6 := rfl
          try (have tx16 : x16.toInt = (6 : Int32).toInt + (p1 : Int32).toInt := tl_add ex16 (by omega))
          refine li_iald dX12_person_97 (by decide) sh_176 (tl_in (by omega)) ?_
          refine li_top (fun x17 ex17 => ?_)
          have gx17 := tl_rg x17
          try (have ox17 : (x16 : Int32).toInt % 51 = (x16 : Int32).toInt := by omega)
          have lx17 : ((x16 : Int32).toInt % 51 = 20 → 0 ≤ x17.toInt ∧ x17.toInt ≤ 6) ∧ (21 ≤ (x16 : Int32).toInt % 51 → ((x16 : Int32).toInt % 51 - 21) % 5 < 2 → 0 ≤ x17.toInt ∧ x17.toInt ≤ 5) := hJ.ldLed (by unfold li_led; omega) ex17 (by omega)
          exact li_iret dX12_person_98 rfl rfl ⟨⟨_, rfl⟩, hf, hJ⟩
        · refine ⟨70, 99, by rw [c10]; rfl, by decide, ?_⟩
          refine li_aload_n 0 dX12_person_99 rfl ?_
          refine li_iload_n 1 dX12_person_100 rfl ?_
          refine li_iconst 1 dX12_person_101 (by decide) ?_
          have z1 : (1 : Int32).toInt = 1 := rfl
          refine li_callV (n := 2) (As := [.int p1, .int 1]) dX12_person_102 (k_X12_owedBy (d - 1) (by omega) p1 1 M7 hJ (by omega)) (by omega) (Nat.le_of_ble_eq_true rfl) w_1656 w_1658 w_58 w_112 w_1659 (by decide +kernel) rfl (by decide) sh_175 rfl rfl (Nat.le_of_ble_eq_true rfl) (fun r M19 h20 => ?_)
          obtain ⟨⟨x18, rfl⟩, h20, jM19⟩ := h20
          have gx18 := tl_rg x18
          have hf := li_fs_trans hf h20 (fun i k h => False.elim h)
          have hJ := jM19
          have rM19_1 := J_sl1 (M := M19) hJ
          have mM19_1 : (M19.1 175 1).toInt = (M7.1 175 1).toInt := tl_slot (h20.1 175 1 id)
          exact li_iret dX12_person_105 rfl rfl ⟨⟨_, rfl⟩, hf, hJ⟩
        · refine ⟨77, 106, by rw [c10]; rfl, by decide, ?_⟩
          refine li_aload_n 0 dX12_person_106 rfl ?_
          refine li_iload_n 1 dX12_person_107 rfl ?_
          refine li_iconst 0 dX12_person_108 (by decide) ?_
          have z0 : (0 : Int32).toInt = 0 := rfl
          refine li_callV (n := 2) (As := [.int p1, .int 0]) dX12_person_109 (k_X12_owedBy (d - 1) (by omega) p1 0 M7 hJ (by omega)) (by omega) (Nat.le_of_ble_eq_true rfl) w_1656 w_1658 w_58 w_112 w_1659 (by decide +kernel) rfl (by decide) sh_175 rfl rfl (Nat.le_of_ble_eq_true rfl) (fun r M22 h23 => ?_)
          obtain ⟨⟨x21, rfl⟩, h23, jM22⟩ := h23
          have gx21 := tl_rg x21
          have hf := li_fs_trans hf h23 (fun i k h => False.elim h)
          have hJ := jM22
          have rM22_1 := J_sl1 (M := M22) hJ
          have mM22_1 : (M22.1 175 1).toInt = (M7.1 175 1).toInt := tl_slot (h23.1 175 1 id)
          exact li_iret dX12_person_112 rfl rfl ⟨⟨_, rfl⟩, hf, hJ⟩
    · skip
      refine li_if_ne 28 dX12_person_20 (by decide) (fun c => absurd rfl c) (fun c => ?_)
      refine li_aload_n 0 dX12_person_23 rfl ?_
      refine li_callV (n := 0) (As := []) dX12_person_24 (k_X12_lost (d - 1) (by omega)  M7 hJ ) (by omega) (Nat.le_of_ble_eq_true rfl) w_1652 w_1654 w_57 w_112 w_1655 (by decide +kernel) rfl (by decide) sh_175 rfl rfl (Nat.le_of_ble_eq_true rfl) (fun r M26 h27 => ?_)
      obtain ⟨⟨x25, rfl⟩, h27, jM26⟩ := h27
      have gx25 := tl_rg x25
      have hf := li_fs_trans hf h27 (fun i k => fun h => h)
      have hJ := jM26
      have rM26_1 := J_sl1 (M := M26) hJ
      have mM26_1 : (M26.1 175 1).toInt = (M7.1 175 1).toInt := tl_slot (h27.1 175 1 (show ¬ ((175 = 175 ∧ 1 = 10)) by decide))
      exact li_iret dX12_person_27 rfl rfl ⟨⟨_, rfl⟩, hf, hJ⟩
  · skip
    refine li_if_eq 23 dX12_person_10 (by decide) (fun c => ?_) (fun c => absurd rfl c)
    refine li_aload_n 0 dX12_person_23 rfl ?_
    refine li_callV (n := 0) (As := []) dX12_person_24 (k_X12_lost (d - 1) (by omega)  M3 hJ ) (by omega) (Nat.le_of_ble_eq_true rfl) w_1652 w_1654 w_57 w_112 w_1655 (by decide +kernel) rfl (by decide) sh_175 rfl rfl (Nat.le_of_ble_eq_true rfl) (fun r M30 h31 => ?_)
    obtain ⟨⟨x29, rfl⟩, h31, jM30⟩ := h31
    have gx29 := tl_rg x29
    have hf := li_fs_trans hf h31 (fun i k => fun h => h)
    have hJ := jM30
    have rM30_1 := J_sl1 (M := M30) hJ
    have mM30_1 : (M30.1 175 1).toInt = (M3.1 175 1).toInt := tl_slot (h31.1 175 1 (show ¬ ((175 = 175 ∧ 1 = 10)) by decide))
    exact li_iret dX12_person_27 rfl rfl ⟨⟨_, rfl⟩, hf, hJ⟩
set_option maxRecDepth 100000 in
set_option maxHeartbeats 4000000 in
theorem k_X12_thing {l : Launch} {Z : li_Z} (d : Nat) (hd : 342 ≤ d) (p1 p2 : Int32) (M0 : li_M) (hJ : li_J M0) : li_Met l Z YX12_thing d [.ref (Z.2.2 175), .int p1, .int p2] M0 (fun r M' => (∃ x : Int32, r = some (.int x)) ∧ li_fs (fun i k => i = 185 ∨ i = 1000 ∨ (i = 175 ∧ k = 10) ∨ (i = 175 ∧ k = 12) ∨ (i = 175 ∧ k = 13) ∨ (i = 175 ∧ k = 14) ∨ (i = 175 ∧ k = 15) ∨ (i = 175 ∧ k = 20)) M0 M' ∧ li_J M') := by
  refine li_enter (by decide +kernel) (Nat.le_of_ble_eq_true rfl) ?_
  show li_T l Z YX12_thing d 0 [(0, .ref (Z.2.2 175)), (1, .int p1), (2, .int p2)] [] M0 _
  have hf : li_fs (fun i k => i = 185 ∨ i = 1000 ∨ (i = 175 ∧ k = 10) ∨ (i = 175 ∧ k = 12) ∨ (i = 175 ∧ k = 13) ∨ (i = 175 ∧ k = 14) ∨ (i = 175 ∧ k = 15) ∨ (i = 175 ∧ k = 20)) M0 M0 := li_fs_refl
  have gp1 := tl_rg p1
  have gp2 := tl_rg p2
  have rM0_4 := J_sl4 (M := M0) hJ
  refine li_aload_n 0 dX12_thing_0 rfl ?_
  refine li_iconst 0 dX12_thing_1 (by decide) ?_
  refine li_puti (k := 10) (N := 52) (T := TX12) (C0 := RX12) dX12_thing_2 (by decide) sh_175 rfl rfl (by decide) li_in12 tyX12_ok nmX12 rfl rfl rfl rfl w_1414 ?_
  refine li_nm (fun M1 eM1 => ?_)
  have hf := li_fs_ui hf (Or.inr (Or.inr (Or.inl ⟨rfl, rfl⟩))) eM1
  have z0 : (0 : Int32).toInt = 0 := rfl
  have hJ := hJ.put (k := 10) (by decide) (rg_free rfl) eM1
  have rM1_4 := J_sl4 (M := M1) hJ
  have mM1_4 : (M1.1 175 4).toInt = (M0.1 175 4).toInt := by rw [eM1, li_ui_at, if_pos rfl, if_neg (by decide)]
  refine li_aload_n 0 dX12_thing_5 rfl ?_
  refine li_iload_n 1 dX12_thing_6 rfl ?_
  refine li_callV (n := 1) (As := [.int p1]) dX12_thing_7 (k_X12_isThing (d - 1) (by omega) p1 M1 hJ ) (by omega) (Nat.le_of_ble_eq_true rfl) w_1664 w_1666 w_59 w_112 w_1667 (by decide +kernel) rfl (by decide) sh_175 rfl rfl (Nat.le_of_ble_eq_true rfl) (fun r M3 h4 => ?_)
  obtain ⟨qx2, h4, jM3⟩ := h4
  have hf := li_fs_trans hf h4 (fun i k h => False.elim h)
  have hJ := jM3
  have rM3_4 := J_sl4 (M := M3) hJ
  have mM3_4 : (M3.1 175 4).toInt = (M1.1 175 4).toInt := tl_slot (h4.1 175 4 id)
  rcases qx2 with ⟨rfl, qx2⟩ | ⟨rfl, qx2⟩
  · skip
    refine li_if_eq 23 dX12_thing_10 (by decide) (fun c => absurd c (by decide)) (fun c => ?_)
    refine li_iload_n 2 dX12_thing_13 rfl ?_
    refine li_iconst 0 dX12_thing_14 (by decide) ?_
    refine li_bipush 7 dX12_thing_15 (by decide) ?_
    have z0 : (0 : Int32).toInt = 0 := rfl
    have z7 : (7 : Int32).toInt = 7 := rfl
    refine li_callS (n := 3) (As := [.int p2, .int 0, .int 7]) dX12_thing_17 (k_X12_in (d - 1) (by omega) p2 0 7 M3 hJ ) (by omega) (Nat.le_of_ble_eq_true rfl) w_1570 w_1571 w_112 w_1572 (by decide +kernel) rfl rfl (Nat.le_of_ble_eq_true rfl) (fun r M7 h8 => ?_)
    obtain ⟨qx6, h8, jM7⟩ := h8
    have hf := li_fs_trans hf h8 (fun i k h => False.elim h)
    have hJ := jM7
    have rM7_4 := J_sl4 (M := M7) hJ
    have mM7_4 : (M7.1 175 4).toInt = (M3.1 175 4).toInt := tl_slot (h8.1 175 4 id)
    rcases qx6 with ⟨rfl, qx6⟩ | ⟨rfl, qx6⟩
    · skip
      refine li_if_ne 28 dX12_thing_20 (by decide) (fun c => ?_) (fun c => absurd c (by decide))
      refine li_iload_n 2 dX12_thing_28 rfl ?_
      refine li_iconst 5 dX12_thing_29 (by decide) ?_
      refine li_icmp_ge 40 dX12_thing_30 (by decide) (fun c10 => ?_) (fun c10 => ?_)
      · have tc10 : 5 ≤ p2.toInt := tl_le c10
        refine li_iload_n 2 dX12_thing_40 rfl ?_
        refine li_iconst 5 dX12_thing_41 (by decide) ?_
        refine li_icmp_ne 59 dX12_thing_42 (by decide) (fun c11 => ?_) (fun c11 => ?_)
        · have tc11 : ¬ p2.toInt = 5 := tl_ne c11
          refine li_iload_n 2 dX12_thing_59 rfl ?_
          refine li_bipush 6 dX12_thing_60 (by decide) ?_
          refine li_icmp_ne 84 dX12_thing_62 (by decide) (fun c12 => ?_) (fun c12 => ?_)
          · have tc12 : ¬ p2.toInt = 6 := tl_ne c12
            refine li_aload_n 0 dX12_thing_84 rfl ?_
            refine li_aload_n 0 dX12_thing_85 rfl ?_
            refine li_getr (k := 0) (N := 52) (T := TX12) (C0 := RX12) dX12_thing_86 (by decide) sh_175 rfl rfl (by decide) (by decide) li_in12 w_1404 ?_
            refine li_iload_n 1 dX12_thing_89 rfl ?_
            refine li_callV (n := 2) (As := [.ref (Z.2.2 176), .int p1]) dX12_thing_90 (k_X12_bestWayOf (d - 1) (by omega) la_176 p1 M7 hJ (by omega)) (by omega) (Nat.le_of_ble_eq_true rfl) w_1677 w_1679 w_62 w_112 w_1680 (by decide +kernel) rfl (by decide) sh_175 rfl rfl (Nat.le_of_ble_eq_true rfl) (fun r M14 h15 => ?_)
            obtain ⟨⟨x13, rfl⟩, h15, jM14⟩ := h15
            have gx13 := tl_rg x13
            have hf := li_fs_trans hf h15 (fun i k => fun h => Or.elim h (fun h => Or.inl h) (fun h => Or.elim h (fun h => Or.inr (Or.inl h)) (fun h => Or.elim h (fun h => Or.inr (Or.inr (Or.inr (Or.inl h)))) (fun h => Or.elim h (fun h => Or.inr (Or.inr (Or.inr (Or.inr (Or.inl h))))) (fun h => Or.elim h (fun h => Or.inr (Or.inr (Or.inr (Or.inr (Or.inr (Or.inl h)))))) (fun h => Or.elim h (fun h => Or.inr (Or.inr (Or.inr (Or.inr (Or.inr (Or.inr (Or.inl h))))))) (fun h => Or.inr (Or.inr (Or.inr (Or.inr (Or.inr (Or.inr (Or.inr h)))))))))))))
            have hJ := jM14
            have rM14_4 := J_sl4 (M := M14) hJ
            have mM14_4 : (M14.1 175 4).toInt = (M7.1 175 4).toInt := tl_slot (h15.1 175 4 (show ¬ (175 = 185 ∨ 175 = 1000 ∨ (175 = 175 ∧ 4 = 12) ∨ (175 = 175 ∧ 4 = 13) ∨ (175 = 175 ∧ 4 = 14) ∨ (175 = 175 ∧ 4 = 15) ∨ (175 = 175 ∧ 4 = 20)) by decide))
            exact li_iret dX12_thing_93 rfl rfl ⟨⟨_, rfl⟩, hf, hJ⟩
          · have tc12 : p2.toInt = 6 := tl_eq c12
            refine li_aload_n 0 dX12_thing_65 rfl ?_
            refine li_aload_n 0 dX12_thing_66 rfl ?_
            refine li_iload_n 1 dX12_thing_67 rfl ?_
            refine li_iconst 0 dX12_thing_68 (by decide) ?_
            have z0 : (0 : Int32).toInt = 0 := rfl
            refine li_callV (n := 2) (As := [.int p1, .int 0]) dX12_thing_69 (k_X12_field (d - 1) (by omega) p1 0 M7 hJ (by omega) (by omega)) (by omega) (Nat.le_of_ble_eq_true rfl) w_1668 w_1670 w_60 w_112 w_1671 (by decide +kernel) rfl (by decide) sh_175 rfl rfl (Nat.le_of_ble_eq_true rfl) (fun r M17 h18 => ?_)
            obtain ⟨⟨x16, rfl, qx16⟩, h18, jM17⟩ := h18
            have gx16 := tl_rg x16
            have hf := li_fs_trans hf h18 (fun i k h => False.elim h)
            have hJ := jM17
            have rM17_4 := J_sl4 (M := M17) hJ
            have mM17_4 : (M17.1 175 4).toInt = (M7.1 175 4).toInt := tl_slot (h18.1 175 4 id)
            refine li_aload_n 0 dX12_thing_72 rfl ?_
            refine li_iload_n 1 dX12_thing_73 rfl ?_
            refine li_iconst 1 dX12_thing_74 (by decide) ?_
            have z1 : (1 : Int32).toInt = 1 := rfl
            refine li_callV (n := 2) (As := [.int p1, .int 1]) dX12_thing_75 (k_X12_field (d - 1) (by omega) p1 1 M17 hJ (by omega) (by omega)) (by omega) (Nat.le_of_ble_eq_true rfl) w_1668 w_1670 w_60 w_112 w_1671 (by decide +kernel) rfl (by decide) sh_175 rfl rfl (Nat.le_of_ble_eq_true rfl) (fun r M20 h21 => ?_)
            obtain ⟨⟨x19, rfl, qx19⟩, h21, jM20⟩ := h21
            have gx19 := tl_rg x19
            have hf := li_fs_trans hf h21 (fun i k h => False.elim h)
            have hJ := jM20
            have rM20_4 := J_sl4 (M := M20) hJ
            have mM20_4 : (M20.1 175 4).toInt = (M17.1 175 4).toInt := tl_slot (h21.1 175 4 id)
            refine li_callV (n := 2) (As := [.int x16, .int x19]) dX12_thing_78 (k_X12_apart (d - 1) (by omega) x16 x19 M20 hJ (by omega) (by omega)) (by omega) (Nat.le_of_ble_eq_true rfl) w_1672 w_1674 w_61 w_112 w_1675 (by decide +kernel) rfl (by decide) sh_175 rfl rfl (Nat.le_of_ble_eq_true rfl) (fun r M23 h24 => ?_)
            obtain ⟨⟨x22, rfl⟩, h24, jM23⟩ := h24
            have gx22 := tl_rg x22
            have hf := li_fs_trans hf h24 (fun i k h => False.elim h)
            have hJ := jM23
            have rM23_4 := J_sl4 (M := M23) hJ
            have mM23_4 : (M23.1 175 4).toInt = (M20.1 175 4).toInt := tl_slot (h24.1 175 4 id)
            refine li_goto 93 dX12_thing_81 (by decide) ?_
            exact li_iret dX12_thing_93 rfl rfl ⟨⟨_, rfl⟩, hf, hJ⟩
        · have tc11 : p2.toInt = 5 := tl_eq c11
          refine li_aload_n 0 dX12_thing_45 rfl ?_
          refine li_getr (k := 0) (N := 52) (T := TX12) (C0 := RX12) dX12_thing_46 (by decide) sh_175 rfl rfl (by decide) (by decide) li_in12 w_1404 ?_
          refine li_bipush 18 dX12_thing_49 (by decide) ?_
          have z18 : (18 : Int32).toInt = 18 := rfl
          refine li_iald dX12_thing_51 (by decide) sh_176 (tl_in (by omega)) ?_
          refine li_top (fun x25 ex25 => ?_)
          have gx25 := tl_rg x25
          have lx25 : ((18 : Int32).toInt % 51 = 20 → 0 ≤ x25.toInt ∧ x25.toInt ≤ 6) ∧ (21 ≤ (18 : Int32).toInt % 51 → ((18 : Int32).toInt % 51 - 21) % 5 < 2 → 0 ≤ x25.toInt ∧ x25.toInt ≤ 5) := hJ.ldLed (by unfold li_led; omega) ex25 (by omega)
          refine li_iload_n 1 dX12_thing_52 rfl ?_
          refine li_ishr dX12_thing_53 ?_
          refine li_top (fun x26 ex26 => ?_)
          refine li_iconst 1 dX12_thing_54 (by decide) ?_
          refine li_iand dX12_thing_55 ?_
          refine li_top (fun x27 ex27 => ?_)
          have z1 : (1 : Int32).toInt = 1 := rfl
          have tx27 := tl_and1 ex27
          refine li_goto 93 dX12_thing_56 (by decide) ?_
          exact li_iret dX12_thing_93 rfl rfl ⟨⟨_, rfl⟩, hf, hJ⟩
      · have tc10 : p2.toInt < 5 := tl_nle c10
        refine li_aload_n 0 dX12_thing_33 rfl ?_
        refine li_iload_n 1 dX12_thing_34 rfl ?_
        refine li_iload_n 2 dX12_thing_35 rfl ?_
        refine li_callV (n := 2) (As := [.int p1, .int p2]) dX12_thing_36 (k_X12_field (d - 1) (by omega) p1 p2 M7 hJ (by omega) (by omega)) (by omega) (Nat.le_of_ble_eq_true rfl) w_1668 w_1670 w_60 w_112 w_1671 (by decide +kernel) rfl (by decide) sh_175 rfl rfl (Nat.le_of_ble_eq_true rfl) (fun r M29 h30 => ?_)
        obtain ⟨⟨x28, rfl, qx28⟩, h30, jM29⟩ := h30
        have gx28 := tl_rg x28
        have hf := li_fs_trans hf h30 (fun i k h => False.elim h)
        have hJ := jM29
        have rM29_4 := J_sl4 (M := M29) hJ
        have mM29_4 : (M29.1 175 4).toInt = (M7.1 175 4).toInt := tl_slot (h30.1 175 4 id)
        exact li_iret dX12_thing_39 rfl rfl ⟨⟨_, rfl⟩, hf, hJ⟩
    · skip
      refine li_if_ne 28 dX12_thing_20 (by decide) (fun c => absurd rfl c) (fun c => ?_)
      refine li_aload_n 0 dX12_thing_23 rfl ?_
      refine li_callV (n := 0) (As := []) dX12_thing_24 (k_X12_lost (d - 1) (by omega)  M7 hJ ) (by omega) (Nat.le_of_ble_eq_true rfl) w_1652 w_1654 w_57 w_112 w_1655 (by decide +kernel) rfl (by decide) sh_175 rfl rfl (Nat.le_of_ble_eq_true rfl) (fun r M33 h34 => ?_)
      obtain ⟨⟨x32, rfl⟩, h34, jM33⟩ := h34
      have gx32 := tl_rg x32
      have hf := li_fs_trans hf h34 (fun i k => fun h => Or.inr (Or.inr (Or.inl h)))
      have hJ := jM33
      have rM33_4 := J_sl4 (M := M33) hJ
      have mM33_4 : (M33.1 175 4).toInt = (M7.1 175 4).toInt := tl_slot (h34.1 175 4 (show ¬ ((175 = 175 ∧ 4 = 10)) by decide))
      exact li_iret dX12_thing_27 rfl rfl ⟨⟨_, rfl⟩, hf, hJ⟩
  · skip
    refine li_if_eq 23 dX12_thing_10 (by decide) (fun c => ?_) (fun c => absurd rfl c)
    refine li_aload_n 0 dX12_thing_23 rfl ?_
    refine li_callV (n := 0) (As := []) dX12_thing_24 (k_X12_lost (d - 1) (by omega)  M3 hJ ) (by omega) (Nat.le_of_ble_eq_true rfl) w_1652 w_1654 w_57 w_112 w_1655 (by decide +kernel) rfl (by decide) sh_175 rfl rfl (Nat.le_of_ble_eq_true rfl) (fun r M37 h38 => ?_)
    obtain ⟨⟨x36, rfl⟩, h38, jM37⟩ := h38
    have gx36 := tl_rg x36
    have hf := li_fs_trans hf h38 (fun i k => fun h => Or.inr (Or.inr (Or.inl h)))
    have hJ := jM37
    have rM37_4 := J_sl4 (M := M37) hJ
    have mM37_4 : (M37.1 175 4).toInt = (M3.1 175 4).toInt := tl_slot (h38.1 175 4 (show ¬ ((175 = 175 ∧ 4 = 10)) by decide))
    exact li_iret dX12_thing_27 rfl rfl ⟨⟨_, rfl⟩, hf, hJ⟩
set_option maxRecDepth 100000 in
set_option maxHeartbeats 4000000 in
theorem k_X12_loan {l : Launch} {Z : li_Z} (d : Nat) (hd : 2 ≤ d) (p1 p2 : Int32) (M0 : li_M) (hJ : li_J M0) : li_Met l Z YX12_loan d [.ref (Z.2.2 175), .int p1, .int p2] M0 (fun r M' => (∃ x : Int32, r = some (.int x)) ∧ li_fs (fun i k => (i = 175 ∧ k = 10)) M0 M' ∧ li_J M') := by
  refine li_enter (by decide +kernel) (Nat.le_of_ble_eq_true rfl) ?_
  show li_T l Z YX12_loan d 0 [(0, .ref (Z.2.2 175)), (1, .int p1), (2, .int p2)] [] M0 _
  have hf : li_fs (fun i k => (i = 175 ∧ k = 10)) M0 M0 := li_fs_refl
  have gp1 := tl_rg p1
  have gp2 := tl_rg p2
  refine li_aload_n 0 dX12_loan_0 rfl ?_
  refine li_iconst 0 dX12_loan_1 (by decide) ?_
  refine li_puti (k := 10) (N := 52) (T := TX12) (C0 := RX12) dX12_loan_2 (by decide) sh_175 rfl rfl (by decide) li_in12 tyX12_ok nmX12 rfl rfl rfl rfl w_1414 ?_
  refine li_nm (fun M1 eM1 => ?_)
  have hf := li_fs_ui hf (⟨rfl, rfl⟩) eM1
  have z0 : (0 : Int32).toInt = 0 := rfl
  have hJ := hJ.put (k := 10) (by decide) (rg_free rfl) eM1
  refine li_iload_n 1 dX12_loan_5 rfl ?_
  refine li_iconst 0 dX12_loan_6 (by decide) ?_
  refine li_aload_n 0 dX12_loan_7 rfl ?_
  refine li_getr (k := 0) (N := 52) (T := TX12) (C0 := RX12) dX12_loan_8 (by decide) sh_175 rfl rfl (by decide) (by decide) li_in12 w_1404 ?_
  refine li_bipush 20 dX12_loan_11 (by decide) ?_
  have z20 : (20 : Int32).toInt = 20 := rfl
  refine li_iald dX12_loan_13 (by decide) sh_176 (tl_in (by omega)) ?_
  refine li_top (fun x2 ex2 => ?_)
  have gx2 := tl_rg x2
  have lx2 : ((20 : Int32).toInt % 51 = 20 → 0 ≤ x2.toInt ∧ x2.toInt ≤ 6) ∧ (21 ≤ (20 : Int32).toInt % 51 → ((20 : Int32).toInt % 51 - 21) % 5 < 2 → 0 ≤ x2.toInt ∧ x2.toInt ≤ 5) := hJ.ldLed (by unfold li_led; omega) ex2 (by omega)
  refine li_iconst 1 dX12_loan_14 (by decide) ?_
  refine li_isub dX12_loan_15 ?_
  refine li_top (fun x3 ex3 => ?_)
  have z1 : (1 : Int32).toInt = 1 := rfl
  try (have tx3 : x3.toInt = (x2 : Int32).toInt - (1 : Int32).toInt := tl_sub ex3 (by omega))
  have z0 : (0 : Int32).toInt = 0 := rfl
  refine li_callS (n := 3) (As := [.int p1, .int 0, .int x3]) dX12_loan_16 (k_X12_in (d - 1) (by omega) p1 0 x3 M1 hJ ) (by omega) (Nat.le_of_ble_eq_true rfl) w_1570 w_1571 w_112 w_1572 (by decide +kernel) rfl rfl (Nat.le_of_ble_eq_true rfl) (fun r M5 h6 => ?_)
  obtain ⟨qx4, h6, jM5⟩ := h6
  have hf := li_fs_trans hf h6 (fun i k h => False.elim h)
  have hJ := jM5
  rcases qx4 with ⟨rfl, qx4⟩ | ⟨rfl, qx4⟩
  · skip
    refine li_if_eq 31 dX12_loan_19 (by decide) (fun c => absurd c (by decide)) (fun c => ?_)
    refine li_iload_n 2 dX12_loan_22 rfl ?_
    refine li_iconst 0 dX12_loan_23 (by decide) ?_
    refine li_iconst 4 dX12_loan_24 (by decide) ?_
    have z0 : (0 : Int32).toInt = 0 := rfl
    have z4 : (4 : Int32).toInt = 4 := rfl
    refine li_callS (n := 3) (As := [.int p2, .int 0, .int 4]) dX12_loan_25 (k_X12_in (d - 1) (by omega) p2 0 4 M5 hJ ) (by omega) (Nat.le_of_ble_eq_true rfl) w_1570 w_1571 w_112 w_1572 (by decide +kernel) rfl rfl (Nat.le_of_ble_eq_true rfl) (fun r M9 h10 => ?_)
    obtain ⟨qx8, h10, jM9⟩ := h10
    have hf := li_fs_trans hf h10 (fun i k h => False.elim h)
    have hJ := jM9
    rcases qx8 with ⟨rfl, qx8⟩ | ⟨rfl, qx8⟩
    · skip
      refine li_if_ne 36 dX12_loan_28 (by decide) (fun c => ?_) (fun c => absurd c (by decide))
      refine li_aload_n 0 dX12_loan_36 rfl ?_
      refine li_getr (k := 0) (N := 52) (T := TX12) (C0 := RX12) dX12_loan_37 (by decide) sh_175 rfl rfl (by decide) (by decide) li_in12 w_1404 ?_
      refine li_bipush 21 dX12_loan_40 (by decide) ?_
      refine li_iconst 5 dX12_loan_42 (by decide) ?_
      refine li_iload_n 1 dX12_loan_43 rfl ?_
      refine li_imul dX12_loan_44 ?_
      refine li_top (fun x12 ex12 => ?_)
      have z5 : (5 : Int32).toInt = 5 := rfl
      try (have tx12 : x12.toInt = 5 * (p1 : Int32).toInt := tl_mul ex12 (show -2147483648 ≤ 5 * (p1 : Int32).toInt ∧ 5 * (p1 : Int32).toInt ≤ 2147483647 by omega))
      refine li_iadd dX12_loan_45 ?_
      refine li_top (fun x13 ex13 => ?_)
      have z21 : (21 : Int32).toInt = 21 := rfl
      try (have tx13 : x13.toInt = (21 : Int32).toInt + (x12 : Int32).toInt := tl_add ex13 (by omega))
      refine li_iload_n 2 dX12_loan_46 rfl ?_
      refine li_iadd dX12_loan_47 ?_
      refine li_top (fun x14 ex14 => ?_)
      try (have tx14 : x14.toInt = (x13 : Int32).toInt + (p2 : Int32).toInt := tl_add ex14 (by omega))
      refine li_iald dX12_loan_48 (by decide) sh_176 (tl_in (by omega)) ?_
      refine li_top (fun x15 ex15 => ?_)
      have gx15 := tl_rg x15
      try (have ox15 : (x14 : Int32).toInt % 51 = (x14 : Int32).toInt := by omega)
      have lx15 : ((x14 : Int32).toInt % 51 = 20 → 0 ≤ x15.toInt ∧ x15.toInt ≤ 6) ∧ (21 ≤ (x14 : Int32).toInt % 51 → ((x14 : Int32).toInt % 51 - 21) % 5 < 2 → 0 ≤ x15.toInt ∧ x15.toInt ≤ 5) := hJ.ldLed (by unfold li_led; omega) ex15 (by omega)
      exact li_iret dX12_loan_49 rfl rfl ⟨⟨_, rfl⟩, hf, hJ⟩
    · skip
      refine li_if_ne 36 dX12_loan_28 (by decide) (fun c => absurd rfl c) (fun c => ?_)
      refine li_aload_n 0 dX12_loan_31 rfl ?_
      refine li_callV (n := 0) (As := []) dX12_loan_32 (k_X12_lost (d - 1) (by omega)  M9 hJ ) (by omega) (Nat.le_of_ble_eq_true rfl) w_1652 w_1654 w_57 w_112 w_1655 (by decide +kernel) rfl (by decide) sh_175 rfl rfl (Nat.le_of_ble_eq_true rfl) (fun r M18 h19 => ?_)
      obtain ⟨⟨x17, rfl⟩, h19, jM18⟩ := h19
      have gx17 := tl_rg x17
      have hf := li_fs_trans hf h19 (fun i k => fun h => h)
      have hJ := jM18
      exact li_iret dX12_loan_35 rfl rfl ⟨⟨_, rfl⟩, hf, hJ⟩
  · skip
    refine li_if_eq 31 dX12_loan_19 (by decide) (fun c => ?_) (fun c => absurd rfl c)
    refine li_aload_n 0 dX12_loan_31 rfl ?_
    refine li_callV (n := 0) (As := []) dX12_loan_32 (k_X12_lost (d - 1) (by omega)  M5 hJ ) (by omega) (Nat.le_of_ble_eq_true rfl) w_1652 w_1654 w_57 w_112 w_1655 (by decide +kernel) rfl (by decide) sh_175 rfl rfl (Nat.le_of_ble_eq_true rfl) (fun r M22 h23 => ?_)
    obtain ⟨⟨x21, rfl⟩, h23, jM22⟩ := h23
    have gx21 := tl_rg x21
    have hf := li_fs_trans hf h23 (fun i k => fun h => h)
    have hJ := jM22
    exact li_iret dX12_loan_35 rfl rfl ⟨⟨_, rfl⟩, hf, hJ⟩
