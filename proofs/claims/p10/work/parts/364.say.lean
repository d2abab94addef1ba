theorem w_69 : (Jvm.Cond.selects "ClockForTalkModel" ({ cls := "ClockForTalkModel", name := "refusesSay", desc := "([III)I" } : Jvm.MethodName) ({ cls := "ClockForTalkModel", name := "refusesSay", desc := "([III)I" } : Jvm.MethodName)) ∈ li_ws := li_mem 69 (by decide +kernel) (by decide +kernel)
theorem w_71 : (Jvm.Cond.selects "ClockForTalkModel" ({ cls := "ClockForTalkModel", name := "remember", desc := "([I)V" } : Jvm.MethodName) ({ cls := "ClockForTalkModel", name := "remember", desc := "([I)V" } : Jvm.MethodName)) ∈ li_ws := li_mem 71 (by decide +kernel) (by decide +kernel)
theorem w_72 : (Jvm.Cond.selects "ClockForTalkModel" ({ cls := "ClockForTalkModel", name := "goSay", desc := "([III)I" } : Jvm.MethodName) ({ cls := "ClockForTalkModel", name := "goSay", desc := "([III)I" } : Jvm.MethodName)) ∈ li_ws := li_mem 72 (by decide +kernel) (by decide +kernel)
theorem w_73 : (Jvm.Cond.selects "ClockForTalkModel" ({ cls := "ClockForTalkModel", name := "refusesGive", desc := "(III)I" } : Jvm.MethodName) ({ cls := "ClockForTalkModel", name := "refusesGive", desc := "(III)I" } : Jvm.MethodName)) ∈ li_ws := li_mem 73 (by decide +kernel) (by decide +kernel)
theorem w_74 : (Jvm.Cond.selects "ClockForTalkModel" ({ cls := "ClockForTalkModel", name := "areTwo", desc := "(II)Z" } : Jvm.MethodName) ({ cls := "ClockForTalkModel", name := "areTwo", desc := "(II)Z" } : Jvm.MethodName)) ∈ li_ws := li_mem 74 (by decide +kernel) (by decide +kernel)
theorem w_1730 : (Jvm.Cond.methodLink "ClockForTalkModel" (275 : Nat) ({ cls := "ClockForTalkModel", name := "refusesSay", desc := "([III)I" } : Jvm.MethodName)) ∈ li_ws := li_mem 1730 (by decide +kernel) (by decide +kernel)
theorem w_1732 : (Jvm.Cond.instanceMethod ({ cls := "ClockForTalkModel", name := "refusesSay", desc := "([III)I" } : Jvm.MethodName)) ∈ li_ws := li_mem 1732 (by decide +kernel) (by decide +kernel)
theorem w_1733 : (Jvm.Cond.code ({ cls := "ClockForTalkModel", name := "refusesSay", desc := "([III)I" } : Jvm.MethodName) prog_13_method_52_code (4 : Nat) (Option.some Jvm.ClassFile.FieldType.int)) ∈ li_ws := li_mem 1733 (by decide +kernel) (by decide +kernel)
theorem w_1741 : (Jvm.Cond.methodLink "ClockForTalkModel" (278 : Nat) ({ cls := "ClockForTalkModel", name := "remember", desc := "([I)V" } : Jvm.MethodName)) ∈ li_ws := li_mem 1741 (by decide +kernel) (by decide +kernel)
theorem w_1743 : (Jvm.Cond.instanceMethod ({ cls := "ClockForTalkModel", name := "remember", desc := "([I)V" } : Jvm.MethodName)) ∈ li_ws := li_mem 1743 (by decide +kernel) (by decide +kernel)
theorem w_1744 : (Jvm.Cond.code ({ cls := "ClockForTalkModel", name := "remember", desc := "([I)V" } : Jvm.MethodName) prog_13_method_50_code (3 : Nat) (Option.none : Option Jvm.ClassFile.FieldType)) ∈ li_ws := li_mem 1744 (by decide +kernel) (by decide +kernel)
theorem w_1748 : (Jvm.Cond.methodLink "ClockForTalkModel" (282 : Nat) ({ cls := "ClockForTalkModel", name := "goSay", desc := "([III)I" } : Jvm.MethodName)) ∈ li_ws := li_mem 1748 (by decide +kernel) (by decide +kernel)
theorem w_1750 : (Jvm.Cond.instanceMethod ({ cls := "ClockForTalkModel", name := "goSay", desc := "([III)I" } : Jvm.MethodName)) ∈ li_ws := li_mem 1750 (by decide +kernel) (by decide +kernel)
theorem w_1751 : (Jvm.Cond.code ({ cls := "ClockForTalkModel", name := "goSay", desc := "([III)I" } : Jvm.MethodName) prog_13_method_53_code (5 : Nat) (Option.some Jvm.ClassFile.FieldType.int)) ∈ li_ws := li_mem 1751 (by decide +kernel) (by decide +kernel)
theorem w_1756 : (Jvm.Cond.methodLink "ClockForTalkModel" (288 : Nat) ({ cls := "ClockForTalkModel", name := "refusesGive", desc := "(III)I" } : Jvm.MethodName)) ∈ li_ws := li_mem 1756 (by decide +kernel) (by decide +kernel)
theorem w_1758 : (Jvm.Cond.instanceMethod ({ cls := "ClockForTalkModel", name := "refusesGive", desc := "(III)I" } : Jvm.MethodName)) ∈ li_ws := li_mem 1758 (by decide +kernel) (by decide +kernel)
theorem w_1759 : (Jvm.Cond.code ({ cls := "ClockForTalkModel", name := "refusesGive", desc := "(III)I" } : Jvm.MethodName) prog_13_method_55_code (4 : Nat) (Option.some Jvm.ClassFile.FieldType.int)) ∈ li_ws := li_mem 1759 (by decide +kernel) (by decide +kernel)
theorem w_1760 : (Jvm.Cond.methodLink "ClockForTalkModel" (285 : Nat) ({ cls := "ClockForTalkModel", name := "areTwo", desc := "(II)Z" } : Jvm.MethodName)) ∈ li_ws := li_mem 1760 (by decide +kernel) (by decide +kernel)
theorem w_1762 : (Jvm.Cond.instanceMethod ({ cls := "ClockForTalkModel", name := "areTwo", desc := "(II)Z" } : Jvm.MethodName)) ∈ li_ws := li_mem 1762 (by decide +kernel) (by decide +kernel)
theorem w_1763 : (Jvm.Cond.code ({ cls := "ClockForTalkModel", name := "areTwo", desc := "(II)Z" } : Jvm.MethodName) prog_13_method_8_code (3 : Nat) (Option.some Jvm.ClassFile.FieldType.boolean)) ∈ li_ws := li_mem 1763 (by decide +kernel) (by decide +kernel)
theorem w_1764 : (Jvm.Cond.methodLink "ClockForTalkModel" (292 : Nat) ({ cls := "ClockForTalkModel", name := "goGive", desc := "([IIII)I" } : Jvm.MethodName)) ∈ li_ws := li_mem 1764 (by decide +kernel) (by decide +kernel)
theorem w_1765 : (Jvm.Cond.static ({ cls := "ClockForTalkModel", name := "goGive", desc := "([IIII)I" } : Jvm.MethodName)) ∈ li_ws := li_mem 1765 (by decide +kernel) (by decide +kernel)
theorem w_1766 : (Jvm.Cond.code ({ cls := "ClockForTalkModel", name := "goGive", desc := "([IIII)I" } : Jvm.MethodName) prog_13_method_56_code (4 : Nat) (Option.some Jvm.ClassFile.FieldType.int)) ∈ li_ws := li_mem 1766 (by decide +kernel) (by decide +kernel)
theorem dX12_refusesSay_0 : decode cX12_refusesSay 0 = .ok (.aload_n 0, 1) := by decide +kernel
theorem dX12_refusesSay_1 : decode cX12_refusesSay 1 = .ok (.iload_n 2, 1) := by decide +kernel
theorem dX12_refusesSay_2 : decode cX12_refusesSay 2 = .ok (.invokevirtual 265, 3) := by decide +kernel
theorem dX12_refusesSay_5 : decode cX12_refusesSay 5 = .ok (.ifCond .eq 12, 3) := by decide +kernel
theorem dX12_refusesSay_8 : decode cX12_refusesSay 8 = .ok (.iload_n 3, 1) := by decide +kernel
theorem dX12_refusesSay_9 : decode cX12_refusesSay 9 = .ok (.iconst 0, 1) := by decide +kernel
theorem dX12_refusesSay_10 : decode cX12_refusesSay 10 = .ok (.iconst 3, 1) := by decide +kernel
theorem dX12_refusesSay_11 : decode cX12_refusesSay 11 = .ok (.invokestatic 113, 3) := by decide +kernel
theorem dX12_refusesSay_14 : decode cX12_refusesSay 14 = .ok (.ifCond .ne 5, 3) := by decide +kernel
theorem dX12_refusesSay_17 : decode cX12_refusesSay 17 = .ok (.iconst (-1), 1) := by decide +kernel
theorem dX12_refusesSay_18 : decode cX12_refusesSay 18 = .ok (.ireturn, 1) := by decide +kernel
theorem dX12_refusesSay_19 : decode cX12_refusesSay 19 = .ok (.aload_n 1, 1) := by decide +kernel
theorem dX12_refusesSay_20 : decode cX12_refusesSay 20 = .ok (.bipush 18, 2) := by decide +kernel
theorem dX12_refusesSay_22 : decode cX12_refusesSay 22 = .ok (.iaload, 1) := by decide +kernel
theorem dX12_refusesSay_23 : decode cX12_refusesSay 23 = .ok (.iload_n 2, 1) := by decide +kernel
theorem dX12_refusesSay_24 : decode cX12_refusesSay 24 = .ok (.invokestatic 251, 3) := by decide +kernel
theorem dX12_refusesSay_27 : decode cX12_refusesSay 27 = .ok (.ifCond .eq 6, 3) := by decide +kernel
theorem dX12_refusesSay_30 : decode cX12_refusesSay 30 = .ok (.bipush (-2), 2) := by decide +kernel
theorem dX12_refusesSay_32 : decode cX12_refusesSay 32 = .ok (.ireturn, 1) := by decide +kernel
theorem dX12_refusesSay_33 : decode cX12_refusesSay 33 = .ok (.aload_n 0, 1) := by decide +kernel
theorem dX12_refusesSay_34 : decode cX12_refusesSay 34 = .ok (.aload_n 1, 1) := by decide +kernel
theorem dX12_refusesSay_35 : decode cX12_refusesSay 35 = .ok (.iload_n 2, 1) := by decide +kernel
theorem dX12_refusesSay_36 : decode cX12_refusesSay 36 = .ok (.invokevirtual 255, 3) := by decide +kernel
theorem dX12_refusesSay_39 : decode cX12_refusesSay 39 = .ok (.ifCond .eq 6, 3) := by decide +kernel
theorem dX12_refusesSay_42 : decode cX12_refusesSay 42 = .ok (.bipush (-3), 2) := by decide +kernel
theorem dX12_refusesSay_44 : decode cX12_refusesSay 44 = .ok (.ireturn, 1) := by decide +kernel
theorem dX12_refusesSay_45 : decode cX12_refusesSay 45 = .ok (.aload_n 0, 1) := by decide +kernel
theorem dX12_refusesSay_46 : decode cX12_refusesSay 46 = .ok (.iload_n 2, 1) := by decide +kernel
theorem dX12_refusesSay_47 : decode cX12_refusesSay 47 = .ok (.iload_n 3, 1) := by decide +kernel
theorem dX12_refusesSay_48 : decode cX12_refusesSay 48 = .ok (.invokevirtual 272, 3) := by decide +kernel
theorem dX12_refusesSay_51 : decode cX12_refusesSay 51 = .ok (.ifCond .ne 6, 3) := by decide +kernel
theorem dX12_refusesSay_54 : decode cX12_refusesSay 54 = .ok (.bipush (-4), 2) := by decide +kernel
theorem dX12_refusesSay_56 : decode cX12_refusesSay 56 = .ok (.ireturn, 1) := by decide +kernel
theorem dX12_refusesSay_57 : decode cX12_refusesSay 57 = .ok (.aload_n 1, 1) := by decide +kernel
theorem dX12_refusesSay_58 : decode cX12_refusesSay 58 = .ok (.aload_n 0, 1) := by decide +kernel
theorem dX12_refusesSay_59 : decode cX12_refusesSay 59 = .ok (.iload_n 2, 1) := by decide +kernel
theorem dX12_refusesSay_60 : decode cX12_refusesSay 60 = .ok (.iconst 0, 1) := by decide +kernel
theorem dX12_refusesSay_61 : decode cX12_refusesSay 61 = .ok (.invokevirtual 220, 3) := by decide +kernel
theorem dX12_refusesSay_64 : decode cX12_refusesSay 64 = .ok (.iaload, 1) := by decide +kernel
theorem dX12_refusesSay_65 : decode cX12_refusesSay 65 = .ok (.aload_n 0, 1) := by decide +kernel
theorem dX12_refusesSay_66 : decode cX12_refusesSay 66 = .ok (.aload_n 1, 1) := by decide +kernel
theorem dX12_refusesSay_67 : decode cX12_refusesSay 67 = .ok (.iload_n 2, 1) := by decide +kernel
theorem dX12_refusesSay_68 : decode cX12_refusesSay 68 = .ok (.iload_n 3, 1) := by decide +kernel
theorem dX12_refusesSay_69 : decode cX12_refusesSay 69 = .ok (.invokevirtual 247, 3) := by decide +kernel
theorem dX12_refusesSay_72 : decode cX12_refusesSay 72 = .ok (.if_icmp .ge 8, 3) := by decide +kernel
theorem dX12_refusesSay_75 : decode cX12_refusesSay 75 = .ok (.bipush (-5), 2) := by decide +kernel
theorem dX12_refusesSay_77 : decode cX12_refusesSay 77 = .ok (.goto 4, 3) := by decide +kernel
theorem dX12_refusesSay_80 : decode cX12_refusesSay 80 = .ok (.iconst 0, 1) := by decide +kernel
theorem dX12_refusesSay_81 : decode cX12_refusesSay 81 = .ok (.ireturn, 1) := by decide +kernel
abbrev YX12_refusesSay : li_Y := (yX12_refusesSay, cX12_refusesSay, 4, (some .int))
theorem dX12_goSay_0 : decode cX12_goSay 0 = .ok (.aload_n 0, 1) := by decide +kernel
theorem dX12_goSay_1 : decode cX12_goSay 1 = .ok (.aload_n 1, 1) := by decide +kernel
theorem dX12_goSay_2 : decode cX12_goSay 2 = .ok (.iload_n 2, 1) := by decide +kernel
theorem dX12_goSay_3 : decode cX12_goSay 3 = .ok (.iload_n 3, 1) := by decide +kernel
theorem dX12_goSay_4 : decode cX12_goSay 4 = .ok (.invokevirtual 247, 3) := by decide +kernel
theorem dX12_goSay_7 : decode cX12_goSay 7 = .ok (.istore 4, 2) := by decide +kernel
theorem dX12_goSay_9 : decode cX12_goSay 9 = .ok (.aload_n 1, 1) := by decide +kernel
theorem dX12_goSay_10 : decode cX12_goSay 10 = .ok (.aload_n 0, 1) := by decide +kernel
theorem dX12_goSay_11 : decode cX12_goSay 11 = .ok (.iload_n 2, 1) := by decide +kernel
theorem dX12_goSay_12 : decode cX12_goSay 12 = .ok (.iconst 0, 1) := by decide +kernel
theorem dX12_goSay_13 : decode cX12_goSay 13 = .ok (.invokevirtual 220, 3) := by decide +kernel
theorem dX12_goSay_16 : decode cX12_goSay 16 = .ok (.dup2, 1) := by decide +kernel
theorem dX12_goSay_17 : decode cX12_goSay 17 = .ok (.iaload, 1) := by decide +kernel
theorem dX12_goSay_18 : decode cX12_goSay 18 = .ok (.iload 4, 2) := by decide +kernel
theorem dX12_goSay_20 : decode cX12_goSay 20 = .ok (.isub, 1) := by decide +kernel
theorem dX12_goSay_21 : decode cX12_goSay 21 = .ok (.iastore, 1) := by decide +kernel
theorem dX12_goSay_22 : decode cX12_goSay 22 = .ok (.aload_n 1, 1) := by decide +kernel
theorem dX12_goSay_23 : decode cX12_goSay 23 = .ok (.bipush 6, 2) := by decide +kernel
theorem dX12_goSay_25 : decode cX12_goSay 25 = .ok (.aload_n 0, 1) := by decide +kernel
theorem dX12_goSay_26 : decode cX12_goSay 26 = .ok (.iload_n 2, 1) := by decide +kernel
theorem dX12_goSay_27 : decode cX12_goSay 27 = .ok (.iconst 0, 1) := by decide +kernel
theorem dX12_goSay_28 : decode cX12_goSay 28 = .ok (.invokevirtual 220, 3) := by decide +kernel
theorem dX12_goSay_31 : decode cX12_goSay 31 = .ok (.iadd, 1) := by decide +kernel
theorem dX12_goSay_32 : decode cX12_goSay 32 = .ok (.dup2, 1) := by decide +kernel
theorem dX12_goSay_33 : decode cX12_goSay 33 = .ok (.iaload, 1) := by decide +kernel
theorem dX12_goSay_34 : decode cX12_goSay 34 = .ok (.iload 4, 2) := by decide +kernel
theorem dX12_goSay_36 : decode cX12_goSay 36 = .ok (.iadd, 1) := by decide +kernel
theorem dX12_goSay_37 : decode cX12_goSay 37 = .ok (.iastore, 1) := by decide +kernel
theorem dX12_goSay_38 : decode cX12_goSay 38 = .ok (.aload_n 1, 1) := by decide +kernel
theorem dX12_goSay_39 : decode cX12_goSay 39 = .ok (.bipush 18, 2) := by decide +kernel
theorem dX12_goSay_41 : decode cX12_goSay 41 = .ok (.dup2, 1) := by decide +kernel
theorem dX12_goSay_42 : decode cX12_goSay 42 = .ok (.iaload, 1) := by decide +kernel
theorem dX12_goSay_43 : decode cX12_goSay 43 = .ok (.iconst 1, 1) := by decide +kernel
theorem dX12_goSay_44 : decode cX12_goSay 44 = .ok (.iload_n 2, 1) := by decide +kernel
theorem dX12_goSay_45 : decode cX12_goSay 45 = .ok (.ishl, 1) := by decide +kernel
theorem dX12_goSay_46 : decode cX12_goSay 46 = .ok (.ior, 1) := by decide +kernel
theorem dX12_goSay_47 : decode cX12_goSay 47 = .ok (.iastore, 1) := by decide +kernel
theorem dX12_goSay_48 : decode cX12_goSay 48 = .ok (.iload 4, 2) := by decide +kernel
theorem dX12_goSay_50 : decode cX12_goSay 50 = .ok (.ireturn, 1) := by decide +kernel
abbrev YX12_goSay : li_Y := (yX12_goSay, cX12_goSay, 5, (some .int))
theorem dX12_say_0 : decode cX12_say 0 = .ok (.aload_n 0, 1) := by decide +kernel
theorem dX12_say_1 : decode cX12_say 1 = .ok (.iconst 0, 1) := by decide +kernel
theorem dX12_say_2 : decode cX12_say 2 = .ok (.putfield 103, 3) := by decide +kernel
theorem dX12_say_5 : decode cX12_say 5 = .ok (.aload_n 0, 1) := by decide +kernel
theorem dX12_say_6 : decode cX12_say 6 = .ok (.aload_n 0, 1) := by decide +kernel
theorem dX12_say_7 : decode cX12_say 7 = .ok (.getfield 9, 3) := by decide +kernel
theorem dX12_say_10 : decode cX12_say 10 = .ok (.iload_n 1, 1) := by decide +kernel
theorem dX12_say_11 : decode cX12_say 11 = .ok (.iload_n 2, 1) := by decide +kernel
theorem dX12_say_12 : decode cX12_say 12 = .ok (.invokevirtual 275, 3) := by decide +kernel
theorem dX12_say_15 : decode cX12_say 15 = .ok (.istore_n 3, 1) := by decide +kernel
theorem dX12_say_16 : decode cX12_say 16 = .ok (.iload_n 3, 1) := by decide +kernel
theorem dX12_say_17 : decode cX12_say 17 = .ok (.ifCond .ge 5, 3) := by decide +kernel
theorem dX12_say_20 : decode cX12_say 20 = .ok (.iload_n 3, 1) := by decide +kernel
theorem dX12_say_21 : decode cX12_say 21 = .ok (.ireturn, 1) := by decide +kernel
theorem dX12_say_22 : decode cX12_say 22 = .ok (.aload_n 0, 1) := by decide +kernel
theorem dX12_say_23 : decode cX12_say 23 = .ok (.aload_n 0, 1) := by decide +kernel
theorem dX12_say_24 : decode cX12_say 24 = .ok (.getfield 9, 3) := by decide +kernel
theorem dX12_say_27 : decode cX12_say 27 = .ok (.invokevirtual 278, 3) := by decide +kernel
theorem dX12_say_30 : decode cX12_say 30 = .ok (.aload_n 0, 1) := by decide +kernel
theorem dX12_say_31 : decode cX12_say 31 = .ok (.aload_n 0, 1) := by decide +kernel
theorem dX12_say_32 : decode cX12_say 32 = .ok (.getfield 9, 3) := by decide +kernel
theorem dX12_say_35 : decode cX12_say 35 = .ok (.iload_n 1, 1) := by decide +kernel
theorem dX12_say_36 : decode cX12_say 36 = .ok (.iload_n 2, 1) := by decide +kernel
theorem dX12_say_37 : decode cX12_say 37 = .ok (.invokevirtual 282, 3) := by decide +kernel
theorem dX12_say_40 : decode cX12_say 40 = .ok (.ireturn, 1) := by decide +kernel
abbrev YX12_say : li_Y := (yX12_say, cX12_say, 4, (some .int))
theorem dX12_refusesGive_0 : decode cX12_refusesGive 0 = .ok (.aload_n 0, 1) := by decide +kernel
theorem dX12_refusesGive_1 : decode cX12_refusesGive 1 = .ok (.iload_n 1, 1) := by decide +kernel
theorem dX12_refusesGive_2 : decode cX12_refusesGive 2 = .ok (.iload_n 2, 1) := by decide +kernel
theorem dX12_refusesGive_3 : decode cX12_refusesGive 3 = .ok (.invokevirtual 285, 3) := by decide +kernel
theorem dX12_refusesGive_6 : decode cX12_refusesGive 6 = .ok (.ifCond .eq 14, 3) := by decide +kernel
theorem dX12_refusesGive_9 : decode cX12_refusesGive 9 = .ok (.iload_n 3, 1) := by decide +kernel
theorem dX12_refusesGive_10 : decode cX12_refusesGive 10 = .ok (.iconst 1, 1) := by decide +kernel
theorem dX12_refusesGive_11 : decode cX12_refusesGive 11 = .ok (.sipush 9999, 3) := by decide +kernel
theorem dX12_refusesGive_14 : decode cX12_refusesGive 14 = .ok (.invokestatic 113, 3) := by decide +kernel
theorem dX12_refusesGive_17 : decode cX12_refusesGive 17 = .ok (.ifCond .ne 5, 3) := by decide +kernel
theorem dX12_refusesGive_20 : decode cX12_refusesGive 20 = .ok (.iconst (-1), 1) := by decide +kernel
theorem dX12_refusesGive_21 : decode cX12_refusesGive 21 = .ok (.ireturn, 1) := by decide +kernel
theorem dX12_refusesGive_22 : decode cX12_refusesGive 22 = .ok (.aload_n 0, 1) := by decide +kernel
theorem dX12_refusesGive_23 : decode cX12_refusesGive 23 = .ok (.getfield 9, 3) := by decide +kernel
theorem dX12_refusesGive_26 : decode cX12_refusesGive 26 = .ok (.iload_n 1, 1) := by decide +kernel
theorem dX12_refusesGive_27 : decode cX12_refusesGive 27 = .ok (.iaload, 1) := by decide +kernel
theorem dX12_refusesGive_28 : decode cX12_refusesGive 28 = .ok (.iload_n 3, 1) := by decide +kernel
theorem dX12_refusesGive_29 : decode cX12_refusesGive 29 = .ok (.if_icmp .ge 8, 3) := by decide +kernel
theorem dX12_refusesGive_32 : decode cX12_refusesGive 32 = .ok (.bipush (-2), 2) := by decide +kernel
theorem dX12_refusesGive_34 : decode cX12_refusesGive 34 = .ok (.goto 4, 3) := by decide +kernel
theorem dX12_refusesGive_37 : decode cX12_refusesGive 37 = .ok (.iconst 0, 1) := by decide +kernel
theorem dX12_refusesGive_38 : decode cX12_refusesGive 38 = .ok (.ireturn, 1) := by decide +kernel
abbrev YX12_refusesGive : li_Y := (yX12_refusesGive, cX12_refusesGive, 4, (some .int))
theorem dX12_goGive_0 : decode cX12_goGive 0 = .ok (.aload_n 0, 1) := by decide +kernel
theorem dX12_goGive_1 : decode cX12_goGive 1 = .ok (.iload_n 1, 1) := by decide +kernel
theorem dX12_goGive_2 : decode cX12_goGive 2 = .ok (.dup2, 1) := by decide +kernel
theorem dX12_goGive_3 : decode cX12_goGive 3 = .ok (.iaload, 1) := by decide +kernel
theorem dX12_goGive_4 : decode cX12_goGive 4 = .ok (.iload_n 3, 1) := by decide +kernel
theorem dX12_goGive_5 : decode cX12_goGive 5 = .ok (.isub, 1) := by decide +kernel
theorem dX12_goGive_6 : decode cX12_goGive 6 = .ok (.iastore, 1) := by decide +kernel
theorem dX12_goGive_7 : decode cX12_goGive 7 = .ok (.aload_n 0, 1) := by decide +kernel
theorem dX12_goGive_8 : decode cX12_goGive 8 = .ok (.iload_n 2, 1) := by decide +kernel
theorem dX12_goGive_9 : decode cX12_goGive 9 = .ok (.sipush 9999, 3) := by decide +kernel
theorem dX12_goGive_12 : decode cX12_goGive 12 = .ok (.aload_n 0, 1) := by decide +kernel
theorem dX12_goGive_13 : decode cX12_goGive 13 = .ok (.iload_n 2, 1) := by decide +kernel
theorem dX12_goGive_14 : decode cX12_goGive 14 = .ok (.iaload, 1) := by decide +kernel
theorem dX12_goGive_15 : decode cX12_goGive 15 = .ok (.iload_n 3, 1) := by decide +kernel
theorem dX12_goGive_16 : decode cX12_goGive 16 = .ok (.iadd, 1) := by decide +kernel
theorem dX12_goGive_17 : decode cX12_goGive 17 = .ok (.invokestatic 208, 3) := by decide +kernel
theorem dX12_goGive_20 : decode cX12_goGive 20 = .ok (.iastore, 1) := by decide +kernel
theorem dX12_goGive_21 : decode cX12_goGive 21 = .ok (.aload_n 0, 1) := by decide +kernel
theorem dX12_goGive_22 : decode cX12_goGive 22 = .ok (.iload_n 2, 1) := by decide +kernel
theorem dX12_goGive_23 : decode cX12_goGive 23 = .ok (.iaload, 1) := by decide +kernel
theorem dX12_goGive_24 : decode cX12_goGive 24 = .ok (.ireturn, 1) := by decide +kernel
abbrev YX12_goGive : li_Y := (yX12_goGive, cX12_goGive, 4, (some .int))
theorem dX12_give_0 : decode cX12_give 0 = .ok (.aload_n 0, 1) := by decide +kernel
theorem dX12_give_1 : decode cX12_give 1 = .ok (.iconst 0, 1) := by decide +kernel
theorem dX12_give_2 : decode cX12_give 2 = .ok (.putfield 103, 3) := by decide +kernel
theorem dX12_give_5 : decode cX12_give 5 = .ok (.aload_n 0, 1) := by decide +kernel
theorem dX12_give_6 : decode cX12_give 6 = .ok (.iload_n 1, 1) := by decide +kernel
theorem dX12_give_7 : decode cX12_give 7 = .ok (.iload_n 2, 1) := by decide +kernel
theorem dX12_give_8 : decode cX12_give 8 = .ok (.iload_n 3, 1) := by decide +kernel
theorem dX12_give_9 : decode cX12_give 9 = .ok (.invokevirtual 288, 3) := by decide +kernel
theorem dX12_give_12 : decode cX12_give 12 = .ok (.istore 4, 2) := by decide +kernel
theorem dX12_give_14 : decode cX12_give 14 = .ok (.iload 4, 2) := by decide +kernel
theorem dX12_give_16 : decode cX12_give 16 = .ok (.ifCond .ge 6, 3) := by decide +kernel
theorem dX12_give_19 : decode cX12_give 19 = .ok (.iload 4, 2) := by decide +kernel
theorem dX12_give_21 : decode cX12_give 21 = .ok (.ireturn, 1) := by decide +kernel
theorem dX12_give_22 : decode cX12_give 22 = .ok (.aload_n 0, 1) := by decide +kernel
theorem dX12_give_23 : decode cX12_give 23 = .ok (.aload_n 0, 1) := by decide +kernel
theorem dX12_give_24 : decode cX12_give 24 = .ok (.getfield 9, 3) := by decide +kernel
theorem dX12_give_27 : decode cX12_give 27 = .ok (.invokevirtual 278, 3) := by decide +kernel
theorem dX12_give_30 : decode cX12_give 30 = .ok (.aload_n 0, 1) := by decide +kernel
theorem dX12_give_31 : decode cX12_give 31 = .ok (.getfield 9, 3) := by decide +kernel
theorem dX12_give_34 : decode cX12_give 34 = .ok (.iload_n 1, 1) := by decide +kernel
theorem dX12_give_35 : decode cX12_give 35 = .ok (.iload_n 2, 1) := by decide +kernel
theorem dX12_give_36 : decode cX12_give 36 = .ok (.iload_n 3, 1) := by decide +kernel
theorem dX12_give_37 : decode cX12_give 37 = .ok (.invokestatic 292, 3) := by decide +kernel
theorem dX12_give_40 : decode cX12_give 40 = .ok (.ireturn, 1) := by decide +kernel
abbrev YX12_give : li_Y := (yX12_give, cX12_give, 5, (some .int))
theorem dX12_lend_0 : decode cX12_lend 0 = .ok (.aload_n 0, 1) := by decide +kernel
theorem dX12_lend_1 : decode cX12_lend 1 = .ok (.iconst 0, 1) := by decide +kernel
theorem dX12_lend_2 : decode cX12_lend 2 = .ok (.putfield 103, 3) := by decide +kernel
theorem dX12_lend_5 : decode cX12_lend 5 = .ok (.aload_n 0, 1) := by decide +kernel
theorem dX12_lend_6 : decode cX12_lend 6 = .ok (.iload_n 1, 1) := by decide +kernel
theorem dX12_lend_7 : decode cX12_lend 7 = .ok (.iload_n 2, 1) := by decide +kernel
theorem dX12_lend_8 : decode cX12_lend 8 = .ok (.invokevirtual 285, 3) := by decide +kernel
theorem dX12_lend_11 : decode cX12_lend 11 = .ok (.ifCond .eq 14, 3) := by decide +kernel
theorem dX12_lend_14 : decode cX12_lend 14 = .ok (.iload_n 3, 1) := by decide +kernel
theorem dX12_lend_15 : decode cX12_lend 15 = .ok (.iconst 1, 1) := by decide +kernel
theorem dX12_lend_16 : decode cX12_lend 16 = .ok (.sipush 999, 3) := by decide +kernel
theorem dX12_lend_19 : decode cX12_lend 19 = .ok (.invokestatic 113, 3) := by decide +kernel
theorem dX12_lend_22 : decode cX12_lend 22 = .ok (.ifCond .ne 5, 3) := by decide +kernel
theorem dX12_lend_25 : decode cX12_lend 25 = .ok (.iconst (-1), 1) := by decide +kernel
theorem dX12_lend_26 : decode cX12_lend 26 = .ok (.ireturn, 1) := by decide +kernel
theorem dX12_lend_27 : decode cX12_lend 27 = .ok (.aload_n 0, 1) := by decide +kernel
theorem dX12_lend_28 : decode cX12_lend 28 = .ok (.getfield 9, 3) := by decide +kernel
theorem dX12_lend_31 : decode cX12_lend 31 = .ok (.bipush 20, 2) := by decide +kernel
theorem dX12_lend_33 : decode cX12_lend 33 = .ok (.iaload, 1) := by decide +kernel
theorem dX12_lend_34 : decode cX12_lend 34 = .ok (.bipush 6, 2) := by decide +kernel
theorem dX12_lend_36 : decode cX12_lend 36 = .ok (.if_icmp .ne 6, 3) := by decide +kernel
theorem dX12_lend_39 : decode cX12_lend 39 = .ok (.bipush (-3), 2) := by decide +kernel
theorem dX12_lend_41 : decode cX12_lend 41 = .ok (.ireturn, 1) := by decide +kernel
theorem dX12_lend_42 : decode cX12_lend 42 = .ok (.iload 4, 2) := by decide +kernel
theorem dX12_lend_44 : decode cX12_lend 44 = .ok (.aload_n 0, 1) := by decide +kernel
theorem dX12_lend_45 : decode cX12_lend 45 = .ok (.getfield 9, 3) := by decide +kernel
theorem dX12_lend_48 : decode cX12_lend 48 = .ok (.bipush 19, 2) := by decide +kernel
theorem dX12_lend_50 : decode cX12_lend 50 = .ok (.iaload, 1) := by decide +kernel
theorem dX12_lend_51 : decode cX12_lend 51 = .ok (.if_icmp .le 11, 3) := by decide +kernel
theorem dX12_lend_54 : decode cX12_lend 54 = .ok (.iload 4, 2) := by decide +kernel
theorem dX12_lend_56 : decode cX12_lend 56 = .ok (.sipush 9999, 3) := by decide +kernel
theorem dX12_lend_59 : decode cX12_lend 59 = .ok (.if_icmp .le 6, 3) := by decide +kernel
theorem dX12_lend_62 : decode cX12_lend 62 = .ok (.bipush (-4), 2) := by decide +kernel
theorem dX12_lend_64 : decode cX12_lend 64 = .ok (.ireturn, 1) := by decide +kernel
theorem dX12_lend_65 : decode cX12_lend 65 = .ok (.aload_n 0, 1) := by decide +kernel
theorem dX12_lend_66 : decode cX12_lend 66 = .ok (.getfield 9, 3) := by decide +kernel
theorem dX12_lend_69 : decode cX12_lend 69 = .ok (.iload_n 1, 1) := by decide +kernel
theorem dX12_lend_70 : decode cX12_lend 70 = .ok (.iaload, 1) := by decide +kernel
theorem dX12_lend_71 : decode cX12_lend 71 = .ok (.iload_n 3, 1) := by decide +kernel
theorem dX12_lend_72 : decode cX12_lend 72 = .ok (.if_icmp .ge 6, 3) := by decide +kernel
theorem dX12_lend_75 : decode cX12_lend 75 = .ok (.bipush (-2), 2) := by decide +kernel
theorem dX12_lend_77 : decode cX12_lend 77 = .ok (.ireturn, 1) := by decide +kernel
theorem dX12_lend_78 : decode cX12_lend 78 = .ok (.aload_n 0, 1) := by decide +kernel
theorem dX12_lend_79 : decode cX12_lend 79 = .ok (.aload_n 0, 1) := by decide +kernel
theorem dX12_lend_80 : decode cX12_lend 80 = .ok (.getfield 9, 3) := by decide +kernel
theorem dX12_lend_83 : decode cX12_lend 83 = .ok (.invokevirtual 278, 3) := by decide +kernel
theorem dX12_lend_86 : decode cX12_lend 86 = .ok (.bipush 21, 2) := by decide +kernel
theorem dX12_lend_88 : decode cX12_lend 88 = .ok (.iconst 5, 1) := by decide +kernel
theorem dX12_lend_89 : decode cX12_lend 89 = .ok (.aload_n 0, 1) := by decide +kernel
theorem dX12_lend_90 : decode cX12_lend 90 = .ok (.getfield 9, 3) := by decide +kernel
theorem dX12_lend_93 : decode cX12_lend 93 = .ok (.bipush 20, 2) := by decide +kernel
theorem dX12_lend_95 : decode cX12_lend 95 = .ok (.iaload, 1) := by decide +kernel
theorem dX12_lend_96 : decode cX12_lend 96 = .ok (.imul, 1) := by decide +kernel
theorem dX12_lend_97 : decode cX12_lend 97 = .ok (.iadd, 1) := by decide +kernel
theorem dX12_lend_98 : decode cX12_lend 98 = .ok (.istore 5, 2) := by decide +kernel
theorem dX12_lend_100 : decode cX12_lend 100 = .ok (.aload_n 0, 1) := by decide +kernel
theorem dX12_lend_101 : decode cX12_lend 101 = .ok (.getfield 9, 3) := by decide +kernel
theorem dX12_lend_104 : decode cX12_lend 104 = .ok (.iload 5, 2) := by decide +kernel
theorem dX12_lend_106 : decode cX12_lend 106 = .ok (.iload_n 1, 1) := by decide +kernel
theorem dX12_lend_107 : decode cX12_lend 107 = .ok (.iastore, 1) := by decide +kernel
theorem dX12_lend_108 : decode cX12_lend 108 = .ok (.aload_n 0, 1) := by decide +kernel
theorem dX12_lend_109 : decode cX12_lend 109 = .ok (.getfield 9, 3) := by decide +kernel
theorem dX12_lend_112 : decode cX12_lend 112 = .ok (.iload 5, 2) := by decide +kernel
theorem dX12_lend_114 : decode cX12_lend 114 = .ok (.iconst 1, 1) := by decide +kernel
theorem dX12_lend_115 : decode cX12_lend 115 = .ok (.iadd, 1) := by decide +kernel
theorem dX12_lend_116 : decode cX12_lend 116 = .ok (.iload_n 2, 1) := by decide +kernel
theorem dX12_lend_117 : decode cX12_lend 117 = .ok (.iastore, 1) := by decide +kernel
theorem dX12_lend_118 : decode cX12_lend 118 = .ok (.aload_n 0, 1) := by decide +kernel
theorem dX12_lend_119 : decode cX12_lend 119 = .ok (.getfield 9, 3) := by decide +kernel
theorem dX12_lend_122 : decode cX12_lend 122 = .ok (.iload 5, 2) := by decide +kernel
theorem dX12_lend_124 : decode cX12_lend 124 = .ok (.iconst 2, 1) := by decide +kernel
theorem dX12_lend_125 : decode cX12_lend 125 = .ok (.iadd, 1) := by decide +kernel
theorem dX12_lend_126 : decode cX12_lend 126 = .ok (.iload_n 3, 1) := by decide +kernel
theorem dX12_lend_127 : decode cX12_lend 127 = .ok (.iastore, 1) := by decide +kernel
theorem dX12_lend_128 : decode cX12_lend 128 = .ok (.aload_n 0, 1) := by decide +kernel
theorem dX12_lend_129 : decode cX12_lend 129 = .ok (.getfield 9, 3) := by decide +kernel
theorem dX12_lend_132 : decode cX12_lend 132 = .ok (.iload 5, 2) := by decide +kernel
theorem dX12_lend_134 : decode cX12_lend 134 = .ok (.iconst 3, 1) := by decide +kernel
theorem dX12_lend_135 : decode cX12_lend 135 = .ok (.iadd, 1) := by decide +kernel
theorem dX12_lend_136 : decode cX12_lend 136 = .ok (.iload 4, 2) := by decide +kernel
theorem dX12_lend_138 : decode cX12_lend 138 = .ok (.iastore, 1) := by decide +kernel
theorem dX12_lend_139 : decode cX12_lend 139 = .ok (.aload_n 0, 1) := by decide +kernel
theorem dX12_lend_140 : decode cX12_lend 140 = .ok (.getfield 9, 3) := by decide +kernel
theorem dX12_lend_143 : decode cX12_lend 143 = .ok (.iload 5, 2) := by decide +kernel
theorem dX12_lend_145 : decode cX12_lend 145 = .ok (.iconst 4, 1) := by decide +kernel
theorem dX12_lend_146 : decode cX12_lend 146 = .ok (.iadd, 1) := by decide +kernel
theorem dX12_lend_147 : decode cX12_lend 147 = .ok (.iconst 0, 1) := by decide +kernel
theorem dX12_lend_148 : decode cX12_lend 148 = .ok (.iastore, 1) := by decide +kernel
theorem dX12_lend_149 : decode cX12_lend 149 = .ok (.aload_n 0, 1) := by decide +kernel
theorem dX12_lend_150 : decode cX12_lend 150 = .ok (.getfield 9, 3) := by decide +kernel
theorem dX12_lend_153 : decode cX12_lend 153 = .ok (.bipush 20, 2) := by decide +kernel
theorem dX12_lend_155 : decode cX12_lend 155 = .ok (.dup2, 1) := by decide +kernel
theorem dX12_lend_156 : decode cX12_lend 156 = .ok (.iaload, 1) := by decide +kernel
theorem dX12_lend_157 : decode cX12_lend 157 = .ok (.iconst 1, 1) := by decide +kernel
theorem dX12_lend_158 : decode cX12_lend 158 = .ok (.iadd, 1) := by decide +kernel
theorem dX12_lend_159 : decode cX12_lend 159 = .ok (.iastore, 1) := by decide +kernel
theorem dX12_lend_160 : decode cX12_lend 160 = .ok (.aload_n 0, 1) := by decide +kernel
theorem dX12_lend_161 : decode cX12_lend 161 = .ok (.getfield 9, 3) := by decide +kernel
theorem dX12_lend_164 : decode cX12_lend 164 = .ok (.iload_n 1, 1) := by decide +kernel
theorem dX12_lend_165 : decode cX12_lend 165 = .ok (.iload_n 2, 1) := by decide +kernel
theorem dX12_lend_166 : decode cX12_lend 166 = .ok (.iload_n 3, 1) := by decide +kernel
theorem dX12_lend_167 : decode cX12_lend 167 = .ok (.invokestatic 292, 3) := by decide +kernel
theorem dX12_lend_170 : decode cX12_lend 170 = .ok (.pop, 1) := by decide +kernel
theorem dX12_lend_171 : decode cX12_lend 171 = .ok (.aload_n 0, 1) := by decide +kernel
theorem dX12_lend_172 : decode cX12_lend 172 = .ok (.getfield 9, 3) := by decide +kernel
theorem dX12_lend_175 : decode cX12_lend 175 = .ok (.bipush 20, 2) := by decide +kernel
theorem dX12_lend_177 : decode cX12_lend 177 = .ok (.iaload, 1) := by decide +kernel
theorem dX12_lend_178 : decode cX12_lend 178 = .ok (.iconst 1, 1) := by decide +kernel
theorem dX12_lend_179 : decode cX12_lend 179 = .ok (.isub, 1) := by decide +kernel
theorem dX12_lend_180 : decode cX12_lend 180 = .ok (.ireturn, 1) := by decide +kernel
abbrev YX12_lend : li_Y := (yX12_lend, cX12_lend, 6, (some .int))
set_option maxRecDepth 100000 in
set_option maxHeartbeats 4000000 in
theorem k_X12_refusesSay {l : Launch} {Z : li_Z} (d : Nat) (hd : 341 ≤ d) {a : Nat} (ha : li_la a) (p1 p2 : Int32) (M0 : li_M) (hJ : li_J M0) : li_Met l Z YX12_refusesSay d [.ref (Z.2.2 175), .ref (Z.2.2 a), .int p1, .int p2] M0 (fun r M' => (∃ x : Int32, r = some (.int x) ∧ (0 ≤ x.toInt → 0 ≤ p1.toInt ∧ p1.toInt ≤ 7)) ∧ li_fs (fun i k => i = 185 ∨ i = 1000 ∨ (i = 175 ∧ k = 12) ∨ (i = 175 ∧ k = 13) ∨ (i = 175 ∧ k = 14) ∨ (i = 175 ∧ k = 15) ∨ (i = 175 ∧ k = 20)) M0 M' ∧ li_J M') := by
  refine li_enter (by decide +kernel) (Nat.le_of_ble_eq_true rfl) ?_
  show li_T l Z YX12_refusesSay d 0 [(0, .ref (Z.2.2 175)), (1, .ref (Z.2.2 a)), (2, .int p1), (3, .int p2)] [] M0 _
  have hf : li_fs (fun i k => i = 185 ∨ i = 1000 ∨ (i = 175 ∧ k = 12) ∨ (i = 175 ∧ k = 13) ∨ (i = 175 ∧ k = 14) ∨ (i = 175 ∧ k = 15) ∨ (i = 175 ∧ k = 20)) M0 M0 := li_fs_refl
  have gp1 := tl_rg p1
  have gp2 := tl_rg p2
  have rM0_4 := J_sl4 (M := M0) hJ
  have caa : a = 176 ∨ a = 200 := ha
  refine li_aload_n 0 dX12_refusesSay_0 rfl ?_
  refine li_iload_n 2 dX12_refusesSay_1 rfl ?_
  refine li_callV (n := 1) (As := [.int p1]) dX12_refusesSay_2 (k_X12_isThing (d - 1) (by omega) p1 M0 hJ ) (by omega) (Nat.le_of_ble_eq_true rfl) w_1664 w_1666 w_59 w_112 w_1667 (by decide +kernel) rfl (by decide) sh_175 rfl rfl (Nat.le_of_ble_eq_true rfl) (fun r M2 h3 => ?_)
  obtain ⟨qx1, h3, jM2⟩ := h3
  have hf := li_fs_trans hf h3 (fun i k h => False.elim h)
  have hJ := jM2
  have rM2_4 := J_sl4 (M := M2) hJ
  have mM2_4 : (M2.1 175 4).toInt = (M0.1 175 4).toInt := tl_slot (h3.1 175 4 id)
  rcases qx1 with ⟨rfl, qx1⟩ | ⟨rfl, qx1⟩
  · skip
    refine li_if_eq 17 dX12_refusesSay_5 (by decide) (fun c => absurd c (by decide)) (fun c => ?_)
    refine li_iload_n 3 dX12_refusesSay_8 rfl ?_
    refine li_iconst 0 dX12_refusesSay_9 (by decide) ?_
    refine li_iconst 3 dX12_refusesSay_10 (by decide) ?_
    have z0 : (0 : Int32).toInt = 0 := rfl
    have z3 : (3 : Int32).toInt = 3 := rfl
    refine li_callS (n := 3) (As := [.int p2, .int 0, .int 3]) dX12_refusesSay_11 (k_X12_in (d - 1) (by omega) p2 0 3 M2 hJ ) (by omega) (Nat.le_of_ble_eq_true rfl) w_1570 w_1571 w_112 w_1572 (by decide +kernel) rfl rfl (Nat.le_of_ble_eq_true rfl) (fun r M6 h7 => ?_)
    obtain ⟨qx5, h7, jM6⟩ := h7
    have hf := li_fs_trans hf h7 (fun i k h => False.elim h)
    have hJ := jM6
    have rM6_4 := J_sl4 (M := M6) hJ
    have mM6_4 : (M6.1 175 4).toInt = (M2.1 175 4).toInt := tl_slot (h7.1 175 4 id)
    rcases qx5 with ⟨rfl, qx5⟩ | ⟨rfl, qx5⟩
    · skip
      refine li_if_ne 19 dX12_refusesSay_14 (by decide) (fun c => ?_) (fun c => absurd c (by decide))
      refine li_aload_n 1 dX12_refusesSay_19 rfl ?_
      refine li_bipush 18 dX12_refusesSay_20 (by decide) ?_
      have z18 : (18 : Int32).toInt = 18 := rfl
      refine li_iald dX12_refusesSay_22 (snA ha) (shA ha) (tl_in (by omega)) ?_
      refine li_top (fun x9 ex9 => ?_)
      have gx9 := tl_rg x9
      have lx9 : ((18 : Int32).toInt % 51 = 20 → 0 ≤ x9.toInt ∧ x9.toInt ≤ 6) ∧ (21 ≤ (18 : Int32).toInt % 51 → ((18 : Int32).toInt % 51 - 21) % 5 < 2 → 0 ≤ x9.toInt ∧ x9.toInt ≤ 5) := hJ.ldLed (li_la_led ha) ex9 (by omega)
      refine li_iload_n 2 dX12_refusesSay_23 rfl ?_
      refine li_callS (n := 2) (As := [.int x9, .int p1]) dX12_refusesSay_24 (k_X12_has (d - 1) (by omega) x9 p1 M6 hJ ) (by omega) (Nat.le_of_ble_eq_true rfl) w_1734 w_1735 w_112 w_1736 (by decide +kernel) rfl rfl (Nat.le_of_ble_eq_true rfl) (fun r M11 h12 => ?_)
      obtain ⟨qx10, h12, jM11⟩ := h12
      have hf := li_fs_trans hf h12 (fun i k h => False.elim h)
      have hJ := jM11
      have rM11_4 := J_sl4 (M := M11) hJ
      have mM11_4 : (M11.1 175 4).toInt = (M6.1 175 4).toInt := tl_slot (h12.1 175 4 id)
      rcases qx10 with ⟨rfl, qx10⟩ | ⟨rfl, qx10⟩
      · skip
        refine li_if_eq 33 dX12_refusesSay_27 (by decide) (fun c => absurd c (by decide)) (fun c => ?_)
        refine li_bipush (-2) dX12_refusesSay_30 (by decide) ?_
        have zm2 : ((-2) : Int32).toInt = -2 := rfl
        exact li_iret dX12_refusesSay_32 rfl rfl ⟨⟨_, rfl, (by first | omega | (intro _; omega) | (refine ⟨?_, ?_⟩ <;> first | omega | (intro _; omega)) | (refine ⟨?_, ?_, ?_, ?_⟩ <;> first | omega | (intro _; omega)))⟩, hf, hJ⟩
      · skip
        refine li_if_eq 33 dX12_refusesSay_27 (by decide) (fun c => ?_) (fun c => absurd rfl c)
        refine li_aload_n 0 dX12_refusesSay_33 rfl ?_
        refine li_aload_n 1 dX12_refusesSay_34 rfl ?_
        refine li_iload_n 2 dX12_refusesSay_35 rfl ?_
        refine li_callV (n := 2) (As := [.ref (Z.2.2 a), .int p1]) dX12_refusesSay_36 (k_X12_isLate (d - 1) (by omega) ha p1 M11 hJ (by omega)) (by omega) (Nat.le_of_ble_eq_true rfl) w_1737 w_1739 w_70 w_112 w_1740 (by decide +kernel) rfl (by decide) sh_175 rfl rfl (Nat.le_of_ble_eq_true rfl) (fun r M16 h17 => ?_)
        obtain ⟨qx15, h17, jM16⟩ := h17
        have hf := li_fs_trans hf h17 (fun i k h => False.elim h)
        have hJ := jM16
        have rM16_4 := J_sl4 (M := M16) hJ
        have mM16_4 : (M16.1 175 4).toInt = (M11.1 175 4).toInt := tl_slot (h17.1 175 4 id)
        rcases qx15 with ⟨rfl, qx15⟩ | ⟨rfl, qx15⟩
        · skip
          refine li_if_eq 45 dX12_refusesSay_39 (by decide) (fun c => absurd c (by decide)) (fun c => ?_)
          refine li_bipush (-3) dX12_refusesSay_42 (by decide) ?_
          have zm3 : ((-3) : Int32).toInt = -3 := rfl
          exact li_iret dX12_refusesSay_44 rfl rfl ⟨⟨_, rfl, (by first | omega | (intro _; omega) | (refine ⟨?_, ?_⟩ <;> first | omega | (intro _; omega)) | (refine ⟨?_, ?_, ?_, ?_⟩ <;> first | omega | (intro _; omega)))⟩, hf, hJ⟩
        · skip
          refine li_if_eq 45 dX12_refusesSay_39 (by decide) (fun c => ?_) (fun c => absurd rfl c)
          refine li_aload_n 0 dX12_refusesSay_45 rfl ?_
          refine li_iload_n 2 dX12_refusesSay_46 rfl ?_
          refine li_iload_n 3 dX12_refusesSay_47 rfl ?_
          refine li_callV (n := 2) (As := [.int p1, .int p2]) dX12_refusesSay_48 (k_X12_isHeard (d - 1) (by omega) p1 p2 M16 hJ (by omega)) (by omega) (Nat.le_of_ble_eq_true rfl) w_1718 w_1720 w_67 w_112 w_1721 (by decide +kernel) rfl (by decide) sh_175 rfl rfl (Nat.le_of_ble_eq_true rfl) (fun r M21 h22 => ?_)
          obtain ⟨qx20, h22, jM21⟩ := h22
          have hf := li_fs_trans hf h22 (fun i k h => False.elim h)
          have hJ := jM21
          have rM21_4 := J_sl4 (M := M21) hJ
          have mM21_4 : (M21.1 175 4).toInt = (M16.1 175 4).toInt := tl_slot (h22.1 175 4 id)
          rcases qx20 with ⟨rfl, qx20⟩ | ⟨rfl, qx20⟩
          · skip
            refine li_if_ne 57 dX12_refusesSay_51 (by decide) (fun c => ?_) (fun c => absurd c (by decide))
            refine li_aload_n 1 dX12_refusesSay_57 rfl ?_
            refine li_aload_n 0 dX12_refusesSay_58 rfl ?_
            refine li_iload_n 2 dX12_refusesSay_59 rfl ?_
            refine li_iconst 0 dX12_refusesSay_60 (by decide) ?_
            have z0 : (0 : Int32).toInt = 0 := rfl
            refine li_callV (n := 2) (As := [.int p1, .int 0]) dX12_refusesSay_61 (k_X12_field (d - 1) (by omega) p1 0 M21 hJ (by omega) (by omega)) (by omega) (Nat.le_of_ble_eq_true rfl) w_1668 w_1670 w_60 w_112 w_1671 (by decide +kernel) rfl (by decide) sh_175 rfl rfl (Nat.le_of_ble_eq_true rfl) (fun r M25 h26 => ?_)
            obtain ⟨⟨x24, rfl, qx24⟩, h26, jM25⟩ := h26
            have gx24 := tl_rg x24
            have hf := li_fs_trans hf h26 (fun i k h => False.elim h)
            have hJ := jM25
            have rM25_4 := J_sl4 (M := M25) hJ
            have mM25_4 : (M25.1 175 4).toInt = (M21.1 175 4).toInt := tl_slot (h26.1 175 4 id)
            refine li_iald dX12_refusesSay_64 (snA ha) (shA ha) (tl_in (by omega)) ?_
            refine li_top (fun x27 ex27 => ?_)
            have gx27 := tl_rg x27
            try (have ox27 : (x24 : Int32).toInt % 51 = (x24 : Int32).toInt := by omega)
            have lx27 : ((x24 : Int32).toInt % 51 = 20 → 0 ≤ x27.toInt ∧ x27.toInt ≤ 6) ∧ (21 ≤ (x24 : Int32).toInt % 51 → ((x24 : Int32).toInt % 51 - 21) % 5 < 2 → 0 ≤ x27.toInt ∧ x27.toInt ≤ 5) := hJ.ldLed (li_la_led ha) ex27 (by omega)
            refine li_aload_n 0 dX12_refusesSay_65 rfl ?_
            refine li_aload_n 1 dX12_refusesSay_66 rfl ?_
            refine li_iload_n 2 dX12_refusesSay_67 rfl ?_
            refine li_iload_n 3 dX12_refusesSay_68 rfl ?_
            refine li_callV (n := 3) (As := [.ref (Z.2.2 a), .int p1, .int p2]) dX12_refusesSay_69 (k_X12_costOfThing (d - 1) (by omega) ha p1 p2 M25 hJ (by omega)) (by omega) (Nat.le_of_ble_eq_true rfl) w_1722 w_1724 w_68 w_112 w_1725 (by decide +kernel) rfl (by decide) sh_175 rfl rfl (Nat.le_of_ble_eq_true rfl) (fun r M29 h30 => ?_)
            obtain ⟨⟨x28, rfl, qx28⟩, h30, jM29⟩ := h30
            have gx28 := tl_rg x28
            have hf := li_fs_trans hf h30 (fun i k => fun h => Or.elim h (fun h => Or.inl h) (fun h => Or.elim h (fun h => Or.inr (Or.inl h)) (fun h => Or.elim h (fun h => Or.inr (Or.inr (Or.inl h))) (fun h => Or.elim h (fun h => Or.inr (Or.inr (Or.inr (Or.inl h)))) (fun h => Or.elim h (fun h => Or.inr (Or.inr (Or.inr (Or.inr (Or.inl h))))) (fun h => Or.elim h (fun h => Or.inr (Or.inr (Or.inr (Or.inr (Or.inr (Or.inl h)))))) (fun h => Or.inr (Or.inr (Or.inr (Or.inr (Or.inr (Or.inr h))))))))))))
            have hJ := jM29
            have rM29_4 := J_sl4 (M := M29) hJ
            have mM29_4 : (M29.1 175 4).toInt = (M25.1 175 4).toInt := tl_slot (h30.1 175 4 (show ¬ (175 = 185 ∨ 175 = 1000 ∨ (175 = 175 ∧ 4 = 12) ∨ (175 = 175 ∧ 4 = 13) ∨ (175 = 175 ∧ 4 = 14) ∨ (175 = 175 ∧ 4 = 15) ∨ (175 = 175 ∧ 4 = 20)) by decide))
            refine li_icmp_ge 80 dX12_refusesSay_72 (by decide) (fun c31 => ?_) (fun c31 => ?_)
            · have tc31 : x28.toInt ≤ x27.toInt := tl_le c31
              refine li_iconst 0 dX12_refusesSay_80 (by decide) ?_
              have z0 : (0 : Int32).toInt = 0 := rfl
              exact li_iret dX12_refusesSay_81 rfl rfl ⟨⟨_, rfl, (by first | omega | (intro _; omega) | (refine ⟨?_, ?_⟩ <;> first | omega | (intro _; omega)) | (refine ⟨?_, ?_, ?_, ?_⟩ <;> first | omega | (intro _; omega)))⟩, hf, hJ⟩
            · have tc31 : x27.toInt < x28.toInt := tl_nle c31
              refine li_bipush (-5) dX12_refusesSay_75 (by decide) ?_
              refine li_goto 81 dX12_refusesSay_77 (by decide) ?_
              have zm5 : ((-5) : Int32).toInt = -5 := rfl
              exact li_iret dX12_refusesSay_81 rfl rfl ⟨⟨_, rfl, (by first | omega | (intro _; omega) | (refine ⟨?_, ?_⟩ <;> first | omega | (intro _; omega)) | (refine ⟨?_, ?_, ?_, ?_⟩ <;> first | omega | (intro _; omega)))⟩, hf, hJ⟩
          · skip
            refine li_if_ne 57 dX12_refusesSay_51 (by decide) (fun c => absurd rfl c) (fun c => ?_)
            refine li_bipush (-4) dX12_refusesSay_54 (by decide) ?_
            have zm4 : ((-4) : Int32).toInt = -4 := rfl
            exact li_iret dX12_refusesSay_56 rfl rfl ⟨⟨_, rfl, (by first | omega | (intro _; omega) | (refine ⟨?_, ?_⟩ <;> first | omega | (intro _; omega)) | (refine ⟨?_, ?_, ?_, ?_⟩ <;> first | omega | (intro _; omega)))⟩, hf, hJ⟩
    · skip
      refine li_if_ne 19 dX12_refusesSay_14 (by decide) (fun c => absurd rfl c) (fun c => ?_)
      refine li_iconst (-1) dX12_refusesSay_17 (by decide) ?_
      have zm1 : ((-1) : Int32).toInt = -1 := rfl
      exact li_iret dX12_refusesSay_18 rfl rfl ⟨⟨_, rfl, (by first | omega | (intro _; omega) | (refine ⟨?_, ?_⟩ <;> first | omega | (intro _; omega)) | (refine ⟨?_, ?_, ?_, ?_⟩ <;> first | omega | (intro _; omega)))⟩, hf, hJ⟩
  · skip
    refine li_if_eq 17 dX12_refusesSay_5 (by decide) (fun c => ?_) (fun c => absurd rfl c)
    refine li_iconst (-1) dX12_refusesSay_17 (by decide) ?_
    have zm1 : ((-1) : Int32).toInt = -1 := rfl
    exact li_iret dX12_refusesSay_18 rfl rfl ⟨⟨_, rfl, (by first | omega | (intro _; omega) | (refine ⟨?_, ?_⟩ <;> first | omega | (intro _; omega)) | (refine ⟨?_, ?_, ?_, ?_⟩ <;> first | omega | (intro _; omega)))⟩, hf, hJ⟩
set_option maxRecDepth 100000 in
set_option maxHeartbeats 4000000 in
theorem k_X12_goSay {l : Launch} {Z : li_Z} (d : Nat) (hd : 341 ≤ d) {a : Nat} (ha : li_la a) (p1 p2 : Int32) (M0 : li_M) (hJ : li_J M0) (h1 : 0 ≤ p1.toInt ∧ p1.toInt ≤ 7) : li_Met l Z YX12_goSay d [.ref (Z.2.2 175), .ref (Z.2.2 a), .int p1, .int p2] M0 (fun r M' => (∃ x : Int32, r = some (.int x)) ∧ li_fs (fun i k => i = a ∨ i = 185 ∨ i = 1000 ∨ (i = 175 ∧ k = 12) ∨ (i = 175 ∧ k = 13) ∨ (i = 175 ∧ k = 14) ∨ (i = 175 ∧ k = 15) ∨ (i = 175 ∧ k = 20)) M0 M' ∧ li_J M') := by
  refine li_enter (by decide +kernel) (Nat.le_of_ble_eq_true rfl) ?_
  show li_T l Z YX12_goSay d 0 [(0, .ref (Z.2.2 175)), (1, .ref (Z.2.2 a)), (2, .int p1), (3, .int p2)] [] M0 _
  have hf : li_fs (fun i k => i = a ∨ i = 185 ∨ i = 1000 ∨ (i = 175 ∧ k = 12) ∨ (i = 175 ∧ k = 13) ∨ (i = 175 ∧ k = 14) ∨ (i = 175 ∧ k = 15) ∨ (i = 175 ∧ k = 20)) M0 M0 := li_fs_refl
  have gp1 := tl_rg p1
  have gp2 := tl_rg p2
  have caa : a = 176 ∨ a = 200 := ha
  refine li_aload_n 0 dX12_goSay_0 rfl ?_
  refine li_aload_n 1 dX12_goSay_1 rfl ?_
  refine li_iload_n 2 dX12_goSay_2 rfl ?_
  refine li_iload_n 3 dX12_goSay_3 rfl ?_
  refine li_callV (n := 3) (As := [.ref (Z.2.2 a), .int p1, .int p2]) dX12_goSay_4 (k_X12_costOfThing (d - 1) (by omega) ha p1 p2 M0 hJ (by omega)) (by omega) (Nat.le_of_ble_eq_true rfl) w_1722 w_1724 w_68 w_112 w_1725 (by decide +kernel) rfl (by decide) sh_175 rfl rfl (Nat.le_of_ble_eq_true rfl) (fun r M2 h3 => ?_)
  obtain ⟨⟨x1, rfl, qx1⟩, h3, jM2⟩ := h3
  have gx1 := tl_rg x1
  have hf := li_fs_trans hf h3 (fun i k => fun h => Or.elim h (fun h => Or.inr (Or.inl h)) (fun h => Or.elim h (fun h => Or.inr (Or.inr (Or.inl h))) (fun h => Or.elim h (fun h => Or.inr (Or.inr (Or.inr (Or.inl h)))) (fun h => Or.elim h (fun h => Or.inr (Or.inr (Or.inr (Or.inr (Or.inl h))))) (fun h => Or.elim h (fun h => Or.inr (Or.inr (Or.inr (Or.inr (Or.inr (Or.inl h)))))) (fun h => Or.elim h (fun h => Or.inr (Or.inr (Or.inr (Or.inr (Or.inr (Or.inr (Or.inl h))))))) (fun h => Or.inr (Or.inr (Or.inr (Or.inr (Or.inr (Or.inr (Or.inr h)))))))))))))
  have hJ := jM2
  refine li_istore [(4, .int x1), (0, .ref (Z.2.2 175)), (1, .ref (Z.2.2 a)), (2, .int p1), (3, .int p2)] dX12_goSay_7 (by decide) rfl ?_
  refine li_aload_n 2 dX12_goSay_9 rfl ?_
  refine li_aload_n 1 dX12_goSay_10 rfl ?_
  refine li_iload_n 3 dX12_goSay_11 rfl ?_
  refine li_iconst 0 dX12_goSay_12 (by decide) ?_
  have z0 : (0 : Int32).toInt = 0 := rfl
  refine li_callV (n := 2) (As := [.int p1, .int 0]) dX12_goSay_13 (k_X12_field (d - 1) (by omega) p1 0 M2 hJ (by omega) (by omega)) (by omega) (Nat.le_of_ble_eq_true rfl) w_1668 w_1670 w_60 w_112 w_1671 (by decide +kernel) rfl (by decide) sh_175 rfl rfl (Nat.le_of_ble_eq_true rfl) (fun r M5 h6 => ?_)
  obtain ⟨⟨x4, rfl, qx4⟩, h6, jM5⟩ := h6
  have gx4 := tl_rg x4
  have hf := li_fs_trans hf h6 (fun i k h => False.elim h)
  have hJ := jM5
  refine li_dup2 dX12_goSay_16 rfl rfl ?_
  refine li_iald dX12_goSay_17 (snA ha) (shA ha) (tl_in (by omega)) ?_
  refine li_top (fun x7 ex7 => ?_)
  have gx7 := tl_rg x7
  try (have ox7 : (x4 : Int32).toInt % 51 = (x4 : Int32).toInt := by omega)
  have lx7 : ((x4 : Int32).toInt % 51 = 20 → 0 ≤ x7.toInt ∧ x7.toInt ≤ 6) ∧ (21 ≤ (x4 : Int32).toInt % 51 → ((x4 : Int32).toInt % 51 - 21) % 5 < 2 → 0 ≤ x7.toInt ∧ x7.toInt ≤ 5) := hJ.ldLed (li_la_led ha) ex7 (by omega)
  refine li_iload 0 dX12_goSay_18 rfl ?_
  refine li_isub dX12_goSay_20 ?_
  refine li_top (fun x8 ex8 => ?_)
  try (have tx8 : x8.toInt = (x7 : Int32).toInt - (x1 : Int32).toInt := tl_sub ex8 (by omega))
  refine li_iast dX12_goSay_21 (snA ha) (shA ha) (tl_in (by omega)) ?_
  refine li_nm (fun M9 eM9 => ?_)
  have hf := li_fs_ui hf (Or.inl rfl) eM9
  try (have oM9 : (x4 : Int32).toInt % 51 = (x4 : Int32).toInt := by omega)
  have hJ := hJ.st (by unfold li_la at ha; omega) (li_el_led (li_la_led ha) (by omega) (show ((x4 : Int32).toInt % 51 = 20 → 0 ≤ (x8 : Int32).toInt ∧ (x8 : Int32).toInt ≤ 6) ∧ (21 ≤ (x4 : Int32).toInt % 51 → ((x4 : Int32).toInt % 51 - 21) % 5 < 2 → 0 ≤ (x8 : Int32).toInt ∧ (x8 : Int32).toInt ≤ 5) by omega)) eM9
  refine li_aload_n 2 dX12_goSay_22 rfl ?_
  refine li_bipush 6 dX12_goSay_23 (by decide) ?_
  refine li_aload_n 1 dX12_goSay_25 rfl ?_
  refine li_iload_n 3 dX12_goSay_26 rfl ?_
  refine li_iconst 0 dX12_goSay_27 (by decide) ?_
  have z0 : (0 : Int32).toInt = 0 := rfl
  refine li_callV (n := 2) (As := [.int p1, .int 0]) dX12_goSay_28 (k_X12_field (d - 1) (by omega) p1 0 M9 hJ (by omega) (by omega)) (by omega) (Nat.le_of_ble_eq_true rfl) w_1668 w_1670 w_60 w_112 w_1671 (by decide +kernel) rfl (by decide) sh_175 rfl rfl (Nat.le_of_ble_eq_true rfl) (fun r M11 h12 => ?_)
  obtain ⟨⟨x10, rfl, qx10⟩, h12, jM11⟩ := h12
  have gx10 := tl_rg x10
  have hf := li_fs_trans hf h12 (fun i k h => False.elim h)
  have hJ := jM11
  refine li_iadd dX12_goSay_31 ?_
  refine li_top (fun x13 ex13 => ?_)
  have z6 : (6 : Int32).toInt = 6 := rfl
  try (have tx13 : x13.toInt = (6 : Int32).toInt + (x10 : Int32).toInt := tl_add ex13 (by omega))
  refine li_dup2 dX12_goSay_32 rfl rfl ?_
  refine li_iald dX12_goSay_33 (snA ha) (shA ha) (tl_in (by omega)) ?_
  refine li_top (fun x14 ex14 => ?_)
  have gx14 := tl_rg x14
  try (have ox14 : (x13 : Int32).toInt % 51 = (x13 : Int32).toInt := by omega)
  have lx14 : ((x13 : Int32).toInt % 51 = 20 → 0 ≤ x14.toInt ∧ x14.toInt ≤ 6) ∧ (21 ≤ (x13 : Int32).toInt % 51 → ((x13 : Int32).toInt % 51 - 21) % 5 < 2 → 0 ≤ x14.toInt ∧ x14.toInt ≤ 5) := hJ.ldLed (li_la_led ha) ex14 (by omega)
  refine li_iload 0 dX12_goSay_34 rfl ?_
  refine li_iadd dX12_goSay_36 ?_
  refine li_top (fun x15 ex15 => ?_)
  try (have tx15 : x15.toInt = (x14 : Int32).toInt + (x1 : Int32).toInt := tl_add ex15 (by omega))
  refine li_iast dX12_goSay_37 (snA ha) (shA ha) (tl_in (by omega)) ?_
  refine li_nm (fun M16 eM16 => ?_)
  have hf := li_fs_ui hf (Or.inl rfl) eM16
  try (have oM16 : (x13 : Int32).toInt % 51 = (x13 : Int32).toInt := by omega)
  have hJ := hJ.st (by unfold li_la at ha; omega) (li_el_led (li_la_led ha) (by omega) (show ((x13 : Int32).toInt % 51 = 20 → 0 ≤ (x15 : Int32).toInt ∧ (x15 : Int32).toInt ≤ 6) ∧ (21 ≤ (x13 : Int32).toInt % 51 → ((x13 : Int32).toInt % 51 - 21) % 5 < 2 → 0 ≤ (x15 : Int32).toInt ∧ (x15 : Int32).toInt ≤ 5) by omega)) eM16
  refine li_aload_n 2 dX12_goSay_38 rfl ?_
  refine li_bipush 18 dX12_goSay_39 (by decide) ?_
  refine li_dup2 dX12_goSay_41 rfl rfl ?_
  have z18 : (18 : Int32).toInt = 18 := rfl
  refine li_iald dX12_goSay_42 (snA ha) (shA ha) (tl_in (by omega)) ?_
  refine li_top (fun x17 ex17 => ?_)
  have gx17 := tl_rg x17
  have lx17 : ((18 : Int32).toInt % 51 = 20 → 0 ≤ x17.toInt ∧ x17.toInt ≤ 6) ∧ (21 ≤ (18 : Int32).toInt % 51 → ((18 : Int32).toInt % 51 - 21) % 5 < 2 → 0 ≤ x17.toInt ∧ x17.toInt ≤ 5) := hJ.ldLed (li_la_led ha) ex17 (by omega)
  refine li_iconst 1 dX12_goSay_43 (by decide) ?_
  refine li_iload_n 3 dX12_goSay_44 rfl ?_
  refine li_ishl dX12_goSay_45 ?_
  refine li_top (fun x18 ex18 => ?_)
  have z1 : (1 : Int32).toInt = 1 := rfl
  try (have tx18 := tl_shl255 ex18 (by omega))
  refine li_ior dX12_goSay_46 ?_
  refine li_top (fun x19 ex19 => ?_)
  try (have tx19 := tl_or255 ex19 (by omega) (by omega))
  have z18 : (18 : Int32).toInt = 18 := rfl
  refine li_iast dX12_goSay_47 (snA ha) (shA ha) (tl_in (by omega)) ?_
  refine li_nm (fun M20 eM20 => ?_)
  have hf := li_fs_ui hf (Or.inl rfl) eM20
  have hJ := hJ.st (by unfold li_la at ha; omega) (li_el_led (li_la_led ha) (by omega) (show ((18 : Int32).toInt % 51 = 20 → 0 ≤ (x19 : Int32).toInt ∧ (x19 : Int32).toInt ≤ 6) ∧ (21 ≤ (18 : Int32).toInt % 51 → ((18 : Int32).toInt % 51 - 21) % 5 < 2 → 0 ≤ (x19 : Int32).toInt ∧ (x19 : Int32).toInt ≤ 5) by omega)) eM20
  refine li_iload 0 dX12_goSay_48 rfl ?_
  exact li_iret dX12_goSay_50 rfl rfl ⟨⟨_, rfl⟩, hf, hJ⟩
set_option maxRecDepth 100000 in
set_option maxHeartbeats 4000000 in
theorem k_X12_say {l : Launch} {Z : li_Z} (d : Nat) (hd : 342 ≤ d) (p1 p2 : Int32) (M0 : li_M) (hJ : li_J M0) : li_Met l Z YX12_say d [.ref (Z.2.2 175), .int p1, .int p2] M0 (fun r M' => (∃ x : Int32, r = some (.int x)) ∧ li_fs (fun i k => i = 176 ∨ i = 185 ∨ i = 186 ∨ i = 1000 ∨ (i = 175 ∧ k = 10) ∨ (i = 175 ∧ k = 12) ∨ (i = 175 ∧ k = 13) ∨ (i = 175 ∧ k = 14) ∨ (i = 175 ∧ k = 15) ∨ (i = 175 ∧ k = 20) ∨ (i = 175 ∧ k = 23)) M0 M' ∧ li_J M') := by
  refine li_enter (by decide +kernel) (Nat.le_of_ble_eq_true rfl) ?_
  show li_T l Z YX12_say d 0 [(0, .ref (Z.2.2 175)), (1, .int p1), (2, .int p2)] [] M0 _
  have hf : li_fs (fun i k => i = 176 ∨ i = 185 ∨ i = 186 ∨ i = 1000 ∨ (i = 175 ∧ k = 10) ∨ (i = 175 ∧ k = 12) ∨ (i = 175 ∧ k = 13) ∨ (i = 175 ∧ k = 14) ∨ (i = 175 ∧ k = 15) ∨ (i = 175 ∧ k = 20) ∨ (i = 175 ∧ k = 23)) M0 M0 := li_fs_refl
  have gp1 := tl_rg p1
  have gp2 := tl_rg p2
  refine li_aload_n 0 dX12_say_0 rfl ?_
  refine li_iconst 0 dX12_say_1 (by decide) ?_
  refine li_puti (k := 10) (N := 52) (T := TX12) (C0 := RX12) dX12_say_2 (by decide) sh_175 rfl rfl (by decide) li_in12 tyX12_ok nmX12 rfl rfl rfl rfl w_1414 ?_
  refine li_nm (fun M1 eM1 => ?_)
  have hf := li_fs_ui hf (Or.inr (Or.inr (Or.inr (Or.inr (Or.inl ⟨rfl, rfl⟩))))) eM1
  have z0 : (0 : Int32).toInt = 0 := rfl
  have hJ := hJ.put (k := 10) (by decide) (rg_free rfl) eM1
  refine li_aload_n 0 dX12_say_5 rfl ?_
  refine li_aload_n 0 dX12_say_6 rfl ?_
  refine li_getr (k := 0) (N := 52) (T := TX12) (C0 := RX12) dX12_say_7 (by decide) sh_175 rfl rfl (by decide) (by decide) li_in12 w_1404 ?_
  refine li_iload_n 1 dX12_say_10 rfl ?_
  refine li_iload_n 2 dX12_say_11 rfl ?_
  refine li_callV (n := 3) (As := [.ref (Z.2.2 176), .int p1, .int p2]) dX12_say_12 (k_X12_refusesSay (d - 1) (by omega) la_176 p1 p2 M1 hJ ) (by omega) (Nat.le_of_ble_eq_true rfl) w_1730 w_1732 w_69 w_112 w_1733 (by decide +kernel) rfl (by decide) sh_175 rfl rfl (Nat.le_of_ble_eq_true rfl) (fun r M3 h4 => ?_)
  obtain ⟨⟨x2, rfl, qx2⟩, h4, jM3⟩ := h4
  have gx2 := tl_rg x2
  have hf := li_fs_trans hf h4 (fun i k => fun h => Or.elim h (fun h => Or.inr (Or.inl h)) (fun h => Or.elim h (fun h => Or.inr (Or.inr (Or.inr (Or.inl h)))) (fun h => Or.elim h (fun h => Or.inr (Or.inr (Or.inr (Or.inr (Or.inr (Or.inl h)))))) (fun h => Or.elim h (fun h => Or.inr (Or.inr (Or.inr (Or.inr (Or.inr (Or.inr (Or.inl h))))))) (fun h => Or.elim h (fun h => Or.inr (Or.inr (Or.inr (Or.inr (Or.inr (Or.inr (Or.inr (Or.inl h)))))))) (fun h => Or.elim h (fun h => Or.inr (Or.inr (Or.inr (Or.inr (Or.inr (Or.inr (Or.inr (Or.inr (Or.inl h))))))))) (fun h => Or.inr (Or.inr (Or.inr (Or.inr (Or.inr (Or.inr (Or.inr (Or.inr (Or.inr (Or.inl h))))))))))))))))
  have hJ := jM3
  refine li_istore_n [(3, .int x2), (0, .ref (Z.2.2 175)), (1, .int p1), (2, .int p2)] dX12_say_15 (by decide) rfl ?_
  refine li_iload_n 0 dX12_say_16 rfl ?_
  refine li_if_ge 22 dX12_say_17 (by decide) (fun c5 => ?_) (fun c5 => ?_)
  · have tc5 : 0 ≤ x2.toInt := tl_le c5
    refine li_aload_n 1 dX12_say_22 rfl ?_
    refine li_aload_n 1 dX12_say_23 rfl ?_
    refine li_getr (k := 0) (N := 52) (T := TX12) (C0 := RX12) dX12_say_24 (by decide) sh_175 rfl rfl (by decide) (by decide) li_in12 w_1404 ?_
    refine li_callV (n := 1) (As := [.ref (Z.2.2 176)]) dX12_say_27 (k_X12_remember_n (d - 1) (by omega)  M3 hJ ) (by omega) (Nat.le_of_ble_eq_true rfl) w_1741 w_1743 w_71 w_112 w_1744 (by decide +kernel) rfl (by decide) sh_175 rfl rfl (Nat.le_of_ble_eq_true rfl) (fun r M7 h8 => ?_)
    obtain ⟨rfl, h8, jM7⟩ := h8
    have hf := li_fs_trans hf h8 (fun i k => fun h => Or.elim h (fun h => Or.inr (Or.inr (Or.inl h))) (fun h => Or.inr (Or.inr (Or.inr (Or.inr (Or.inr (Or.inr (Or.inr (Or.inr (Or.inr (Or.inr h)))))))))))
    have hJ := jM7
    refine li_aload_n 1 dX12_say_30 rfl ?_
    refine li_aload_n 1 dX12_say_31 rfl ?_
    refine li_getr (k := 0) (N := 52) (T := TX12) (C0 := RX12) dX12_say_32 (by decide) sh_175 rfl rfl (by decide) (by decide) li_in12 w_1404 ?_
    refine li_iload_n 2 dX12_say_35 rfl ?_
    refine li_iload_n 3 dX12_say_36 rfl ?_
    refine li_callV (n := 3) (As := [.ref (Z.2.2 176), .int p1, .int p2]) dX12_say_37 (k_X12_goSay (d - 1) (by omega) la_176 p1 p2 M7 hJ (by omega)) (by omega) (Nat.le_of_ble_eq_true rfl) w_1748 w_1750 w_72 w_112 w_1751 (by decide +kernel) rfl (by decide) sh_175 rfl rfl (Nat.le_of_ble_eq_true rfl) (fun r M10 h11 => ?_)
    obtain ⟨⟨x9, rfl⟩, h11, jM10⟩ := h11
    have gx9 := tl_rg x9
    have hf := li_fs_trans hf h11 (fun i k => fun h => Or.elim h (fun h => Or.inl h) (fun h => Or.elim h (fun h => Or.inr (Or.inl h)) (fun h => Or.elim h (fun h => Or.inr (Or.inr (Or.inr (Or.inl h)))) (fun h => Or.elim h (fun h => Or.inr (Or.inr (Or.inr (Or.inr (Or.inr (Or.inl h)))))) (fun h => Or.elim h (fun h => Or.inr (Or.inr (Or.inr (Or.inr (Or.inr (Or.inr (Or.inl h))))))) (fun h => Or.elim h (fun h => Or.inr (Or.inr (Or.inr (Or.inr (Or.inr (Or.inr (Or.inr (Or.inl h)))))))) (fun h => Or.elim h (fun h => Or.inr (Or.inr (Or.inr (Or.inr (Or.inr (Or.inr (Or.inr (Or.inr (Or.inl h))))))))) (fun h => Or.inr (Or.inr (Or.inr (Or.inr (Or.inr (Or.inr (Or.inr (Or.inr (Or.inr (Or.inl h)))))))))))))))))
    have hJ := jM10
    exact li_iret dX12_say_40 rfl rfl ⟨⟨_, rfl⟩, hf, hJ⟩
  · have tc5 : x2.toInt < 0 := tl_nle c5
    refine li_iload_n 0 dX12_say_20 rfl ?_
    exact li_iret dX12_say_21 rfl rfl ⟨⟨_, rfl⟩, hf, hJ⟩
set_option maxRecDepth 100000 in
set_option maxHeartbeats 4000000 in
theorem k_X12_refusesGive {l : Launch} {Z : li_Z} (d : Nat) (hd : 4 ≤ d) (p1 p2 p3 : Int32) (M0 : li_M) (hJ : li_J M0) : li_Met l Z YX12_refusesGive d [.ref (Z.2.2 175), .int p1, .int p2, .int p3] M0 (fun r M' => (∃ x : Int32, r = some (.int x) ∧ (0 ≤ x.toInt → 0 ≤ p1.toInt ∧ p1.toInt ≤ 5 ∧ 0 ≤ p2.toInt ∧ p2.toInt ≤ 5)) ∧ li_fs (fun i k => False) M0 M' ∧ li_J M') := by
  refine li_enter (by decide +kernel) (Nat.le_of_ble_eq_true rfl) ?_
  show li_T l Z YX12_refusesGive d 0 [(0, .ref (Z.2.2 175)), (1, .int p1), (2, .int p2), (3, .int p3)] [] M0 _
  have hf : li_fs (fun i k => False) M0 M0 := li_fs_refl
  have gp1 := tl_rg p1
  have gp2 := tl_rg p2
  have gp3 := tl_rg p3
  have rM0_1 := J_sl1 (M := M0) hJ
  refine li_aload_n 0 dX12_refusesGive_0 rfl ?_
  refine li_iload_n 1 dX12_refusesGive_1 rfl ?_
  refine li_iload_n 2 dX12_refusesGive_2 rfl ?_
  refine li_callV (n := 2) (As := [.int p1, .int p2]) dX12_refusesGive_3 (k_X12_areTwo (d - 1) (by omega) p1 p2 M0 hJ ) (by omega) (Nat.le_of_ble_eq_true rfl) w_1760 w_1762 w_74 w_112 w_1763 (by decide +kernel) rfl (by decide) sh_175 rfl rfl (Nat.le_of_ble_eq_true rfl) (fun r M2 h3 => ?_)
  obtain ⟨qx1, h3, jM2⟩ := h3
  have hf := li_fs_trans hf h3 (fun i k h => False.elim h)
  have hJ := jM2
  have rM2_1 := J_sl1 (M := M2) hJ
  have mM2_1 : (M2.1 175 1).toInt = (M0.1 175 1).toInt := tl_slot (h3.1 175 1 id)
  rcases qx1 with ⟨rfl, qx1⟩ | ⟨rfl, qx1⟩
  · skip
    refine li_if_eq 20 dX12_refusesGive_6 (by decide) (fun c => absurd c (by decide)) (fun c => ?_)
    refine li_iload_n 3 dX12_refusesGive_9 rfl ?_
    refine li_iconst 1 dX12_refusesGive_10 (by decide) ?_
    refine li_sipush 9999 dX12_refusesGive_11 (by decide) ?_
    have z1 : (1 : Int32).toInt = 1 := rfl
    have z9999 : (9999 : Int32).toInt = 9999 := rfl
    refine li_callS (n := 3) (As := [.int p3, .int 1, .int 9999]) dX12_refusesGive_14 (k_X12_in (d - 1) (by omega) p3 1 9999 M2 hJ ) (by omega) (Nat.le_of_ble_eq_true rfl) w_1570 w_1571 w_112 w_1572 (by decide +kernel) rfl rfl (Nat.le_of_ble_eq_true rfl) (fun r M6 h7 => ?_)
    obtain ⟨qx5, h7, jM6⟩ := h7
    have hf := li_fs_trans hf h7 (fun i k h => False.elim h)
    have hJ := jM6
    have rM6_1 := J_sl1 (M := M6) hJ
    have mM6_1 : (M6.1 175 1).toInt = (M2.1 175 1).toInt := tl_slot (h7.1 175 1 id)
    rcases qx5 with ⟨rfl, qx5⟩ | ⟨rfl, qx5⟩
    · skip
      refine li_if_ne 22 dX12_refusesGive_17 (by decide) (fun c => ?_) (fun c => absurd c (by decide))
      refine li_aload_n 0 dX12_refusesGive_22 rfl ?_
      refine li_getr (k := 0) (N := 52) (T := TX12) (C0 := RX12) dX12_refusesGive_23 (by decide) sh_175 rfl rfl (by decide) (by decide) li_in12 w_1404 ?_
      refine li_iload_n 1 dX12_refusesGive_26 rfl ?_
      refine li_iald dX12_refusesGive_27 (by decide) sh_176 (tl_in (by omega)) ?_
      refine li_top (fun x9 ex9 => ?_)
      have gx9 := tl_rg x9
      try (have ox9 : (p1 : Int32).toInt % 51 = (p1 : Int32).toInt := by omega)
      have lx9 : ((p1 : Int32).toInt % 51 = 20 → 0 ≤ x9.toInt ∧ x9.toInt ≤ 6) ∧ (21 ≤ (p1 : Int32).toInt % 51 → ((p1 : Int32).toInt % 51 - 21) % 5 < 2 → 0 ≤ x9.toInt ∧ x9.toInt ≤ 5) := hJ.ldLed (by unfold li_led; omega) ex9 (by omega)
      refine li_iload_n 3 dX12_refusesGive_28 rfl ?_
      refine li_icmp_ge 37 dX12_refusesGive_29 (by decide) (fun c10 => ?_) (fun c10 => ?_)
      · have tc10 : p3.toInt ≤ x9.toInt := tl_le c10
        refine li_iconst 0 dX12_refusesGive_37 (by decide) ?_
        have z0 : (0 : Int32).toInt = 0 := rfl
        exact li_iret dX12_refusesGive_38 rfl rfl ⟨⟨_, rfl, (by first | omega | (intro _; omega) | (refine ⟨?_, ?_⟩ <;> first | omega | (intro _; omega)) | (refine ⟨?_, ?_, ?_, ?_⟩ <;> first | omega | (intro _; omega)))⟩, hf, hJ⟩
      · have tc10 : x9.toInt < p3.toInt := tl_nle c10
        refine li_bipush (-2) dX12_refusesGive_32 (by decide) ?_
        refine li_goto 38 dX12_refusesGive_34 (by decide) ?_
        have zm2 : ((-2) : Int32).toInt = -2 := rfl
        exact li_iret dX12_refusesGive_38 rfl rfl ⟨⟨_, rfl, (by first | omega | (intro _; omega) | (refine ⟨?_, ?_⟩ <;> first | omega | (intro _; omega)) | (refine ⟨?_, ?_, ?_, ?_⟩ <;> first | omega | (intro _; omega)))⟩, hf, hJ⟩
    · skip
      refine li_if_ne 22 dX12_refusesGive_17 (by decide) (fun c => absurd rfl c) (fun c => ?_)
      refine li_iconst (-1) dX12_refusesGive_20 (by decide) ?_
      have zm1 : ((-1) : Int32).toInt = -1 := rfl
      exact li_iret dX12_refusesGive_21 rfl rfl ⟨⟨_, rfl, (by first | omega | (intro _; omega) | (refine ⟨?_, ?_⟩ <;> first | omega | (intro _; omega)) | (refine ⟨?_, ?_, ?_, ?_⟩ <;> first | omega | (intro _; omega)))⟩, hf, hJ⟩
  · skip
    refine li_if_eq 20 dX12_refusesGive_6 (by decide) (fun c => ?_) (fun c => absurd rfl c)
    refine li_iconst (-1) dX12_refusesGive_20 (by decide) ?_
    have zm1 : ((-1) : Int32).toInt = -1 := rfl
    exact li_iret dX12_refusesGive_21 rfl rfl ⟨⟨_, rfl, (by first | omega | (intro _; omega) | (refine ⟨?_, ?_⟩ <;> first | omega | (intro _; omega)) | (refine ⟨?_, ?_, ?_, ?_⟩ <;> first | omega | (intro _; omega)))⟩, hf, hJ⟩
set_option maxRecDepth 100000 in
set_option maxHeartbeats 4000000 in
theorem k_X12_goGive {l : Launch} {Z : li_Z} (d : Nat) (hd : 1 ≤ d) {a : Nat} (ha : li_la a) (p1 p2 p3 : Int32) (M0 : li_M) (hJ : li_J M0) (h1 : 0 ≤ p1.toInt ∧ p1.toInt ≤ 5) (h2 : 0 ≤ p2.toInt ∧ p2.toInt ≤ 5) : li_Met l Z YX12_goGive d [.ref (Z.2.2 a), .int p1, .int p2, .int p3] M0 (fun r M' => (∃ x : Int32, r = some (.int x)) ∧ li_fs (fun i k => i = a) M0 M' ∧ li_J M') := by
  refine li_enter (by decide +kernel) (Nat.le_of_ble_eq_true rfl) ?_
  show li_T l Z YX12_goGive d 0 [(0, .ref (Z.2.2 a)), (1, .int p1), (2, .int p2), (3, .int p3)] [] M0 _
  have hf : li_fs (fun i k => i = a) M0 M0 := li_fs_refl
  have gp1 := tl_rg p1
  have gp2 := tl_rg p2
  have gp3 := tl_rg p3
  have caa : a = 176 ∨ a = 200 := ha
  refine li_aload_n 0 dX12_goGive_0 rfl ?_
  refine li_iload_n 1 dX12_goGive_1 rfl ?_
  refine li_dup2 dX12_goGive_2 rfl rfl ?_
  refine li_iald dX12_goGive_3 (snA ha) (shA ha) (tl_in (by omega)) ?_
  refine li_top (fun x1 ex1 => ?_)
  have gx1 := tl_rg x1
  try (have ox1 : (p1 : Int32).toInt % 51 = (p1 : Int32).toInt := by omega)
  have lx1 : ((p1 : Int32).toInt % 51 = 20 → 0 ≤ x1.toInt ∧ x1.toInt ≤ 6) ∧ (21 ≤ (p1 : Int32).toInt % 51 → ((p1 : Int32).toInt % 51 - 21) % 5 < 2 → 0 ≤ x1.toInt ∧ x1.toInt ≤ 5) := hJ.ldLed (li_la_led ha) ex1 (by omega)
  refine li_iload_n 3 dX12_goGive_4 rfl ?_
  refine li_isub dX12_goGive_5 ?_
  refine li_top (fun x2 ex2 => ?_)
  try (have tx2 : x2.toInt = (x1 : Int32).toInt - (p3 : Int32).toInt := tl_sub ex2 (by omega))
  refine li_iast dX12_goGive_6 (snA ha) (shA ha) (tl_in (by omega)) ?_
  refine li_nm (fun M3 eM3 => ?_)
  have hf := li_fs_ui hf (rfl) eM3
  try (have oM3 : (p1 : Int32).toInt % 51 = (p1 : Int32).toInt := by omega)
  have hJ := hJ.st (by unfold li_la at ha; omega) (li_el_led (li_la_led ha) (by omega) (show ((p1 : Int32).toInt % 51 = 20 → 0 ≤ (x2 : Int32).toInt ∧ (x2 : Int32).toInt ≤ 6) ∧ (21 ≤ (p1 : Int32).toInt % 51 → ((p1 : Int32).toInt % 51 - 21) % 5 < 2 → 0 ≤ (x2 : Int32).toInt ∧ (x2 : Int32).toInt ≤ 5) by omega)) eM3
  refine li_aload_n 0 dX12_goGive_7 rfl ?_
  refine li_iload_n 2 dX12_goGive_8 rfl ?_
  refine li_sipush 9999 dX12_goGive_9 (by decide) ?_
  refine li_aload_n 0 dX12_goGive_12 rfl ?_
  refine li_iload_n 2 dX12_goGive_13 rfl ?_
  refine li_iald dX12_goGive_14 (snA ha) (shA ha) (tl_in (by omega)) ?_
  refine li_top (fun x4 ex4 => ?_)
  have gx4 := tl_rg x4
  try (have ox4 : (p2 : Int32).toInt % 51 = (p2 : Int32).toInt := by omega)
  have lx4 : ((p2 : Int32).toInt % 51 = 20 → 0 ≤ x4.toInt ∧ x4.toInt ≤ 6) ∧ (21 ≤ (p2 : Int32).toInt % 51 → ((p2 : Int32).toInt % 51 - 21) % 5 < 2 → 0 ≤ x4.toInt ∧ x4.toInt ≤ 5) := hJ.ldLed (li_la_led ha) ex4 (by omega)
  refine li_iload_n 3 dX12_goGive_15 rfl ?_
  refine li_iadd dX12_goGive_16 ?_
  refine li_top (fun x5 ex5 => ?_)
  try (have tx5 : x5.toInt = (x4 : Int32).toInt + (p3 : Int32).toInt := tl_add ex5 (by omega))
  refine li_mmin dX12_goGive_17 (by omega) w_1701 w_726 w_113 w_727 (Nat.le_of_ble_eq_true rfl) ?_
  refine li_top (fun x6 ex6 => ?_)
  have z9999 : (9999 : Int32).toInt = 9999 := rfl
  have tx6 := tl_min2 ex6
  refine li_iast dX12_goGive_20 (snA ha) (shA ha) (tl_in (by omega)) ?_
  refine li_nm (fun M7 eM7 => ?_)
  have hf := li_fs_ui hf (rfl) eM7
  try (have oM7 : (p2 : Int32).toInt % 51 = (p2 : Int32).toInt := by omega)
  have hJ := hJ.st (by unfold li_la at ha; omega) (li_el_led (li_la_led ha) (by omega) (show ((p2 : Int32).toInt % 51 = 20 → 0 ≤ (x6 : Int32).toInt ∧ (x6 : Int32).toInt ≤ 6) ∧ (21 ≤ (p2 : Int32).toInt % 51 → ((p2 : Int32).toInt % 51 - 21) % 5 < 2 → 0 ≤ (x6 : Int32).toInt ∧ (x6 : Int32).toInt ≤ 5) by omega)) eM7
  refine li_aload_n 0 dX12_goGive_21 rfl ?_
  refine li_iload_n 2 dX12_goGive_22 rfl ?_
  refine li_iald dX12_goGive_23 (snA ha) (shA ha) (tl_in (by omega)) ?_
  refine li_top (fun x8 ex8 => ?_)
  have gx8 := tl_rg x8
  try (have ox8 : (p2 : Int32).toInt % 51 = (p2 : Int32).toInt := by omega)
  have lx8 : ((p2 : Int32).toInt % 51 = 20 → 0 ≤ x8.toInt ∧ x8.toInt ≤ 6) ∧ (21 ≤ (p2 : Int32).toInt % 51 → ((p2 : Int32).toInt % 51 - 21) % 5 < 2 → 0 ≤ x8.toInt ∧ x8.toInt ≤ 5) := hJ.ldLed (li_la_led ha) ex8 (by omega)
  exact li_iret dX12_goGive_24 rfl rfl ⟨⟨_, rfl⟩, hf, hJ⟩
set_option maxRecDepth 100000 in
set_option maxHeartbeats 4000000 in
theorem k_X12_give {l : Launch} {Z : li_Z} (d : Nat) (hd : 5 ≤ d) (p1 p2 p3 : Int32) (M0 : li_M) (hJ : li_J M0) : li_Met l Z YX12_give d [.ref (Z.2.2 175), .int p1, .int p2, .int p3] M0 (fun r M' => (∃ x : Int32, r = some (.int x)) ∧ li_fs (fun i k => i = 176 ∨ i = 186 ∨ (i = 175 ∧ k = 10) ∨ (i = 175 ∧ k = 23)) M0 M' ∧ li_J M') := by
  refine li_enter (by decide +kernel) (Nat.le_of_ble_eq_true rfl) ?_
  show li_T l Z YX12_give d 0 [(0, .ref (Z.2.2 175)), (1, .int p1), (2, .int p2), (3, .int p3)] [] M0 _
  have hf : li_fs (fun i k => i = 176 ∨ i = 186 ∨ (i = 175 ∧ k = 10) ∨ (i = 175 ∧ k = 23)) M0 M0 := li_fs_refl
  have gp1 := tl_rg p1
  have gp2 := tl_rg p2
  have gp3 := tl_rg p3
  refine li_aload_n 0 dX12_give_0 rfl ?_
  refine li_iconst 0 dX12_give_1 (by decide) ?_
  refine li_puti (k := 10) (N := 52) (T := TX12) (C0 := RX12) dX12_give_2 (by decide) sh_175 rfl rfl (by decide) li_in12 tyX12_ok nmX12 rfl rfl rfl rfl w_1414 ?_
  refine li_nm (fun M1 eM1 => ?_)
  have hf := li_fs_ui hf (Or.inr (Or.inr (Or.inl ⟨rfl, rfl⟩))) eM1
  have z0 : (0 : Int32).toInt = 0 := rfl
  have hJ := hJ.put (k := 10) (by decide) (rg_free rfl) eM1
  refine li_aload_n 0 dX12_give_5 rfl ?_
  refine li_iload_n 1 dX12_give_6 rfl ?_
  refine li_iload_n 2 dX12_give_7 rfl ?_
  refine li_iload_n 3 dX12_give_8 rfl ?_
  refine li_callV (n := 3) (As := [.int p1, .int p2, .int p3]) dX12_give_9 (k_X12_refusesGive (d - 1) (by omega) p1 p2 p3 M1 hJ ) (by omega) (Nat.le_of_ble_eq_true rfl) w_1756 w_1758 w_73 w_112 w_1759 (by decide +kernel) rfl (by decide) sh_175 rfl rfl (Nat.le_of_ble_eq_true rfl) (fun r M3 h4 => ?_)
  obtain ⟨⟨x2, rfl, qx2⟩, h4, jM3⟩ := h4
  have gx2 := tl_rg x2
  have hf := li_fs_trans hf h4 (fun i k h => False.elim h)
  have hJ := jM3
  refine li_istore [(4, .int x2), (0, .ref (Z.2.2 175)), (1, .int p1), (2, .int p2), (3, .int p3)] dX12_give_12 (by decide) rfl ?_
  refine li_iload 0 dX12_give_14 rfl ?_
  refine li_if_ge 22 dX12_give_16 (by decide) (fun c5 => ?_) (fun c5 => ?_)
  · have tc5 : 0 ≤ x2.toInt := tl_le c5
    refine li_aload_n 1 dX12_give_22 rfl ?_
    refine li_aload_n 1 dX12_give_23 rfl ?_
    refine li_getr (k := 0) (N := 52) (T := TX12) (C0 := RX12) dX12_give_24 (by decide) sh_175 rfl rfl (by decide) (by decide) li_in12 w_1404 ?_
    refine li_callV (n := 1) (As := [.ref (Z.2.2 176)]) dX12_give_27 (k_X12_remember_n (d - 1) (by omega)  M3 hJ ) (by omega) (Nat.le_of_ble_eq_true rfl) w_1741 w_1743 w_71 w_112 w_1744 (by decide +kernel) rfl (by decide) sh_175 rfl rfl (Nat.le_of_ble_eq_true rfl) (fun r M7 h8 => ?_)
    obtain ⟨rfl, h8, jM7⟩ := h8
    have hf := li_fs_trans hf h8 (fun i k => fun h => Or.elim h (fun h => Or.inr (Or.inl h)) (fun h => Or.inr (Or.inr (Or.inr h))))
    have hJ := jM7
    refine li_aload_n 1 dX12_give_30 rfl ?_
    refine li_getr (k := 0) (N := 52) (T := TX12) (C0 := RX12) dX12_give_31 (by decide) sh_175 rfl rfl (by decide) (by decide) li_in12 w_1404 ?_
    refine li_iload_n 2 dX12_give_34 rfl ?_
    refine li_iload_n 3 dX12_give_35 rfl ?_
    refine li_iload_n 4 dX12_give_36 rfl ?_
    refine li_callS (n := 4) (As := [.ref (Z.2.2 176), .int p1, .int p2, .int p3]) dX12_give_37 (k_X12_goGive (d - 1) (by omega) la_176 p1 p2 p3 M7 hJ (by omega) (by omega)) (by omega) (Nat.le_of_ble_eq_true rfl) w_1764 w_1765 w_112 w_1766 (by decide +kernel) rfl rfl (Nat.le_of_ble_eq_true rfl) (fun r M10 h11 => ?_)
    obtain ⟨⟨x9, rfl⟩, h11, jM10⟩ := h11
    have gx9 := tl_rg x9
    have hf := li_fs_trans hf h11 (fun i k => fun h => Or.inl h)
    have hJ := jM10
    exact li_iret dX12_give_40 rfl rfl ⟨⟨_, rfl⟩, hf, hJ⟩
  · have tc5 : x2.toInt < 0 := tl_nle c5
    refine li_iload 0 dX12_give_19 rfl ?_
    exact li_iret dX12_give_21 rfl rfl ⟨⟨_, rfl⟩, hf, hJ⟩
set_option maxRecDepth 100000 in
set_option maxHeartbeats 4000000 in
theorem k_X12_lend {l : Launch} {Z : li_Z} (d : Nat) (hd : 4 ≤ d) (p1 p2 p3 p4 : Int32) (M0 : li_M) (hJ : li_J M0) : li_Met l Z YX12_lend d [.ref (Z.2.2 175), .int p1, .int p2, .int p3, .int p4] M0 (fun r M' => (∃ x : Int32, r = some (.int x)) ∧ li_fs (fun i k => i = 176 ∨ i = 186 ∨ (i = 175 ∧ k = 10) ∨ (i = 175 ∧ k = 23)) M0 M' ∧ li_J M') := by
  refine li_enter (by decide +kernel) (Nat.le_of_ble_eq_true rfl) ?_
  show li_T l Z YX12_lend d 0 [(0, .ref (Z.2.2 175)), (1, .int p1), (2, .int p2), (3, .int p3), (4, .int p4)] [] M0 _
  have hf : li_fs (fun i k => i = 176 ∨ i = 186 ∨ (i = 175 ∧ k = 10) ∨ (i = 175 ∧ k = 23)) M0 M0 := li_fs_refl
  have gp1 := tl_rg p1
  have gp2 := tl_rg p2
  have gp3 := tl_rg p3
  have gp4 := tl_rg p4
  have rM0_1 := J_sl1 (M := M0) hJ
  refine li_aload_n 0 dX12_lend_0 rfl ?_
  refine li_iconst 0 dX12_lend_1 (by decide) ?_
  refine li_puti (k := 10) (N := 52) (T := TX12) (C0 := RX12) dX12_lend_2 (by decide) sh_175 rfl rfl (by decide) li_in12 tyX12_ok nmX12 rfl rfl rfl rfl w_1414 ?_
  refine li_nm (fun M1 eM1 => ?_)
  have hf := li_fs_ui hf (Or.inr (Or.inr (Or.inl ⟨rfl, rfl⟩))) eM1
  have z0 : (0 : Int32).toInt = 0 := rfl
  have hJ := hJ.put (k := 10) (by decide) (rg_free rfl) eM1
  have rM1_1 := J_sl1 (M := M1) hJ
  have mM1_1 : (M1.1 175 1).toInt = (M0.1 175 1).toInt := by rw [eM1, li_ui_at, if_pos rfl, if_neg (by decide)]
  have aM1_176_20 : (M1.1 176 20).toInt = (M0.1 176 20).toInt := by rw [eM1, li_ui_at, if_neg (by decide)]
  refine li_aload_n 0 dX12_lend_5 rfl ?_
  refine li_iload_n 1 dX12_lend_6 rfl ?_
  refine li_iload_n 2 dX12_lend_7 rfl ?_
  refine li_callV (n := 2) (As := [.int p1, .int p2]) dX12_lend_8 (k_X12_areTwo (d - 1) (by omega) p1 p2 M1 hJ ) (by omega) (Nat.le_of_ble_eq_true rfl) w_1760 w_1762 w_74 w_112 w_1763 (by decide +kernel) rfl (by decide) sh_175 rfl rfl (Nat.le_of_ble_eq_true rfl) (fun r M3 h4 => ?_)
  obtain ⟨qx2, h4, jM3⟩ := h4
  have hf := li_fs_trans hf h4 (fun i k h => False.elim h)
  have hJ := jM3
  have rM3_1 := J_sl1 (M := M3) hJ
  have mM3_1 : (M3.1 175 1).toInt = (M1.1 175 1).toInt := tl_slot (h4.1 175 1 id)
  have aM3_176_20 : (M3.1 176 20).toInt = (M1.1 176 20).toInt := tl_slot (h4.1 176 (20) id)
  rcases qx2 with ⟨rfl, qx2⟩ | ⟨rfl, qx2⟩
  · skip
    refine li_if_eq 25 dX12_lend_11 (by decide) (fun c => absurd c (by decide)) (fun c => ?_)
    refine li_iload_n 3 dX12_lend_14 rfl ?_
    refine li_iconst 1 dX12_lend_15 (by decide) ?_
    refine li_sipush 999 dX12_lend_16 (by decide) ?_
    have z1 : (1 : Int32).toInt = 1 := rfl
    have z999 : (999 : Int32).toInt = 999 := rfl
    refine li_callS (n := 3) (As := [.int p3, .int 1, .int 999]) dX12_lend_19 (k_X12_in (d - 1) (by omega) p3 1 999 M3 hJ ) (by omega) (Nat.le_of_ble_eq_true rfl) w_1570 w_1571 w_112 w_1572 (by decide +kernel) rfl rfl (Nat.le_of_ble_eq_true rfl) (fun r M7 h8 => ?_)
    obtain ⟨qx6, h8, jM7⟩ := h8
    have hf := li_fs_trans hf h8 (fun i k h => False.elim h)
    have hJ := jM7
    have rM7_1 := J_sl1 (M := M7) hJ
    have mM7_1 : (M7.1 175 1).toInt = (M3.1 175 1).toInt := tl_slot (h8.1 175 1 id)
    have aM7_176_20 : (M7.1 176 20).toInt = (M3.1 176 20).toInt := tl_slot (h8.1 176 (20) id)
    rcases qx6 with ⟨rfl, qx6⟩ | ⟨rfl, qx6⟩
    · skip
      refine li_if_ne 27 dX12_lend_22 (by decide) (fun c => ?_) (fun c => absurd c (by decide))
      refine li_aload_n 0 dX12_lend_27 rfl ?_
      refine li_getr (k := 0) (N := 52) (T := TX12) (C0 := RX12) dX12_lend_28 (by decide) sh_175 rfl rfl (by decide) (by decide) li_in12 w_1404 ?_
      refine li_bipush 20 dX12_lend_31 (by decide) ?_
      have z20 : (20 : Int32).toInt = 20 := rfl
      refine li_iald dX12_lend_33 (by decide) sh_176 (tl_in (by omega)) ?_
      refine li_top (fun x10 ex10 => ?_)
      have gx10 := tl_rg x10
      have lx10 : ((20 : Int32).toInt % 51 = 20 → 0 ≤ x10.toInt ∧ x10.toInt ≤ 6) ∧ (21 ≤ (20 : Int32).toInt % 51 → ((20 : Int32).toInt % 51 - 21) % 5 < 2 → 0 ≤ x10.toInt ∧ x10.toInt ≤ 5) := hJ.ldLed (by unfold li_led; omega) ex10 (by omega)
      have bx10 : x10.toInt = (M7.1 176 20).toInt := tl_slot (ex10.trans (congrArg (M7.1 176) (by decide)))
      refine li_bipush 6 dX12_lend_34 (by decide) ?_
      refine li_icmp_ne 42 dX12_lend_36 (by decide) (fun c11 => ?_) (fun c11 => ?_)
      · have tc11 : ¬ x10.toInt = 6 := tl_ne c11
        refine li_iload 4 dX12_lend_42 rfl ?_
        refine li_aload_n 0 dX12_lend_44 rfl ?_
        refine li_getr (k := 0) (N := 52) (T := TX12) (C0 := RX12) dX12_lend_45 (by decide) sh_175 rfl rfl (by decide) (by decide) li_in12 w_1404 ?_
        refine li_bipush 19 dX12_lend_48 (by decide) ?_
        have z19 : (19 : Int32).toInt = 19 := rfl
        refine li_iald dX12_lend_50 (by decide) sh_176 (tl_in (by omega)) ?_
        refine li_top (fun x12 ex12 => ?_)
        have gx12 := tl_rg x12
        have lx12 : ((19 : Int32).toInt % 51 = 20 → 0 ≤ x12.toInt ∧ x12.toInt ≤ 6) ∧ (21 ≤ (19 : Int32).toInt % 51 → ((19 : Int32).toInt % 51 - 21) % 5 < 2 → 0 ≤ x12.toInt ∧ x12.toInt ≤ 5) := hJ.ldLed (by unfold li_led; omega) ex12 (by omega)
        refine li_icmp_le 62 dX12_lend_51 (by decide) (fun c13 => ?_) (fun c13 => ?_)
        · have tc13 : p4.toInt ≤ x12.toInt := tl_le c13
          refine li_bipush (-4) dX12_lend_62 (by decide) ?_
          have zm4 : ((-4) : Int32).toInt = -4 := rfl
          exact li_iret dX12_lend_64 rfl rfl ⟨⟨_, rfl⟩, hf, hJ⟩
        · have tc13 : x12.toInt < p4.toInt := tl_nle c13
          refine li_iload 4 dX12_lend_54 rfl ?_
          refine li_sipush 9999 dX12_lend_56 (by decide) ?_
          refine li_icmp_le 65 dX12_lend_59 (by decide) (fun c14 => ?_) (fun c14 => ?_)
          · have tc14 : p4.toInt ≤ 9999 := tl_le c14
            refine li_aload_n 0 dX12_lend_65 rfl ?_
            refine li_getr (k := 0) (N := 52) (T := TX12) (C0 := RX12) dX12_lend_66 (by decide) sh_175 rfl rfl (by decide) (by decide) li_in12 w_1404 ?_
            refine li_iload_n 1 dX12_lend_69 rfl ?_
            refine li_iald dX12_lend_70 (by decide) sh_176 (tl_in (by omega)) ?_
            refine li_top (fun x15 ex15 => ?_)
            have gx15 := tl_rg x15
            try (have ox15 : (p1 : Int32).toInt % 51 = (p1 : Int32).toInt := by omega)
            have lx15 : ((p1 : Int32).toInt % 51 = 20 → 0 ≤ x15.toInt ∧ x15.toInt ≤ 6) ∧ (21 ≤ (p1 : Int32).toInt % 51 → ((p1 : Int32).toInt % 51 - 21) % 5 < 2 → 0 ≤ x15.toInt ∧ x15.toInt ≤ 5) := hJ.ldLed (by unfold li_led; omega) ex15 (by omega)
            refine li_iload_n 3 dX12_lend_71 rfl ?_
            refine li_icmp_ge 78 dX12_lend_72 (by decide) (fun c16 => ?_) (fun c16 => ?_)
            · have tc16 : p3.toInt ≤ x15.toInt := tl_le c16
              refine li_aload_n 0 dX12_lend_78 rfl ?_
              refine li_aload_n 0 dX12_lend_79 rfl ?_
              refine li_getr (k := 0) (N := 52) (T := TX12) (C0 := RX12) dX12_lend_80 (by decide) sh_175 rfl rfl (by decide) (by decide) li_in12 w_1404 ?_
              refine li_callV (n := 1) (As := [.ref (Z.2.2 176)]) dX12_lend_83 (k_X12_remember_n (d - 1) (by omega)  M7 hJ ) (by omega) (Nat.le_of_ble_eq_true rfl) w_1741 w_1743 w_71 w_112 w_1744 (by decide +kernel) rfl (by decide) sh_175 rfl rfl (Nat.le_of_ble_eq_true rfl) (fun r M18 h19 => ?_)
              obtain ⟨rfl, h19, jM18⟩ := h19
              have hf := li_fs_trans hf h19 (fun i k => fun h => Or.elim h (fun h => Or.inr (Or.inl h)) (fun h => Or.inr (Or.inr (Or.inr h))))
              have hJ := jM18
              have rM18_1 := J_sl1 (M := M18) hJ
              have mM18_1 : (M18.1 175 1).toInt = (M7.1 175 1).toInt := tl_slot (h19.1 175 1 (show ¬ (175 = 186 ∨ (175 = 175 ∧ 1 = 23)) by decide))
              have aM18_176_20 : (M18.1 176 20).toInt = (M7.1 176 20).toInt := tl_slot (h19.1 176 (20) (show ¬ (176 = 186 ∨ (176 = 175 ∧ 20 = 23)) by decide))
              refine li_bipush 21 dX12_lend_86 (by decide) ?_
              refine li_iconst 5 dX12_lend_88 (by decide) ?_
              refine li_aload_n 0 dX12_lend_89 rfl ?_
              refine li_getr (k := 0) (N := 52) (T := TX12) (C0 := RX12) dX12_lend_90 (by decide) sh_175 rfl rfl (by decide) (by decide) li_in12 w_1404 ?_
              refine li_bipush 20 dX12_lend_93 (by decide) ?_
              have z20 : (20 : Int32).toInt = 20 := rfl
              refine li_iald dX12_lend_95 (by decide) sh_176 (tl_in (by omega)) ?_
              refine li_top (fun x20 ex20 => ?_)
              have gx20 := tl_rg x20
              have lx20 : ((20 : Int32).toInt % 51 = 20 → 0 ≤ x20.toInt ∧ x20.toInt ≤ 6) ∧ (21 ≤ (20 : Int32).toInt % 51 → ((20 : Int32).toInt % 51 - 21) % 5 < 2 → 0 ≤ x20.toInt ∧ x20.toInt ≤ 5) := hJ.ldLed (by unfold li_led; omega) ex20 (by omega)
              have bx20 : x20.toInt = (M18.1 176 20).toInt := tl_slot (ex20.trans (congrArg (M18.1 176) (by decide)))
              refine li_imul dX12_lend_96 ?_
              refine li_top (fun x21 ex21 => ?_)
              have z5 : (5 : Int32).toInt = 5 := rfl
              try (have tx21 : x21.toInt = 5 * (x20 : Int32).toInt := tl_mul ex21 (show -2147483648 ≤ 5 * (x20 : Int32).toInt ∧ 5 * (x20 : Int32).toInt ≤ 2147483647 by omega))
              refine li_iadd dX12_lend_97 ?_
              refine li_top (fun x22 ex22 => ?_)
              have z21 : (21 : Int32).toInt = 21 := rfl
              try (have tx22 : x22.toInt = (21 : Int32).toInt + (x21 : Int32).toInt := tl_add ex22 (by omega))
              refine li_istore [(5, .int x22), (0, .ref (Z.2.2 175)), (1, .int p1), (2, .int p2), (3, .int p3), (4, .int p4)] dX12_lend_98 (by decide) rfl ?_
              refine li_aload_n 1 dX12_lend_100 rfl ?_
              refine li_getr (k := 0) (N := 52) (T := TX12) (C0 := RX12) dX12_lend_101 (by decide) sh_175 rfl rfl (by decide) (by decide) li_in12 w_1404 ?_
              refine li_iload 0 dX12_lend_104 rfl ?_
              refine li_iload_n 2 dX12_lend_106 rfl ?_
              refine li_iast dX12_lend_107 (by decide) sh_176 (tl_in (by omega)) ?_
              refine li_nm (fun M23 eM23 => ?_)
              have hf := li_fs_ui hf (Or.inl rfl) eM23
              try (have oM23 : (x22 : Int32).toInt % 51 = (x22 : Int32).toInt := by omega)
              have hJ := hJ.st (by decide) (li_el_led (by unfold li_led; omega) (by omega) (show ((x22 : Int32).toInt % 51 = 20 → 0 ≤ (p1 : Int32).toInt ∧ (p1 : Int32).toInt ≤ 6) ∧ (21 ≤ (x22 : Int32).toInt % 51 → ((x22 : Int32).toInt % 51 - 21) % 5 < 2 → 0 ≤ (p1 : Int32).toInt ∧ (p1 : Int32).toInt ≤ 5) by omega)) eM23
              have rM23_1 := J_sl1 (M := M23) hJ
              have mM23_1 : (M23.1 175 1).toInt = (M18.1 175 1).toInt := by rw [eM23, li_ui_at, if_neg (by decide)]
              try (have aM23_176_20 : (M23.1 176 20).toInt = (M18.1 176 20).toInt := by rw [eM23, li_ui_at, if_pos rfl, if_neg (show ¬ (20 : Nat) = (x22 : Int32).toNatClampNeg by have h9 := li_cl (i := x22) (by omega); omega)])
              refine li_aload_n 1 dX12_lend_108 rfl ?_
              refine li_getr (k := 0) (N := 52) (T := TX12) (C0 := RX12) dX12_lend_109 (by decide) sh_175 rfl rfl (by decide) (by decide) li_in12 w_1404 ?_
              refine li_iload 0 dX12_lend_112 rfl ?_
              refine li_iconst 1 dX12_lend_114 (by decide) ?_
              refine li_iadd dX12_lend_115 ?_
              refine li_top (fun x24 ex24 => ?_)
              have z1 : (1 : Int32).toInt = 1 := rfl
              try (have tx24 : x24.toInt = (x22 : Int32).toInt + (1 : Int32).toInt := tl_add ex24 (by omega))
              refine li_iload_n 3 dX12_lend_116 rfl ?_
              refine li_iast dX12_lend_117 (by decide) sh_176 (tl_in (by omega)) ?_
              refine li_nm (fun M25 eM25 => ?_)
              have hf := li_fs_ui hf (Or.inl rfl) eM25
              try (have oM25 : (x24 : Int32).toInt % 51 = (x24 : Int32).toInt := by omega)
              have hJ := hJ.st (by decide) (li_el_led (by unfold li_led; omega) (by omega) (show ((x24 : Int32).toInt % 51 = 20 → 0 ≤ (p2 : Int32).toInt ∧ (p2 : Int32).toInt ≤ 6) ∧ (21 ≤ (x24 : Int32).toInt % 51 → ((x24 : Int32).toInt % 51 - 21) % 5 < 2 → 0 ≤ (p2 : Int32).toInt ∧ (p2 : Int32).toInt ≤ 5) by omega)) eM25
              have rM25_1 := J_sl1 (M := M25) hJ
              have mM25_1 : (M25.1 175 1).toInt = (M23.1 175 1).toInt := by rw [eM25, li_ui_at, if_neg (by decide)]
              try (have aM25_176_20 : (M25.1 176 20).toInt = (M23.1 176 20).toInt := by rw [eM25, li_ui_at, if_pos rfl, if_neg (show ¬ (20 : Nat) = (x24 : Int32).toNatClampNeg by have h9 := li_cl (i := x24) (by omega); omega)])
              refine li_aload_n 1 dX12_lend_118 rfl ?_
              refine li_getr (k := 0) (N := 52) (T := TX12) (C0 := RX12) dX12_lend_119 (by decide) sh_175 rfl rfl (by decide) (by decide) li_in12 w_1404 ?_
              refine li_iload 0 dX12_lend_122 rfl ?_
              refine li_iconst 2 dX12_lend_124 (by decide) ?_
              refine li_iadd dX12_lend_125 ?_
              refine li_top (fun x26 ex26 => ?_)
              have z2 : (2 : Int32).toInt = 2 := rfl
              try (have tx26 : x26.toInt = (x22 : Int32).toInt + (2 : Int32).toInt := tl_add ex26 (by omega))
              refine li_iload_n 4 dX12_lend_126 rfl ?_
              refine li_iast dX12_lend_127 (by decide) sh_176 (tl_in (by omega)) ?_
              refine li_nm (fun M27 eM27 => ?_)
              have hf := li_fs_ui hf (Or.inl rfl) eM27
              try (have oM27 : (x26 : Int32).toInt % 51 = (x26 : Int32).toInt := by omega)
              have hJ := hJ.st (by decide) (li_el_led (by unfold li_led; omega) (by omega) (show ((x26 : Int32).toInt % 51 = 20 → 0 ≤ (p3 : Int32).toInt ∧ (p3 : Int32).toInt ≤ 6) ∧ (21 ≤ (x26 : Int32).toInt % 51 → ((x26 : Int32).toInt % 51 - 21) % 5 < 2 → 0 ≤ (p3 : Int32).toInt ∧ (p3 : Int32).toInt ≤ 5) by omega)) eM27
              have rM27_1 := J_sl1 (M := M27) hJ
              have mM27_1 : (M27.1 175 1).toInt = (M25.1 175 1).toInt := by rw [eM27, li_ui_at, if_neg (by decide)]
              try (have aM27_176_20 : (M27.1 176 20).toInt = (M25.1 176 20).toInt := by rw [eM27, li_ui_at, if_pos rfl, if_neg (show ¬ (20 : Nat) = (x26 : Int32).toNatClampNeg by have h9 := li_cl (i := x26) (by omega); omega)])
              refine li_aload_n 1 dX12_lend_128 rfl ?_
              refine li_getr (k := 0) (N := 52) (T := TX12) (C0 := RX12) dX12_lend_129 (by decide) sh_175 rfl rfl (by decide) (by decide) li_in12 w_1404 ?_
              refine li_iload 0 dX12_lend_132 rfl ?_
              refine li_iconst 3 dX12_lend_134 (by decide) ?_
              refine li_iadd dX12_lend_135 ?_
              refine li_top (fun x28 ex28 => ?_)
              have z3 : (3 : Int32).toInt = 3 := rfl
              try (have tx28 : x28.toInt = (x22 : Int32).toInt + (3 : Int32).toInt := tl_add ex28 (by omega))
              refine li_iload 5 dX12_lend_136 rfl ?_
              refine li_iast dX12_lend_138 (by decide) sh_176 (tl_in (by omega)) ?_
              refine li_nm (fun M29 eM29 => ?_)
              have hf := li_fs_ui hf (Or.inl rfl) eM29
              try (have oM29 : (x28 : Int32).toInt % 51 = (x28 : Int32).toInt := by omega)
              have hJ := hJ.st (by decide) (li_el_led (by unfold li_led; omega) (by omega) (show ((x28 : Int32).toInt % 51 = 20 → 0 ≤ (p4 : Int32).toInt ∧ (p4 : Int32).toInt ≤ 6) ∧ (21 ≤ (x28 : Int32).toInt % 51 → ((x28 : Int32).toInt % 51 - 21) % 5 < 2 → 0 ≤ (p4 : Int32).toInt ∧ (p4 : Int32).toInt ≤ 5) by omega)) eM29
              have rM29_1 := J_sl1 (M := M29) hJ
              have mM29_1 : (M29.1 175 1).toInt = (M27.1 175 1).toInt := by rw [eM29, li_ui_at, if_neg (by decide)]
              try (have aM29_176_20 : (M29.1 176 20).toInt = (M27.1 176 20).toInt := by rw [eM29, li_ui_at, if_pos rfl, if_neg (show ¬ (20 : Nat) = (x28 : Int32).toNatClampNeg by have h9 := li_cl (i := x28) (by omega); omega)])
              refine li_aload_n 1 dX12_lend_139 rfl ?_
              refine li_getr (k := 0) (N := 52) (T := TX12) (C0 := RX12) dX12_lend_140 (by decide) sh_175 rfl rfl (by decide) (by decide) li_in12 w_1404 ?_
              refine li_iload 0 dX12_lend_143 rfl ?_
              refine li_iconst 4 dX12_lend_145 (by decide) ?_
              refine li_iadd dX12_lend_146 ?_
              refine li_top (fun x30 ex30 => ?_)
              have z4 : (4 : Int32).toInt = 4 := rfl
              try (have tx30 : x30.toInt = (x22 : Int32).toInt + (4 : Int32).toInt := tl_add ex30 (by omega))
              refine li_iconst 0 dX12_lend_147 (by decide) ?_
              have z0 : (0 : Int32).toInt = 0 := rfl
              refine li_iast dX12_lend_148 (by decide) sh_176 (tl_in (by omega)) ?_
              refine li_nm (fun M31 eM31 => ?_)
              have hf := li_fs_ui hf (Or.inl rfl) eM31
              try (have oM31 : (x30 : Int32).toInt % 51 = (x30 : Int32).toInt := by omega)
              have hJ := hJ.st (by decide) (li_el_led (by unfold li_led; omega) (by omega) (show ((x30 : Int32).toInt % 51 = 20 → 0 ≤ (0 : Int32).toInt ∧ (0 : Int32).toInt ≤ 6) ∧ (21 ≤ (x30 : Int32).toInt % 51 → ((x30 : Int32).toInt % 51 - 21) % 5 < 2 → 0 ≤ (0 : Int32).toInt ∧ (0 : Int32).toInt ≤ 5) by omega)) eM31
              have rM31_1 := J_sl1 (M := M31) hJ
              have mM31_1 : (M31.1 175 1).toInt = (M29.1 175 1).toInt := by rw [eM31, li_ui_at, if_neg (by decide)]
              try (have aM31_176_20 : (M31.1 176 20).toInt = (M29.1 176 20).toInt := by rw [eM31, li_ui_at, if_pos rfl, if_neg (show ¬ (20 : Nat) = (x30 : Int32).toNatClampNeg by have h9 := li_cl (i := x30) (by omega); omega)])
              refine li_aload_n 1 dX12_lend_149 rfl ?_
              refine li_getr (k := 0) (N := 52) (T := TX12) (C0 := RX12) dX12_lend_150 (by decide) sh_175 rfl rfl (by decide) (by decide) li_in12 w_1404 ?_
              refine li_bipush 20 dX12_lend_153 (by decide) ?_
              refine li_dup2 dX12_lend_155 rfl rfl ?_
              have z20 : (20 : Int32).toInt = 20 := rfl
              refine li_iald dX12_lend_156 (by decide) sh_176 (tl_in (by omega)) ?_
              refine li_top (fun x32 ex32 => ?_)
              have gx32 := tl_rg x32
              have lx32 : ((20 : Int32).toInt % 51 = 20 → 0 ≤ x32.toInt ∧ x32.toInt ≤ 6) ∧ (21 ≤ (20 : Int32).toInt % 51 → ((20 : Int32).toInt % 51 - 21) % 5 < 2 → 0 ≤ x32.toInt ∧ x32.toInt ≤ 5) := hJ.ldLed (by unfold li_led; omega) ex32 (by omega)
              have bx32 : x32.toInt = (M31.1 176 20).toInt := tl_slot (ex32.trans (congrArg (M31.1 176) (by decide)))
              refine li_iconst 1 dX12_lend_157 (by decide) ?_
              refine li_iadd dX12_lend_158 ?_
              refine li_top (fun x33 ex33 => ?_)
              have z1 : (1 : Int32).toInt = 1 := rfl
              try (have tx33 : x33.toInt = (x32 : Int32).toInt + (1 : Int32).toInt := tl_add ex33 (by omega))
              have z20 : (20 : Int32).toInt = 20 := rfl
              refine li_iast dX12_lend_159 (by decide) sh_176 (tl_in (by omega)) ?_
              refine li_nm (fun M34 eM34 => ?_)
              have hf := li_fs_ui hf (Or.inl rfl) eM34
              have hJ := hJ.st (by decide) (li_el_led (by unfold li_led; omega) (by omega) (show ((20 : Int32).toInt % 51 = 20 → 0 ≤ (x33 : Int32).toInt ∧ (x33 : Int32).toInt ≤ 6) ∧ (21 ≤ (20 : Int32).toInt % 51 → ((20 : Int32).toInt % 51 - 21) % 5 < 2 → 0 ≤ (x33 : Int32).toInt ∧ (x33 : Int32).toInt ≤ 5) by omega)) eM34
              have rM34_1 := J_sl1 (M := M34) hJ
              have mM34_1 : (M34.1 175 1).toInt = (M31.1 175 1).toInt := by rw [eM34, li_ui_at, if_neg (by decide)]
              try (have aM34_176_20 : (M34.1 176 20).toInt = (M31.1 176 20).toInt := by rw [eM34, li_ui_at, if_pos rfl, if_neg (show ¬ (20 : Nat) = (20 : Int32).toNatClampNeg by have h9 := li_cl (i := 20) (by omega); omega)])
              refine li_aload_n 1 dX12_lend_160 rfl ?_
              refine li_getr (k := 0) (N := 52) (T := TX12) (C0 := RX12) dX12_lend_161 (by decide) sh_175 rfl rfl (by decide) (by decide) li_in12 w_1404 ?_
              refine li_iload_n 2 dX12_lend_164 rfl ?_
              refine li_iload_n 3 dX12_lend_165 rfl ?_
              refine li_iload_n 4 dX12_lend_166 rfl ?_
              refine li_callS (n := 4) (As := [.ref (Z.2.2 176), .int p1, .int p2, .int p3]) dX12_lend_167 (k_X12_goGive (d - 1) (by omega) la_176 p1 p2 p3 M34 hJ (by omega) (by omega)) (by omega) (Nat.le_of_ble_eq_true rfl) w_1764 w_1765 w_112 w_1766 (by decide +kernel) rfl rfl (Nat.le_of_ble_eq_true rfl) (fun r M36 h37 => ?_)
              obtain ⟨⟨x35, rfl⟩, h37, jM36⟩ := h37
              have gx35 := tl_rg x35
              have hf := li_fs_trans hf h37 (fun i k => fun h => Or.inl h)
              have hJ := jM36
              have rM36_1 := J_sl1 (M := M36) hJ
              have mM36_1 : (M36.1 175 1).toInt = (M34.1 175 1).toInt := tl_slot (h37.1 175 1 (show ¬ (175 = 176) by decide))
              refine li_pop dX12_lend_170 rfl ?_
              refine li_aload_n 1 dX12_lend_171 rfl ?_
              refine li_getr (k := 0) (N := 52) (T := TX12) (C0 := RX12) dX12_lend_172 (by decide) sh_175 rfl rfl (by decide) (by decide) li_in12 w_1404 ?_
              refine li_bipush 20 dX12_lend_175 (by decide) ?_
              have z20 : (20 : Int32).toInt = 20 := rfl
              refine li_iald dX12_lend_177 (by decide) sh_176 (tl_in (by omega)) ?_
              refine li_top (fun x38 ex38 => ?_)
              have gx38 := tl_rg x38
              have lx38 : ((20 : Int32).toInt % 51 = 20 → 0 ≤ x38.toInt ∧ x38.toInt ≤ 6) ∧ (21 ≤ (20 : Int32).toInt % 51 → ((20 : Int32).toInt % 51 - 21) % 5 < 2 → 0 ≤ x38.toInt ∧ x38.toInt ≤ 5) := hJ.ldLed (by unfold li_led; omega) ex38 (by omega)
              have bx38 : x38.toInt = (M36.1 176 20).toInt := tl_slot (ex38.trans (congrArg (M36.1 176) (by decide)))
              refine li_iconst 1 dX12_lend_178 (by decide) ?_
              refine li_isub dX12_lend_179 ?_
              refine li_top (fun x39 ex39 => ?_)
              have z1 : (1 : Int32).toInt = 1 := rfl
              try (have tx39 : x39.toInt = (x38 : Int32).toInt - (1 : Int32).toInt := tl_sub ex39 (by omega))
              exact li_iret dX12_lend_180 rfl rfl ⟨⟨_, rfl⟩, hf, hJ⟩
            · have tc16 : x15.toInt < p3.toInt := tl_nle c16
              refine li_bipush (-2) dX12_lend_75 (by decide) ?_
              have zm2 : ((-2) : Int32).toInt = -2 := rfl
              exact li_iret dX12_lend_77 rfl rfl ⟨⟨_, rfl⟩, hf, hJ⟩
          · have tc14 : 9999 < p4.toInt := tl_nle c14
            refine li_bipush (-4) dX12_lend_62 (by decide) ?_
            have zm4 : ((-4) : Int32).toInt = -4 := rfl
            exact li_iret dX12_lend_64 rfl rfl ⟨⟨_, rfl⟩, hf, hJ⟩
      · have tc11 : x10.toInt = 6 := tl_eq c11
        refine li_bipush (-3) dX12_lend_39 (by decide) ?_
        have zm3 : ((-3) : Int32).toInt = -3 := rfl
        exact li_iret dX12_lend_41 rfl rfl ⟨⟨_, rfl⟩, hf, hJ⟩
    · skip
      refine li_if_ne 27 dX12_lend_22 (by decide) (fun c => absurd rfl c) (fun c => ?_)
      refine li_iconst (-1) dX12_lend_25 (by decide) ?_
      have zm1 : ((-1) : Int32).toInt = -1 := rfl
      exact li_iret dX12_lend_26 rfl rfl ⟨⟨_, rfl⟩, hf, hJ⟩
  · skip
    refine li_if_eq 25 dX12_lend_11 (by decide) (fun c => ?_) (fun c => absurd rfl c)
    refine li_iconst (-1) dX12_lend_25 (by decide) ?_
    have zm1 : ((-1) : Int32).toInt = -1 := rfl
    exact li_iret dX12_lend_26 rfl rfl ⟨⟨_, rfl⟩, hf, hJ⟩
