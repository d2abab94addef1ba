theorem w_80 : (Jvm.Cond.selects "ClockForTalkModel" ({ cls := "ClockForTalkModel", name := "layLeast", desc := "()V" } : Jvm.MethodName) ({ cls := "ClockForTalkModel", name := "layLeast", desc := "()V" } : Jvm.MethodName)) ∈ li_ws := li_mem 80 (by decide +kernel) (by decide +kernel)
theorem w_81 : (Jvm.Cond.selects "ClockForTalkModel" ({ cls := "ClockForTalkModel", name := "leastOf", desc := "([II)I" } : Jvm.MethodName) ({ cls := "ClockForTalkModel", name := "leastOf", desc := "([II)I" } : Jvm.MethodName)) ∈ li_ws := li_mem 81 (by decide +kernel) (by decide +kernel)
theorem w_82 : (Jvm.Cond.selects "ClockForTalkModel" ({ cls := "ClockForTalkModel", name := "thingsOf", desc := "(I)I" } : Jvm.MethodName) ({ cls := "ClockForTalkModel", name := "thingsOf", desc := "(I)I" } : Jvm.MethodName)) ∈ li_ws := li_mem 82 (by decide +kernel) (by decide +kernel)
theorem w_83 : (Jvm.Cond.selects "ClockForTalkModel" ({ cls := "ClockForTalkModel", name := "today", desc := "()I" } : Jvm.MethodName) ({ cls := "ClockForTalkModel", name := "today", desc := "()I" } : Jvm.MethodName)) ∈ li_ws := li_mem 83 (by decide +kernel) (by decide +kernel)
theorem w_84 : (Jvm.Cond.selects "ClockForTalkModel" ({ cls := "ClockForTalkModel", name := "bestSet", desc := "(II)I" } : Jvm.MethodName) ({ cls := "ClockForTalkModel", name := "bestSet", desc := "(II)I" } : Jvm.MethodName)) ∈ li_ws := li_mem 84 (by decide +kernel) (by decide +kernel)
theorem w_85 : (Jvm.Cond.selects "ClockForTalkModel" ({ cls := "ClockForTalkModel", name := "sumOf", desc := "(I)I" } : Jvm.MethodName) ({ cls := "ClockForTalkModel", name := "sumOf", desc := "(I)I" } : Jvm.MethodName)) ∈ li_ws := li_mem 85 (by decide +kernel) (by decide +kernel)
theorem w_86 : (Jvm.Cond.selects "ClockForTalkModel" ({ cls := "ClockForTalkModel", name := "worthOf", desc := "(I)I" } : Jvm.MethodName) ({ cls := "ClockForTalkModel", name := "worthOf", desc := "(I)I" } : Jvm.MethodName)) ∈ li_ws := li_mem 86 (by decide +kernel) (by decide +kernel)
theorem w_87 : (Jvm.Cond.selects "ClockForTalkModel" ({ cls := "ClockForTalkModel", name := "allClocks", desc := "()I" } : Jvm.MethodName) ({ cls := "ClockForTalkModel", name := "allClocks", desc := "()I" } : Jvm.MethodName)) ∈ li_ws := li_mem 87 (by decide +kernel) (by decide +kernel)
theorem w_1434 : (Jvm.Cond.fieldLink "ClockForTalkModel" (53 : Nat) "ClockForTalkModel" "line" "[I") ∈ li_ws := li_mem 1434 (by decide +kernel) (by decide +kernel)
theorem w_1435 : (Jvm.Cond.fieldLink "ClockForTalkModel" (56 : Nat) "ClockForTalkModel" "bestLine" "[I") ∈ li_ws := li_mem 1435 (by decide +kernel) (by decide +kernel)
theorem w_1436 : (Jvm.Cond.fieldLink "ClockForTalkModel" (345 : Nat) "ClockForTalkModel" "bestMany" "I") ∈ li_ws := li_mem 1436 (by decide +kernel) (by decide +kernel)
theorem w_1807 : (Jvm.Cond.methodLink "ClockForTalkModel" (330 : Nat) ({ cls := "ClockForTalkModel", name := "layLeast", desc := "()V" } : Jvm.MethodName)) ∈ li_ws := li_mem 1807 (by decide +kernel) (by decide +kernel)
theorem w_1809 : (Jvm.Cond.instanceMethod ({ cls := "ClockForTalkModel", name := "layLeast", desc := "()V" } : Jvm.MethodName)) ∈ li_ws := li_mem 1809 (by decide +kernel) (by decide +kernel)
theorem w_1810 : (Jvm.Cond.code ({ cls := "ClockForTalkModel", name := "layLeast", desc := "()V" } : Jvm.MethodName) prog_13_method_66_code (2 : Nat) (Option.none : Option Jvm.ClassFile.FieldType)) ∈ li_ws := li_mem 1810 (by decide +kernel) (by decide +kernel)
theorem w_1811 : (Jvm.Cond.methodLink "ClockForTalkModel" (321 : Nat) ({ cls := "ClockForTalkModel", name := "leastOf", desc := "([II)I" } : Jvm.MethodName)) ∈ li_ws := li_mem 1811 (by decide +kernel) (by decide +kernel)
theorem w_1813 : (Jvm.Cond.instanceMethod ({ cls := "ClockForTalkModel", name := "leastOf", desc := "([II)I" } : Jvm.MethodName)) ∈ li_ws := li_mem 1813 (by decide +kernel) (by decide +kernel)
theorem w_1814 : (Jvm.Cond.code ({ cls := "ClockForTalkModel", name := "leastOf", desc := "([II)I" } : Jvm.MethodName) prog_13_method_40_code (3 : Nat) (Option.some Jvm.ClassFile.FieldType.int)) ∈ li_ws := li_mem 1814 (by decide +kernel) (by decide +kernel)
theorem w_1815 : (Jvm.Cond.methodLink "ClockForTalkModel" (333 : Nat) ({ cls := "ClockForTalkModel", name := "thingsOf", desc := "(I)I" } : Jvm.MethodName)) ∈ li_ws := li_mem 1815 (by decide +kernel) (by decide +kernel)
theorem w_1817 : (Jvm.Cond.instanceMethod ({ cls := "ClockForTalkModel", name := "thingsOf", desc := "(I)I" } : Jvm.MethodName)) ∈ li_ws := li_mem 1817 (by decide +kernel) (by decide +kernel)
theorem w_1818 : (Jvm.Cond.code ({ cls := "ClockForTalkModel", name := "thingsOf", desc := "(I)I" } : Jvm.MethodName) prog_13_method_69_code (4 : Nat) (Option.some Jvm.ClassFile.FieldType.int)) ∈ li_ws := li_mem 1818 (by decide +kernel) (by decide +kernel)
theorem w_1819 : (Jvm.Cond.methodLink "ClockForTalkModel" (336 : Nat) ({ cls := "ClockForTalkModel", name := "today", desc := "()I" } : Jvm.MethodName)) ∈ li_ws := li_mem 1819 (by decide +kernel) (by decide +kernel)
theorem w_1821 : (Jvm.Cond.instanceMethod ({ cls := "ClockForTalkModel", name := "today", desc := "()I" } : Jvm.MethodName)) ∈ li_ws := li_mem 1821 (by decide +kernel) (by decide +kernel)
theorem w_1822 : (Jvm.Cond.code ({ cls := "ClockForTalkModel", name := "today", desc := "()I" } : Jvm.MethodName) prog_13_method_42_code (3 : Nat) (Option.some Jvm.ClassFile.FieldType.int)) ∈ li_ws := li_mem 1822 (by decide +kernel) (by decide +kernel)
theorem w_1823 : (Jvm.Cond.methodLink "ClockForTalkModel" (339 : Nat) ({ cls := "ClockForTalkModel", name := "bestSet", desc := "(II)I" } : Jvm.MethodName)) ∈ li_ws := li_mem 1823 (by decide +kernel) (by decide +kernel)
theorem w_1825 : (Jvm.Cond.instanceMethod ({ cls := "ClockForTalkModel", name := "bestSet", desc := "(II)I" } : Jvm.MethodName)) ∈ li_ws := li_mem 1825 (by decide +kernel) (by decide +kernel)
theorem w_1826 : (Jvm.Cond.code ({ cls := "ClockForTalkModel", name := "bestSet", desc := "(II)I" } : Jvm.MethodName) prog_13_method_70_code (5 : Nat) (Option.some Jvm.ClassFile.FieldType.int)) ∈ li_ws := li_mem 1826 (by decide +kernel) (by decide +kernel)
theorem w_1827 : (Jvm.Cond.methodLink "ClockForTalkModel" (324 : Nat) ({ cls := "ClockForTalkModel", name := "sumOf", desc := "(I)I" } : Jvm.MethodName)) ∈ li_ws := li_mem 1827 (by decide +kernel) (by decide +kernel)
theorem w_1829 : (Jvm.Cond.instanceMethod ({ cls := "ClockForTalkModel", name := "sumOf", desc := "(I)I" } : Jvm.MethodName)) ∈ li_ws := li_mem 1829 (by decide +kernel) (by decide +kernel)
theorem w_1830 : (Jvm.Cond.code ({ cls := "ClockForTalkModel", name := "sumOf", desc := "(I)I" } : Jvm.MethodName) prog_13_method_67_code (4 : Nat) (Option.some Jvm.ClassFile.FieldType.int)) ∈ li_ws := li_mem 1830 (by decide +kernel) (by decide +kernel)
theorem w_1831 : (Jvm.Cond.methodLink "ClockForTalkModel" (327 : Nat) ({ cls := "ClockForTalkModel", name := "worthOf", desc := "(I)I" } : Jvm.MethodName)) ∈ li_ws := li_mem 1831 (by decide +kernel) (by decide +kernel)
theorem w_1833 : (Jvm.Cond.instanceMethod ({ cls := "ClockForTalkModel", name := "worthOf", desc := "(I)I" } : Jvm.MethodName)) ∈ li_ws := li_mem 1833 (by decide +kernel) (by decide +kernel)
theorem w_1834 : (Jvm.Cond.code ({ cls := "ClockForTalkModel", name := "worthOf", desc := "(I)I" } : Jvm.MethodName) prog_13_method_68_code (4 : Nat) (Option.some Jvm.ClassFile.FieldType.int)) ∈ li_ws := li_mem 1834 (by decide +kernel) (by decide +kernel)
theorem w_1843 : (Jvm.Cond.methodLink "ClockForTalkModel" (342 : Nat) ({ cls := "ClockForTalkModel", name := "allClocks", desc := "()I" } : Jvm.MethodName)) ∈ li_ws := li_mem 1843 (by decide +kernel) (by decide +kernel)
theorem w_1845 : (Jvm.Cond.instanceMethod ({ cls := "ClockForTalkModel", name := "allClocks", desc := "()I" } : Jvm.MethodName)) ∈ li_ws := li_mem 1845 (by decide +kernel) (by decide +kernel)
theorem w_1846 : (Jvm.Cond.code ({ cls := "ClockForTalkModel", name := "allClocks", desc := "()I" } : Jvm.MethodName) prog_13_method_73_code (3 : Nat) (Option.some Jvm.ClassFile.FieldType.int)) ∈ li_ws := li_mem 1846 (by decide +kernel) (by decide +kernel)
theorem dX12_layLeast_0 : decode cX12_layLeast 0 = .ok (.iconst 0, 1) := by decide +kernel
theorem dX12_layLeast_1 : decode cX12_layLeast 1 = .ok (.istore_n 1, 1) := by decide +kernel
theorem dX12_layLeast_2 : decode cX12_layLeast 2 = .ok (.iload_n 1, 1) := by decide +kernel
theorem dX12_layLeast_3 : decode cX12_layLeast 3 = .ok (.aload_n 0, 1) := by decide +kernel
theorem dX12_layLeast_4 : decode cX12_layLeast 4 = .ok (.getfield 121, 3) := by decide +kernel
theorem dX12_layLeast_7 : decode cX12_layLeast 7 = .ok (.if_icmp .ge 24, 3) := by decide +kernel
theorem dX12_layLeast_10 : decode cX12_layLeast 10 = .ok (.aload_n 0, 1) := by decide +kernel
theorem dX12_layLeast_11 : decode cX12_layLeast 11 = .ok (.getfield 50, 3) := by decide +kernel
theorem dX12_layLeast_14 : decode cX12_layLeast 14 = .ok (.iload_n 1, 1) := by decide +kernel
theorem dX12_layLeast_15 : decode cX12_layLeast 15 = .ok (.aload_n 0, 1) := by decide +kernel
theorem dX12_layLeast_16 : decode cX12_layLeast 16 = .ok (.aload_n 0, 1) := by decide +kernel
theorem dX12_layLeast_17 : decode cX12_layLeast 17 = .ok (.getfield 9, 3) := by decide +kernel
theorem dX12_layLeast_20 : decode cX12_layLeast 20 = .ok (.iload_n 1, 1) := by decide +kernel
theorem dX12_layLeast_21 : decode cX12_layLeast 21 = .ok (.invokevirtual 321, 3) := by decide +kernel
theorem dX12_layLeast_24 : decode cX12_layLeast 24 = .ok (.iastore, 1) := by decide +kernel
theorem dX12_layLeast_25 : decode cX12_layLeast 25 = .ok (.iinc 1 1, 3) := by decide +kernel
theorem dX12_layLeast_28 : decode cX12_layLeast 28 = .ok (.goto (-26), 3) := by decide +kernel
theorem dX12_layLeast_31 : decode cX12_layLeast 31 = .ok (.return_, 1) := by decide +kernel
abbrev YX12_layLeast : li_Y := (yX12_layLeast, cX12_layLeast, 2, none)
theorem dX12_bestSet_0 : decode cX12_bestSet 0 = .ok (.iconst 0, 1) := by decide +kernel
theorem dX12_bestSet_1 : decode cX12_bestSet 1 = .ok (.istore_n 3, 1) := by decide +kernel
theorem dX12_bestSet_2 : decode cX12_bestSet 2 = .ok (.iconst 1, 1) := by decide +kernel
theorem dX12_bestSet_3 : decode cX12_bestSet 3 = .ok (.istore 4, 2) := by decide +kernel
theorem dX12_bestSet_5 : decode cX12_bestSet 5 = .ok (.iload 4, 2) := by decide +kernel
theorem dX12_bestSet_7 : decode cX12_bestSet 7 = .ok (.iload_n 1, 1) := by decide +kernel
theorem dX12_bestSet_8 : decode cX12_bestSet 8 = .ok (.if_icmp .gt 76, 3) := by decide +kernel
theorem dX12_bestSet_11 : decode cX12_bestSet 11 = .ok (.iload 4, 2) := by decide +kernel
theorem dX12_bestSet_13 : decode cX12_bestSet 13 = .ok (.iload_n 1, 1) := by decide +kernel
theorem dX12_bestSet_14 : decode cX12_bestSet 14 = .ok (.iconst (-1), 1) := by decide +kernel
theorem dX12_bestSet_15 : decode cX12_bestSet 15 = .ok (.ixor, 1) := by decide +kernel
theorem dX12_bestSet_16 : decode cX12_bestSet 16 = .ok (.iand, 1) := by decide +kernel
theorem dX12_bestSet_17 : decode cX12_bestSet 17 = .ok (.ifCond .ne 61, 3) := by decide +kernel
theorem dX12_bestSet_20 : decode cX12_bestSet 20 = .ok (.aload_n 0, 1) := by decide +kernel
theorem dX12_bestSet_21 : decode cX12_bestSet 21 = .ok (.iload 4, 2) := by decide +kernel
theorem dX12_bestSet_23 : decode cX12_bestSet 23 = .ok (.invokevirtual 324, 3) := by decide +kernel
theorem dX12_bestSet_26 : decode cX12_bestSet 26 = .ok (.iload_n 2, 1) := by decide +kernel
theorem dX12_bestSet_27 : decode cX12_bestSet 27 = .ok (.if_icmp .gt 51, 3) := by decide +kernel
theorem dX12_bestSet_30 : decode cX12_bestSet 30 = .ok (.aload_n 0, 1) := by decide +kernel
theorem dX12_bestSet_31 : decode cX12_bestSet 31 = .ok (.iload 4, 2) := by decide +kernel
theorem dX12_bestSet_33 : decode cX12_bestSet 33 = .ok (.invokevirtual 327, 3) := by decide +kernel
theorem dX12_bestSet_36 : decode cX12_bestSet 36 = .ok (.aload_n 0, 1) := by decide +kernel
theorem dX12_bestSet_37 : decode cX12_bestSet 37 = .ok (.iload_n 3, 1) := by decide +kernel
theorem dX12_bestSet_38 : decode cX12_bestSet 38 = .ok (.invokevirtual 327, 3) := by decide +kernel
theorem dX12_bestSet_41 : decode cX12_bestSet 41 = .ok (.if_icmp .ge 6, 3) := by decide +kernel
theorem dX12_bestSet_44 : decode cX12_bestSet 44 = .ok (.goto 34, 3) := by decide +kernel
theorem dX12_bestSet_47 : decode cX12_bestSet 47 = .ok (.aload_n 0, 1) := by decide +kernel
theorem dX12_bestSet_48 : decode cX12_bestSet 48 = .ok (.iload 4, 2) := by decide +kernel
theorem dX12_bestSet_50 : decode cX12_bestSet 50 = .ok (.invokevirtual 327, 3) := by decide +kernel
theorem dX12_bestSet_53 : decode cX12_bestSet 53 = .ok (.aload_n 0, 1) := by decide +kernel
theorem dX12_bestSet_54 : decode cX12_bestSet 54 = .ok (.iload_n 3, 1) := by decide +kernel
theorem dX12_bestSet_55 : decode cX12_bestSet 55 = .ok (.invokevirtual 327, 3) := by decide +kernel
theorem dX12_bestSet_58 : decode cX12_bestSet 58 = .ok (.if_icmp .gt 17, 3) := by decide +kernel
theorem dX12_bestSet_61 : decode cX12_bestSet 61 = .ok (.aload_n 0, 1) := by decide +kernel
theorem dX12_bestSet_62 : decode cX12_bestSet 62 = .ok (.iload 4, 2) := by decide +kernel
theorem dX12_bestSet_64 : decode cX12_bestSet 64 = .ok (.invokevirtual 324, 3) := by decide +kernel
theorem dX12_bestSet_67 : decode cX12_bestSet 67 = .ok (.aload_n 0, 1) := by decide +kernel
theorem dX12_bestSet_68 : decode cX12_bestSet 68 = .ok (.iload_n 3, 1) := by decide +kernel
theorem dX12_bestSet_69 : decode cX12_bestSet 69 = .ok (.invokevirtual 324, 3) := by decide +kernel
theorem dX12_bestSet_72 : decode cX12_bestSet 72 = .ok (.if_icmp .ge 6, 3) := by decide +kernel
theorem dX12_bestSet_75 : decode cX12_bestSet 75 = .ok (.iload 4, 2) := by decide +kernel
theorem dX12_bestSet_77 : decode cX12_bestSet 77 = .ok (.istore_n 3, 1) := by decide +kernel
theorem dX12_bestSet_78 : decode cX12_bestSet 78 = .ok (.iinc 4 1, 3) := by decide +kernel
theorem dX12_bestSet_81 : decode cX12_bestSet 81 = .ok (.goto (-76), 3) := by decide +kernel
theorem dX12_bestSet_84 : decode cX12_bestSet 84 = .ok (.iload_n 3, 1) := by decide +kernel
theorem dX12_bestSet_85 : decode cX12_bestSet 85 = .ok (.ireturn, 1) := by decide +kernel
abbrev YX12_bestSet : li_Y := (yX12_bestSet, cX12_bestSet, 5, (some .int))
theorem dX12_best_0 : decode cX12_best 0 = .ok (.aload_n 0, 1) := by decide +kernel
theorem dX12_best_1 : decode cX12_best 1 = .ok (.iconst 0, 1) := by decide +kernel
theorem dX12_best_2 : decode cX12_best 2 = .ok (.putfield 103, 3) := by decide +kernel
theorem dX12_best_5 : decode cX12_best 5 = .ok (.aload_n 0, 1) := by decide +kernel
theorem dX12_best_6 : decode cX12_best 6 = .ok (.iload_n 1, 1) := by decide +kernel
theorem dX12_best_7 : decode cX12_best 7 = .ok (.invokevirtual 117, 3) := by decide +kernel
theorem dX12_best_10 : decode cX12_best 10 = .ok (.ifCond .ne 5, 3) := by decide +kernel
theorem dX12_best_13 : decode cX12_best 13 = .ok (.iconst (-1), 1) := by decide +kernel
theorem dX12_best_14 : decode cX12_best 14 = .ok (.ireturn, 1) := by decide +kernel
theorem dX12_best_15 : decode cX12_best 15 = .ok (.aload_n 0, 1) := by decide +kernel
theorem dX12_best_16 : decode cX12_best 16 = .ok (.invokevirtual 330, 3) := by decide +kernel
theorem dX12_best_19 : decode cX12_best 19 = .ok (.aload_n 0, 1) := by decide +kernel
theorem dX12_best_20 : decode cX12_best 20 = .ok (.aload_n 0, 1) := by decide +kernel
theorem dX12_best_21 : decode cX12_best 21 = .ok (.iload_n 1, 1) := by decide +kernel
theorem dX12_best_22 : decode cX12_best 22 = .ok (.invokevirtual 333, 3) := by decide +kernel
theorem dX12_best_25 : decode cX12_best 25 = .ok (.aload_n 0, 1) := by decide +kernel
theorem dX12_best_26 : decode cX12_best 26 = .ok (.invokevirtual 336, 3) := by decide +kernel
theorem dX12_best_29 : decode cX12_best 29 = .ok (.iand, 1) := by decide +kernel
theorem dX12_best_30 : decode cX12_best 30 = .ok (.aload_n 0, 1) := by decide +kernel
theorem dX12_best_31 : decode cX12_best 31 = .ok (.getfield 9, 3) := by decide +kernel
theorem dX12_best_34 : decode cX12_best 34 = .ok (.iload_n 1, 1) := by decide +kernel
theorem dX12_best_35 : decode cX12_best 35 = .ok (.iaload, 1) := by decide +kernel
theorem dX12_best_36 : decode cX12_best 36 = .ok (.invokevirtual 339, 3) := by decide +kernel
theorem dX12_best_39 : decode cX12_best 39 = .ok (.istore_n 2, 1) := by decide +kernel
theorem dX12_best_40 : decode cX12_best 40 = .ok (.aload_n 0, 1) := by decide +kernel
theorem dX12_best_41 : decode cX12_best 41 = .ok (.iconst 0, 1) := by decide +kernel
theorem dX12_best_42 : decode cX12_best 42 = .ok (.putfield 107, 3) := by decide +kernel
theorem dX12_best_45 : decode cX12_best 45 = .ok (.aload_n 0, 1) := by decide +kernel
theorem dX12_best_46 : decode cX12_best 46 = .ok (.iload_n 2, 1) := by decide +kernel
theorem dX12_best_47 : decode cX12_best 47 = .ok (.invokevirtual 308, 3) := by decide +kernel
theorem dX12_best_50 : decode cX12_best 50 = .ok (.aload_n 0, 1) := by decide +kernel
theorem dX12_best_51 : decode cX12_best 51 = .ok (.aload_n 0, 1) := by decide +kernel
theorem dX12_best_52 : decode cX12_best 52 = .ok (.iload_n 2, 1) := by decide +kernel
theorem dX12_best_53 : decode cX12_best 53 = .ok (.invokevirtual 324, 3) := by decide +kernel
theorem dX12_best_56 : decode cX12_best 56 = .ok (.invokevirtual 308, 3) := by decide +kernel
theorem dX12_best_59 : decode cX12_best 59 = .ok (.aload_n 0, 1) := by decide +kernel
theorem dX12_best_60 : decode cX12_best 60 = .ok (.iload_n 2, 1) := by decide +kernel
theorem dX12_best_61 : decode cX12_best 61 = .ok (.invokevirtual 327, 3) := by decide +kernel
theorem dX12_best_64 : decode cX12_best 64 = .ok (.ireturn, 1) := by decide +kernel
abbrev YX12_best : li_Y := (yX12_best, cX12_best, 3, (some .int))
theorem dX12_lacks_0 : decode cX12_lacks 0 = .ok (.aload_n 0, 1) := by decide +kernel
theorem dX12_lacks_1 : decode cX12_lacks 1 = .ok (.iconst 0, 1) := by decide +kernel
theorem dX12_lacks_2 : decode cX12_lacks 2 = .ok (.putfield 103, 3) := by decide +kernel
theorem dX12_lacks_5 : decode cX12_lacks 5 = .ok (.aload_n 0, 1) := by decide +kernel
theorem dX12_lacks_6 : decode cX12_lacks 6 = .ok (.iload_n 1, 1) := by decide +kernel
theorem dX12_lacks_7 : decode cX12_lacks 7 = .ok (.invokevirtual 117, 3) := by decide +kernel
theorem dX12_lacks_10 : decode cX12_lacks 10 = .ok (.ifCond .ne 5, 3) := by decide +kernel
theorem dX12_lacks_13 : decode cX12_lacks 13 = .ok (.iconst (-1), 1) := by decide +kernel
theorem dX12_lacks_14 : decode cX12_lacks 14 = .ok (.ireturn, 1) := by decide +kernel
theorem dX12_lacks_15 : decode cX12_lacks 15 = .ok (.aload_n 0, 1) := by decide +kernel
theorem dX12_lacks_16 : decode cX12_lacks 16 = .ok (.invokevirtual 330, 3) := by decide +kernel
theorem dX12_lacks_19 : decode cX12_lacks 19 = .ok (.aload_n 0, 1) := by decide +kernel
theorem dX12_lacks_20 : decode cX12_lacks 20 = .ok (.iload_n 1, 1) := by decide +kernel
theorem dX12_lacks_21 : decode cX12_lacks 21 = .ok (.invokevirtual 333, 3) := by decide +kernel
theorem dX12_lacks_24 : decode cX12_lacks 24 = .ok (.aload_n 0, 1) := by decide +kernel
theorem dX12_lacks_25 : decode cX12_lacks 25 = .ok (.invokevirtual 336, 3) := by decide +kernel
theorem dX12_lacks_28 : decode cX12_lacks 28 = .ok (.iand, 1) := by decide +kernel
theorem dX12_lacks_29 : decode cX12_lacks 29 = .ok (.istore_n 2, 1) := by decide +kernel
theorem dX12_lacks_30 : decode cX12_lacks 30 = .ok (.aload_n 0, 1) := by decide +kernel
theorem dX12_lacks_31 : decode cX12_lacks 31 = .ok (.iconst 0, 1) := by decide +kernel
theorem dX12_lacks_32 : decode cX12_lacks 32 = .ok (.putfield 107, 3) := by decide +kernel
theorem dX12_lacks_35 : decode cX12_lacks 35 = .ok (.aload_n 0, 1) := by decide +kernel
theorem dX12_lacks_36 : decode cX12_lacks 36 = .ok (.aload_n 0, 1) := by decide +kernel
theorem dX12_lacks_37 : decode cX12_lacks 37 = .ok (.iload_n 2, 1) := by decide +kernel
theorem dX12_lacks_38 : decode cX12_lacks 38 = .ok (.invokevirtual 324, 3) := by decide +kernel
theorem dX12_lacks_41 : decode cX12_lacks 41 = .ok (.invokevirtual 308, 3) := by decide +kernel
theorem dX12_lacks_44 : decode cX12_lacks 44 = .ok (.aload_n 0, 1) := by decide +kernel
theorem dX12_lacks_45 : decode cX12_lacks 45 = .ok (.iload_n 2, 1) := by decide +kernel
theorem dX12_lacks_46 : decode cX12_lacks 46 = .ok (.invokestatic 226, 3) := by decide +kernel
theorem dX12_lacks_49 : decode cX12_lacks 49 = .ok (.invokevirtual 308, 3) := by decide +kernel
theorem dX12_lacks_52 : decode cX12_lacks 52 = .ok (.iconst 0, 1) := by decide +kernel
theorem dX12_lacks_53 : decode cX12_lacks 53 = .ok (.aload_n 0, 1) := by decide +kernel
theorem dX12_lacks_54 : decode cX12_lacks 54 = .ok (.iload_n 2, 1) := by decide +kernel
theorem dX12_lacks_55 : decode cX12_lacks 55 = .ok (.invokevirtual 324, 3) := by decide +kernel
theorem dX12_lacks_58 : decode cX12_lacks 58 = .ok (.aload_n 0, 1) := by decide +kernel
theorem dX12_lacks_59 : decode cX12_lacks 59 = .ok (.getfield 9, 3) := by decide +kernel
theorem dX12_lacks_62 : decode cX12_lacks 62 = .ok (.iload_n 1, 1) := by decide +kernel
theorem dX12_lacks_63 : decode cX12_lacks 63 = .ok (.iaload, 1) := by decide +kernel
theorem dX12_lacks_64 : decode cX12_lacks 64 = .ok (.isub, 1) := by decide +kernel
theorem dX12_lacks_65 : decode cX12_lacks 65 = .ok (.invokestatic 82, 3) := by decide +kernel
theorem dX12_lacks_68 : decode cX12_lacks 68 = .ok (.ireturn, 1) := by decide +kernel
abbrev YX12_lacks : li_Y := (yX12_lacks, cX12_lacks, 3, (some .int))
theorem dX12_pool_0 : decode cX12_pool 0 = .ok (.aload_n 0, 1) := by decide +kernel
theorem dX12_pool_1 : decode cX12_pool 1 = .ok (.iconst 0, 1) := by decide +kernel
theorem dX12_pool_2 : decode cX12_pool 2 = .ok (.putfield 103, 3) := by decide +kernel
theorem dX12_pool_5 : decode cX12_pool 5 = .ok (.aload_n 0, 1) := by decide +kernel
theorem dX12_pool_6 : decode cX12_pool 6 = .ok (.invokevirtual 330, 3) := by decide +kernel
theorem dX12_pool_9 : decode cX12_pool 9 = .ok (.aload_n 0, 1) := by decide +kernel
theorem dX12_pool_10 : decode cX12_pool 10 = .ok (.aload_n 0, 1) := by decide +kernel
theorem dX12_pool_11 : decode cX12_pool 11 = .ok (.invokevirtual 336, 3) := by decide +kernel
theorem dX12_pool_14 : decode cX12_pool 14 = .ok (.aload_n 0, 1) := by decide +kernel
theorem dX12_pool_15 : decode cX12_pool 15 = .ok (.invokevirtual 342, 3) := by decide +kernel
theorem dX12_pool_18 : decode cX12_pool 18 = .ok (.invokevirtual 339, 3) := by decide +kernel
theorem dX12_pool_21 : decode cX12_pool 21 = .ok (.istore_n 1, 1) := by decide +kernel
theorem dX12_pool_22 : decode cX12_pool 22 = .ok (.aload_n 0, 1) := by decide +kernel
theorem dX12_pool_23 : decode cX12_pool 23 = .ok (.iconst 0, 1) := by decide +kernel
theorem dX12_pool_24 : decode cX12_pool 24 = .ok (.putfield 107, 3) := by decide +kernel
theorem dX12_pool_27 : decode cX12_pool 27 = .ok (.aload_n 0, 1) := by decide +kernel
theorem dX12_pool_28 : decode cX12_pool 28 = .ok (.iload_n 1, 1) := by decide +kernel
theorem dX12_pool_29 : decode cX12_pool 29 = .ok (.invokevirtual 308, 3) := by decide +kernel
theorem dX12_pool_32 : decode cX12_pool 32 = .ok (.aload_n 0, 1) := by decide +kernel
theorem dX12_pool_33 : decode cX12_pool 33 = .ok (.aload_n 0, 1) := by decide +kernel
theorem dX12_pool_34 : decode cX12_pool 34 = .ok (.iload_n 1, 1) := by decide +kernel
theorem dX12_pool_35 : decode cX12_pool 35 = .ok (.invokevirtual 324, 3) := by decide +kernel
theorem dX12_pool_38 : decode cX12_pool 38 = .ok (.invokevirtual 308, 3) := by decide +kernel
theorem dX12_pool_41 : decode cX12_pool 41 = .ok (.aload_n 0, 1) := by decide +kernel
theorem dX12_pool_42 : decode cX12_pool 42 = .ok (.iload_n 1, 1) := by decide +kernel
theorem dX12_pool_43 : decode cX12_pool 43 = .ok (.invokevirtual 327, 3) := by decide +kernel
theorem dX12_pool_46 : decode cX12_pool 46 = .ok (.ireturn, 1) := by decide +kernel
abbrev YX12_pool : li_Y := (yX12_pool, cX12_pool, 2, (some .int))
theorem dX12_gifts_0 : decode cX12_gifts 0 = .ok (.aload_n 0, 1) := by decide +kernel
theorem dX12_gifts_1 : decode cX12_gifts 1 = .ok (.iconst 0, 1) := by decide +kernel
theorem dX12_gifts_2 : decode cX12_gifts 2 = .ok (.putfield 103, 3) := by decide +kernel
theorem dX12_gifts_5 : decode cX12_gifts 5 = .ok (.iload_n 1, 1) := by decide +kernel
theorem dX12_gifts_6 : decode cX12_gifts 6 = .ok (.iconst 0, 1) := by decide +kernel
theorem dX12_gifts_7 : decode cX12_gifts 7 = .ok (.iconst 1, 1) := by decide +kernel
theorem dX12_gifts_8 : decode cX12_gifts 8 = .ok (.aload_n 0, 1) := by decide +kernel
theorem dX12_gifts_9 : decode cX12_gifts 9 = .ok (.getfield 121, 3) := by decide +kernel
theorem dX12_gifts_12 : decode cX12_gifts 12 = .ok (.ishl, 1) := by decide +kernel
theorem dX12_gifts_13 : decode cX12_gifts 13 = .ok (.iconst 1, 1) := by decide +kernel
theorem dX12_gifts_14 : decode cX12_gifts 14 = .ok (.isub, 1) := by decide +kernel
theorem dX12_gifts_15 : decode cX12_gifts 15 = .ok (.invokestatic 113, 3) := by decide +kernel
theorem dX12_gifts_18 : decode cX12_gifts 18 = .ok (.ifCond .ne 5, 3) := by decide +kernel
theorem dX12_gifts_21 : decode cX12_gifts 21 = .ok (.iconst (-1), 1) := by decide +kernel
theorem dX12_gifts_22 : decode cX12_gifts 22 = .ok (.ireturn, 1) := by decide +kernel
theorem dX12_gifts_23 : decode cX12_gifts 23 = .ok (.aload_n 0, 1) := by decide +kernel
theorem dX12_gifts_24 : decode cX12_gifts 24 = .ok (.invokevirtual 330, 3) := by decide +kernel
theorem dX12_gifts_27 : decode cX12_gifts 27 = .ok (.iload_n 1, 1) := by decide +kernel
theorem dX12_gifts_28 : decode cX12_gifts 28 = .ok (.aload_n 0, 1) := by decide +kernel
theorem dX12_gifts_29 : decode cX12_gifts 29 = .ok (.invokevirtual 336, 3) := by decide +kernel
theorem dX12_gifts_32 : decode cX12_gifts 32 = .ok (.iconst (-1), 1) := by decide +kernel
theorem dX12_gifts_33 : decode cX12_gifts 33 = .ok (.ixor, 1) := by decide +kernel
theorem dX12_gifts_34 : decode cX12_gifts 34 = .ok (.iand, 1) := by decide +kernel
theorem dX12_gifts_35 : decode cX12_gifts 35 = .ok (.ifCond .ne 15, 3) := by decide +kernel
theorem dX12_gifts_38 : decode cX12_gifts 38 = .ok (.aload_n 0, 1) := by decide +kernel
theorem dX12_gifts_39 : decode cX12_gifts 39 = .ok (.iload_n 1, 1) := by decide +kernel
theorem dX12_gifts_40 : decode cX12_gifts 40 = .ok (.invokevirtual 324, 3) := by decide +kernel
theorem dX12_gifts_43 : decode cX12_gifts 43 = .ok (.aload_n 0, 1) := by decide +kernel
theorem dX12_gifts_44 : decode cX12_gifts 44 = .ok (.invokevirtual 342, 3) := by decide +kernel
theorem dX12_gifts_47 : decode cX12_gifts 47 = .ok (.if_icmp .le 6, 3) := by decide +kernel
theorem dX12_gifts_50 : decode cX12_gifts 50 = .ok (.bipush (-2), 2) := by decide +kernel
theorem dX12_gifts_52 : decode cX12_gifts 52 = .ok (.ireturn, 1) := by decide +kernel
theorem dX12_gifts_53 : decode cX12_gifts 53 = .ok (.iconst 0, 1) := by decide +kernel
theorem dX12_gifts_54 : decode cX12_gifts 54 = .ok (.istore_n 2, 1) := by decide +kernel
theorem dX12_gifts_55 : decode cX12_gifts 55 = .ok (.iconst 0, 1) := by decide +kernel
theorem dX12_gifts_56 : decode cX12_gifts 56 = .ok (.istore_n 3, 1) := by decide +kernel
theorem dX12_gifts_57 : decode cX12_gifts 57 = .ok (.iconst 0, 1) := by decide +kernel
theorem dX12_gifts_58 : decode cX12_gifts 58 = .ok (.istore 4, 2) := by decide +kernel
theorem dX12_gifts_60 : decode cX12_gifts 60 = .ok (.iload 4, 2) := by decide +kernel
theorem dX12_gifts_62 : decode cX12_gifts 62 = .ok (.aload_n 0, 1) := by decide +kernel
theorem dX12_gifts_63 : decode cX12_gifts 63 = .ok (.getfield 110, 3) := by decide +kernel
theorem dX12_gifts_66 : decode cX12_gifts 66 = .ok (.if_icmp .ge 53, 3) := by decide +kernel
theorem dX12_gifts_69 : decode cX12_gifts 69 = .ok (.iconst 0, 1) := by decide +kernel
theorem dX12_gifts_70 : decode cX12_gifts 70 = .ok (.aload_n 0, 1) := by decide +kernel
theorem dX12_gifts_71 : decode cX12_gifts 71 = .ok (.aload_n 0, 1) := by decide +kernel
theorem dX12_gifts_72 : decode cX12_gifts 72 = .ok (.iload 4, 2) := by decide +kernel
theorem dX12_gifts_74 : decode cX12_gifts 74 = .ok (.invokevirtual 333, 3) := by decide +kernel
theorem dX12_gifts_77 : decode cX12_gifts 77 = .ok (.iload_n 1, 1) := by decide +kernel
theorem dX12_gifts_78 : decode cX12_gifts 78 = .ok (.iand, 1) := by decide +kernel
theorem dX12_gifts_79 : decode cX12_gifts 79 = .ok (.invokevirtual 324, 3) := by decide +kernel
theorem dX12_gifts_82 : decode cX12_gifts 82 = .ok (.aload_n 0, 1) := by decide +kernel
theorem dX12_gifts_83 : decode cX12_gifts 83 = .ok (.getfield 9, 3) := by decide +kernel
theorem dX12_gifts_86 : decode cX12_gifts 86 = .ok (.iload 4, 2) := by decide +kernel
theorem dX12_gifts_88 : decode cX12_gifts 88 = .ok (.iaload, 1) := by decide +kernel
theorem dX12_gifts_89 : decode cX12_gifts 89 = .ok (.isub, 1) := by decide +kernel
theorem dX12_gifts_90 : decode cX12_gifts 90 = .ok (.invokestatic 82, 3) := by decide +kernel
theorem dX12_gifts_93 : decode cX12_gifts 93 = .ok (.istore 5, 2) := by decide +kernel
theorem dX12_gifts_95 : decode cX12_gifts 95 = .ok (.iload_n 2, 1) := by decide +kernel
theorem dX12_gifts_96 : decode cX12_gifts 96 = .ok (.iload 5, 2) := by decide +kernel
theorem dX12_gifts_98 : decode cX12_gifts 98 = .ok (.iadd, 1) := by decide +kernel
theorem dX12_gifts_99 : decode cX12_gifts 99 = .ok (.istore_n 2, 1) := by decide +kernel
theorem dX12_gifts_100 : decode cX12_gifts 100 = .ok (.iload_n 3, 1) := by decide +kernel
theorem dX12_gifts_101 : decode cX12_gifts 101 = .ok (.iload 5, 2) := by decide +kernel
theorem dX12_gifts_103 : decode cX12_gifts 103 = .ok (.ifCond .le 7, 3) := by decide +kernel
theorem dX12_gifts_106 : decode cX12_gifts 106 = .ok (.iconst 1, 1) := by decide +kernel
theorem dX12_gifts_107 : decode cX12_gifts 107 = .ok (.goto 4, 3) := by decide +kernel
theorem dX12_gifts_110 : decode cX12_gifts 110 = .ok (.iconst 0, 1) := by decide +kernel
theorem dX12_gifts_111 : decode cX12_gifts 111 = .ok (.iadd, 1) := by decide +kernel
theorem dX12_gifts_112 : decode cX12_gifts 112 = .ok (.istore_n 3, 1) := by decide +kernel
theorem dX12_gifts_113 : decode cX12_gifts 113 = .ok (.iinc 4 1, 3) := by decide +kernel
theorem dX12_gifts_116 : decode cX12_gifts 116 = .ok (.goto (-56), 3) := by decide +kernel
theorem dX12_gifts_119 : decode cX12_gifts 119 = .ok (.aload_n 0, 1) := by decide +kernel
theorem dX12_gifts_120 : decode cX12_gifts 120 = .ok (.iconst 0, 1) := by decide +kernel
theorem dX12_gifts_121 : decode cX12_gifts 121 = .ok (.putfield 107, 3) := by decide +kernel
theorem dX12_gifts_124 : decode cX12_gifts 124 = .ok (.aload_n 0, 1) := by decide +kernel
theorem dX12_gifts_125 : decode cX12_gifts 125 = .ok (.iload_n 3, 1) := by decide +kernel
theorem dX12_gifts_126 : decode cX12_gifts 126 = .ok (.invokevirtual 308, 3) := by decide +kernel
theorem dX12_gifts_129 : decode cX12_gifts 129 = .ok (.iload_n 2, 1) := by decide +kernel
theorem dX12_gifts_130 : decode cX12_gifts 130 = .ok (.ireturn, 1) := by decide +kernel
abbrev YX12_gifts : li_Y := (yX12_gifts, cX12_gifts, 6, (some .int))
theorem dX12_mute_0 : decode cX12_mute 0 = .ok (.aload_n 0, 1) := by decide +kernel
theorem dX12_mute_1 : decode cX12_mute 1 = .ok (.iconst 0, 1) := by decide +kernel
theorem dX12_mute_2 : decode cX12_mute 2 = .ok (.putfield 103, 3) := by decide +kernel
theorem dX12_mute_5 : decode cX12_mute 5 = .ok (.aload_n 0, 1) := by decide +kernel
theorem dX12_mute_6 : decode cX12_mute 6 = .ok (.invokevirtual 330, 3) := by decide +kernel
theorem dX12_mute_9 : decode cX12_mute 9 = .ok (.iconst (-1), 1) := by decide +kernel
theorem dX12_mute_10 : decode cX12_mute 10 = .ok (.istore_n 1, 1) := by decide +kernel
theorem dX12_mute_11 : decode cX12_mute 11 = .ok (.iconst 0, 1) := by decide +kernel
theorem dX12_mute_12 : decode cX12_mute 12 = .ok (.istore_n 2, 1) := by decide +kernel
theorem dX12_mute_13 : decode cX12_mute 13 = .ok (.iload_n 2, 1) := by decide +kernel
theorem dX12_mute_14 : decode cX12_mute 14 = .ok (.aload_n 0, 1) := by decide +kernel
theorem dX12_mute_15 : decode cX12_mute 15 = .ok (.getfield 121, 3) := by decide +kernel
theorem dX12_mute_18 : decode cX12_mute 18 = .ok (.if_icmp .ge 62, 3) := by decide +kernel
theorem dX12_mute_21 : decode cX12_mute 21 = .ok (.aload_n 0, 1) := by decide +kernel
theorem dX12_mute_22 : decode cX12_mute 22 = .ok (.invokevirtual 336, 3) := by decide +kernel
theorem dX12_mute_25 : decode cX12_mute 25 = .ok (.iload_n 2, 1) := by decide +kernel
theorem dX12_mute_26 : decode cX12_mute 26 = .ok (.invokestatic 251, 3) := by decide +kernel
theorem dX12_mute_29 : decode cX12_mute 29 = .ok (.ifCond .eq 45, 3) := by decide +kernel
theorem dX12_mute_32 : decode cX12_mute 32 = .ok (.aload_n 0, 1) := by decide +kernel
theorem dX12_mute_33 : decode cX12_mute 33 = .ok (.getfield 50, 3) := by decide +kernel
theorem dX12_mute_36 : decode cX12_mute 36 = .ok (.iload_n 2, 1) := by decide +kernel
theorem dX12_mute_37 : decode cX12_mute 37 = .ok (.iaload, 1) := by decide +kernel
theorem dX12_mute_38 : decode cX12_mute 38 = .ok (.aload_n 0, 1) := by decide +kernel
theorem dX12_mute_39 : decode cX12_mute 39 = .ok (.getfield 9, 3) := by decide +kernel
theorem dX12_mute_42 : decode cX12_mute 42 = .ok (.aload_n 0, 1) := by decide +kernel
theorem dX12_mute_43 : decode cX12_mute 43 = .ok (.iload_n 2, 1) := by decide +kernel
theorem dX12_mute_44 : decode cX12_mute 44 = .ok (.iconst 0, 1) := by decide +kernel
theorem dX12_mute_45 : decode cX12_mute 45 = .ok (.invokevirtual 220, 3) := by decide +kernel
theorem dX12_mute_48 : decode cX12_mute 48 = .ok (.iaload, 1) := by decide +kernel
theorem dX12_mute_49 : decode cX12_mute 49 = .ok (.if_icmp .le 25, 3) := by decide +kernel
theorem dX12_mute_52 : decode cX12_mute 52 = .ok (.iload_n 1, 1) := by decide +kernel
theorem dX12_mute_53 : decode cX12_mute 53 = .ok (.iconst (-1), 1) := by decide +kernel
theorem dX12_mute_54 : decode cX12_mute 54 = .ok (.if_icmp .eq 18, 3) := by decide +kernel
theorem dX12_mute_57 : decode cX12_mute 57 = .ok (.aload_n 0, 1) := by decide +kernel
theorem dX12_mute_58 : decode cX12_mute 58 = .ok (.iload_n 2, 1) := by decide +kernel
theorem dX12_mute_59 : decode cX12_mute 59 = .ok (.iconst 3, 1) := by decide +kernel
theorem dX12_mute_60 : decode cX12_mute 60 = .ok (.invokevirtual 220, 3) := by decide +kernel
theorem dX12_mute_63 : decode cX12_mute 63 = .ok (.aload_n 0, 1) := by decide +kernel
theorem dX12_mute_64 : decode cX12_mute 64 = .ok (.iload_n 1, 1) := by decide +kernel
theorem dX12_mute_65 : decode cX12_mute 65 = .ok (.iconst 3, 1) := by decide +kernel
theorem dX12_mute_66 : decode cX12_mute 66 = .ok (.invokevirtual 220, 3) := by decide +kernel
theorem dX12_mute_69 : decode cX12_mute 69 = .ok (.if_icmp .ge 5, 3) := by decide +kernel
theorem dX12_mute_72 : decode cX12_mute 72 = .ok (.iload_n 2, 1) := by decide +kernel
theorem dX12_mute_73 : decode cX12_mute 73 = .ok (.istore_n 1, 1) := by decide +kernel
theorem dX12_mute_74 : decode cX12_mute 74 = .ok (.iinc 2 1, 3) := by decide +kernel
theorem dX12_mute_77 : decode cX12_mute 77 = .ok (.goto (-64), 3) := by decide +kernel
theorem dX12_mute_80 : decode cX12_mute 80 = .ok (.iload_n 1, 1) := by decide +kernel
theorem dX12_mute_81 : decode cX12_mute 81 = .ok (.iconst (-1), 1) := by decide +kernel
theorem dX12_mute_82 : decode cX12_mute 82 = .ok (.if_icmp .ne 6, 3) := by decide +kernel
theorem dX12_mute_85 : decode cX12_mute 85 = .ok (.bipush (-2), 2) := by decide +kernel
theorem dX12_mute_87 : decode cX12_mute 87 = .ok (.ireturn, 1) := by decide +kernel
theorem dX12_mute_88 : decode cX12_mute 88 = .ok (.aload_n 0, 1) := by decide +kernel
theorem dX12_mute_89 : decode cX12_mute 89 = .ok (.iconst 0, 1) := by decide +kernel
theorem dX12_mute_90 : decode cX12_mute 90 = .ok (.putfield 107, 3) := by decide +kernel
theorem dX12_mute_93 : decode cX12_mute 93 = .ok (.aload_n 0, 1) := by decide +kernel
theorem dX12_mute_94 : decode cX12_mute 94 = .ok (.aload_n 0, 1) := by decide +kernel
theorem dX12_mute_95 : decode cX12_mute 95 = .ok (.getfield 50, 3) := by decide +kernel
theorem dX12_mute_98 : decode cX12_mute 98 = .ok (.iload_n 1, 1) := by decide +kernel
theorem dX12_mute_99 : decode cX12_mute 99 = .ok (.iaload, 1) := by decide +kernel
theorem dX12_mute_100 : decode cX12_mute 100 = .ok (.invokevirtual 308, 3) := by decide +kernel
theorem dX12_mute_103 : decode cX12_mute 103 = .ok (.aload_n 0, 1) := by decide +kernel
theorem dX12_mute_104 : decode cX12_mute 104 = .ok (.aload_n 0, 1) := by decide +kernel
theorem dX12_mute_105 : decode cX12_mute 105 = .ok (.getfield 9, 3) := by decide +kernel
theorem dX12_mute_108 : decode cX12_mute 108 = .ok (.aload_n 0, 1) := by decide +kernel
theorem dX12_mute_109 : decode cX12_mute 109 = .ok (.iload_n 1, 1) := by decide +kernel
theorem dX12_mute_110 : decode cX12_mute 110 = .ok (.iconst 0, 1) := by decide +kernel
theorem dX12_mute_111 : decode cX12_mute 111 = .ok (.invokevirtual 220, 3) := by decide +kernel
theorem dX12_mute_114 : decode cX12_mute 114 = .ok (.iaload, 1) := by decide +kernel
theorem dX12_mute_115 : decode cX12_mute 115 = .ok (.invokevirtual 308, 3) := by decide +kernel
theorem dX12_mute_118 : decode cX12_mute 118 = .ok (.iload_n 1, 1) := by decide +kernel
theorem dX12_mute_119 : decode cX12_mute 119 = .ok (.ireturn, 1) := by decide +kernel
abbrev YX12_mute : li_Y := (yX12_mute, cX12_mute, 3, (some .int))
theorem dX12_isBefore_0 : decode cX12_isBefore 0 = .ok (.iconst 0, 1) := by decide +kernel
theorem dX12_isBefore_1 : decode cX12_isBefore 1 = .ok (.istore_n 2, 1) := by decide +kernel
theorem dX12_isBefore_2 : decode cX12_isBefore 2 = .ok (.iload_n 2, 1) := by decide +kernel
theorem dX12_isBefore_3 : decode cX12_isBefore 3 = .ok (.iload_n 1, 1) := by decide +kernel
theorem dX12_isBefore_4 : decode cX12_isBefore 4 = .ok (.if_icmp .ge 53, 3) := by decide +kernel
theorem dX12_isBefore_7 : decode cX12_isBefore 7 = .ok (.iload_n 2, 1) := by decide +kernel
theorem dX12_isBefore_8 : decode cX12_isBefore 8 = .ok (.aload_n 0, 1) := by decide +kernel
theorem dX12_isBefore_9 : decode cX12_isBefore 9 = .ok (.getfield 345, 3) := by decide +kernel
theorem dX12_isBefore_12 : decode cX12_isBefore 12 = .ok (.if_icmp .ge 45, 3) := by decide +kernel
theorem dX12_isBefore_15 : decode cX12_isBefore 15 = .ok (.aload_n 0, 1) := by decide +kernel
theorem dX12_isBefore_16 : decode cX12_isBefore 16 = .ok (.getfield 53, 3) := by decide +kernel
theorem dX12_isBefore_19 : decode cX12_isBefore 19 = .ok (.iload_n 2, 1) := by decide +kernel
theorem dX12_isBefore_20 : decode cX12_isBefore 20 = .ok (.iaload, 1) := by decide +kernel
theorem dX12_isBefore_21 : decode cX12_isBefore 21 = .ok (.aload_n 0, 1) := by decide +kernel
theorem dX12_isBefore_22 : decode cX12_isBefore 22 = .ok (.getfield 56, 3) := by decide +kernel
theorem dX12_isBefore_25 : decode cX12_isBefore 25 = .ok (.iload_n 2, 1) := by decide +kernel
theorem dX12_isBefore_26 : decode cX12_isBefore 26 = .ok (.iaload, 1) := by decide +kernel
theorem dX12_isBefore_27 : decode cX12_isBefore 27 = .ok (.if_icmp .eq 24, 3) := by decide +kernel
theorem dX12_isBefore_30 : decode cX12_isBefore 30 = .ok (.aload_n 0, 1) := by decide +kernel
theorem dX12_isBefore_31 : decode cX12_isBefore 31 = .ok (.getfield 53, 3) := by decide +kernel
theorem dX12_isBefore_34 : decode cX12_isBefore 34 = .ok (.iload_n 2, 1) := by decide +kernel
theorem dX12_isBefore_35 : decode cX12_isBefore 35 = .ok (.iaload, 1) := by decide +kernel
theorem dX12_isBefore_36 : decode cX12_isBefore 36 = .ok (.aload_n 0, 1) := by decide +kernel
theorem dX12_isBefore_37 : decode cX12_isBefore 37 = .ok (.getfield 56, 3) := by decide +kernel
theorem dX12_isBefore_40 : decode cX12_isBefore 40 = .ok (.iload_n 2, 1) := by decide +kernel
theorem dX12_isBefore_41 : decode cX12_isBefore 41 = .ok (.iaload, 1) := by decide +kernel
theorem dX12_isBefore_42 : decode cX12_isBefore 42 = .ok (.if_icmp .ge 7, 3) := by decide +kernel
theorem dX12_isBefore_45 : decode cX12_isBefore 45 = .ok (.iconst 1, 1) := by decide +kernel
theorem dX12_isBefore_46 : decode cX12_isBefore 46 = .ok (.goto 4, 3) := by decide +kernel
theorem dX12_isBefore_49 : decode cX12_isBefore 49 = .ok (.iconst 0, 1) := by decide +kernel
theorem dX12_isBefore_50 : decode cX12_isBefore 50 = .ok (.ireturn, 1) := by decide +kernel
theorem dX12_isBefore_51 : decode cX12_isBefore 51 = .ok (.iinc 2 1, 3) := by decide +kernel
theorem dX12_isBefore_54 : decode cX12_isBefore 54 = .ok (.goto (-52), 3) := by decide +kernel
theorem dX12_isBefore_57 : decode cX12_isBefore 57 = .ok (.iload_n 1, 1) := by decide +kernel
theorem dX12_isBefore_58 : decode cX12_isBefore 58 = .ok (.aload_n 0, 1) := by decide +kernel
theorem dX12_isBefore_59 : decode cX12_isBefore 59 = .ok (.getfield 345, 3) := by decide +kernel
theorem dX12_isBefore_62 : decode cX12_isBefore 62 = .ok (.if_icmp .ge 7, 3) := by decide +kernel
theorem dX12_isBefore_65 : decode cX12_isBefore 65 = .ok (.iconst 1, 1) := by decide +kernel
theorem dX12_isBefore_66 : decode cX12_isBefore 66 = .ok (.goto 4, 3) := by decide +kernel
theorem dX12_isBefore_69 : decode cX12_isBefore 69 = .ok (.iconst 0, 1) := by decide +kernel
theorem dX12_isBefore_70 : decode cX12_isBefore 70 = .ok (.ireturn, 1) := by decide +kernel
abbrev YX12_isBefore : li_Y := (yX12_isBefore, cX12_isBefore, 3, (some .boolean))
set_option maxRecDepth 100000 in
set_option maxHeartbeats 4000000 in
theorem k_X12_layLeast {l : Launch} {Z : li_Z} (d : Nat) (hd : 343 ≤ d) (M0 : li_M) (hJ : li_J M0) : li_Met l Z YX12_layLeast d [.ref (Z.2.2 175)] M0 (fun r M' => r = none ∧ li_fs (fun i k => i = 185 ∨ i = 189 ∨ i = 1000 ∨ (i = 175 ∧ k = 12) ∨ (i = 175 ∧ k = 13) ∨ (i = 175 ∧ k = 14) ∨ (i = 175 ∧ k = 15) ∨ (i = 175 ∧ k = 20)) M0 M' ∧ li_J M') := by
  refine li_enter (by decide +kernel) (Nat.le_of_ble_eq_true rfl) ?_
  show li_T l Z YX12_layLeast d 0 [(0, .ref (Z.2.2 175))] [] M0 _
  have hf : li_fs (fun i k => i = 185 ∨ i = 189 ∨ i = 1000 ∨ (i = 175 ∧ k = 12) ∨ (i = 175 ∧ k = 13) ∨ (i = 175 ∧ k = 14) ∨ (i = 175 ∧ k = 15) ∨ (i = 175 ∧ k = 20)) M0 M0 := li_fs_refl
  refine li_iconst 0 dX12_layLeast_0 (by decide) ?_
  refine li_istore_n [(1, .int 0), (0, .ref (Z.2.2 175))] dX12_layLeast_1 (by decide) rfl ?_
  have L2 : ∀ (n : Nat) (x1 : Int32) (M2 : li_M), (8 - (x1 : Int32).toInt).toNat < n → li_fs (fun i k => i = 185 ∨ i = 189 ∨ i = 1000 ∨ (i = 175 ∧ k = 12) ∨ (i = 175 ∧ k = 13) ∨ (i = 175 ∧ k = 14) ∨ (i = 175 ∧ k = 15) ∨ (i = 175 ∧ k = 20)) M0 M2 → li_J M2 → 0 ≤ (x1 : Int32).toInt → li_T l Z YX12_layLeast d 2 [(1, .int x1), (0, .ref (Z.2.2 175))] [] M2 (fun r M' => r = none ∧ li_fs (fun i k => i = 185 ∨ i = 189 ∨ i = 1000 ∨ (i = 175 ∧ k = 12) ∨ (i = 175 ∧ k = 13) ∨ (i = 175 ∧ k = 14) ∨ (i = 175 ∧ k = 15) ∨ (i = 175 ∧ k = 20)) M0 M' ∧ li_J M') := by
    intro n
    induction n with
    | zero => intro x1 M2 hn; exact absurd hn (Nat.not_lt_zero _)
    | succ n ih2 =>
      intro x1 M2 hn hf hJ hi
      have gx1 := tl_rg x1
      refine li_iload_n 0 dX12_layLeast_2 rfl ?_
      refine li_aload_n 1 dX12_layLeast_3 rfl ?_
      refine li_geti (k := 4) (N := 52) (T := TX12) (C0 := RX12) dX12_layLeast_4 (by decide) sh_175 rfl rfl (by decide) li_in12 w_1408 ?_
      refine li_top (fun x3 ex3 => ?_)
      have gx3 : 0 ≤ x3.toInt ∧ x3.toInt ≤ 8 := by rw [ex3]; exact J_sl4 hJ
      have sx3 : x3.toInt = (M0.1 175 4).toInt := tl_slot (ex3.trans (hf.1 175 4 (show ¬ (175 = 185 ∨ 175 = 189 ∨ 175 = 1000 ∨ (175 = 175 ∧ 4 = 12) ∨ (175 = 175 ∧ 4 = 13) ∨ (175 = 175 ∧ 4 = 14) ∨ (175 = 175 ∧ 4 = 15) ∨ (175 = 175 ∧ 4 = 20)) by decide)))
      refine li_icmp_ge 31 dX12_layLeast_7 (by decide) (fun c4 => ?_) (fun c4 => ?_)
      · have tc4 : x3.toInt ≤ x1.toInt := tl_le c4
        exact li_vret dX12_layLeast_31 rfl ⟨rfl, hf, hJ⟩
      · have tc4 : x1.toInt < x3.toInt := tl_nle c4
        refine li_aload_n 1 dX12_layLeast_10 rfl ?_
        refine li_getr (k := 29) (N := 52) (T := TX12) (C0 := RX12) dX12_layLeast_11 (by decide) sh_175 rfl rfl (by decide) (by decide) li_in12 w_1433 ?_
        refine li_iload_n 0 dX12_layLeast_14 rfl ?_
        refine li_aload_n 1 dX12_layLeast_15 rfl ?_
        refine li_aload_n 1 dX12_layLeast_16 rfl ?_
        refine li_getr (k := 0) (N := 52) (T := TX12) (C0 := RX12) dX12_layLeast_17 (by decide) sh_175 rfl rfl (by decide) (by decide) li_in12 w_1404 ?_
        refine li_iload_n 0 dX12_layLeast_20 rfl ?_
        refine li_callV (n := 2) (As := [.ref (Z.2.2 176), .int x1]) dX12_layLeast_21 (k_X12_leastOf (d - 1) (by omega) la_176 x1 M2 hJ (by omega)) (by omega) (Nat.le_of_ble_eq_true rfl) w_1811 w_1813 w_81 w_112 w_1814 (by decide +kernel) rfl (by decide) sh_175 rfl rfl (Nat.le_of_ble_eq_true rfl) (fun r M6 h7 => ?_)
        obtain ⟨⟨x5, rfl, qx5⟩, h7, jM6⟩ := h7
        have gx5 := tl_rg x5
        have hf := li_fs_trans hf h7 (fun i k => fun h => Or.elim h (fun h => Or.inl h) (fun h => Or.elim h (fun h => Or.inr (Or.inr (Or.inl h))) (fun h => Or.elim h (fun h => Or.inr (Or.inr (Or.inr (Or.inl h)))) (fun h => Or.elim h (fun h => Or.inr (Or.inr (Or.inr (Or.inr (Or.inl h))))) (fun h => Or.elim h (fun h => Or.inr (Or.inr (Or.inr (Or.inr (Or.inr (Or.inl h)))))) (fun h => Or.elim h (fun h => Or.inr (Or.inr (Or.inr (Or.inr (Or.inr (Or.inr (Or.inl h))))))) (fun h => Or.inr (Or.inr (Or.inr (Or.inr (Or.inr (Or.inr (Or.inr h)))))))))))))
        have hJ := jM6
        refine li_iast dX12_layLeast_24 (by decide) sh_189 (tl_in (by omega)) ?_
        refine li_nm (fun M8 eM8 => ?_)
        have hf := li_fs_ui hf (Or.inr (Or.inl rfl)) eM8
        have hJ := hJ.st (by decide) (li_el_free (by unfold li_led; omega) (by decide) (by decide) (by unfold li_rq; omega)) eM8
        obtain ⟨x9, ex9⟩ : ∃ y : Int32, y = x1 + 1 := ⟨_, rfl⟩
        have z1 : (1 : Int32).toInt = 1 := rfl
        try (have tx9 : x9.toInt = (x1 : Int32).toInt + (1 : Int32).toInt := tl_add ex9 (by omega))
        refine li_iinc 0 [(1, .int x9), (0, .ref (Z.2.2 175))] x9 dX12_layLeast_25 rfl (by rw [ex9]; rfl) (by decide) rfl ?_
        refine li_goto 2 dX12_layLeast_28 (by decide) ?_
        refine li_pick [0, 1] [(1, .int x9), (0, .ref (Z.2.2 175))] rfl ?_
        exact ih2 x9 M8 (by omega) hf hJ (by omega)
  have z0 : (0 : Int32).toInt = 0 := rfl
  exact L2 _ 0 M0 (Nat.lt_succ_self _) hf hJ (by omega)
set_option maxRecDepth 100000 in
set_option maxHeartbeats 4000000 in
theorem k_X12_bestSet {l : Launch} {Z : li_Z} (d : Nat) (hd : 3 ≤ d) (p1 p2 : Int32) (M0 : li_M) (hJ : li_J M0) (h1 : p1.toInt ≤ 255) : li_Met l Z YX12_bestSet d [.ref (Z.2.2 175), .int p1, .int p2] M0 (fun r M' => (∃ x : Int32, r = some (.int x)) ∧ li_fs (fun i k => False) M0 M' ∧ li_J M') := by
  refine li_enter (by decide +kernel) (Nat.le_of_ble_eq_true rfl) ?_
  show li_T l Z YX12_bestSet d 0 [(0, .ref (Z.2.2 175)), (1, .int p1), (2, .int p2)] [] M0 _
  have hf : li_fs (fun i k => False) M0 M0 := li_fs_refl
  have gp1 := tl_rg p1
  have gp2 := tl_rg p2
  refine li_iconst 0 dX12_bestSet_0 (by decide) ?_
  refine li_istore_n [(3, .int 0), (0, .ref (Z.2.2 175)), (1, .int p1), (2, .int p2)] dX12_bestSet_1 (by decide) rfl ?_
  refine li_iconst 1 dX12_bestSet_2 (by decide) ?_
  refine li_istore [(4, .int 1), (3, .int 0), (0, .ref (Z.2.2 175)), (1, .int p1), (2, .int p2)] dX12_bestSet_3 (by decide) rfl ?_
  have L5 : ∀ (n : Nat) (x1 : Int32) (x2 : Int32) (M3 : li_M), (256 - (x1 : Int32).toInt).toNat < n → li_fs (fun i k => False) M0 M3 → li_J M3 → 1 ≤ (x1 : Int32).toInt ∧ (x1 : Int32).toInt ≤ 256 → li_T l Z YX12_bestSet d 5 [(4, .int x1), (3, .int x2), (0, .ref (Z.2.2 175)), (1, .int p1), (2, .int p2)] [] M3 (fun r M' => (∃ x : Int32, r = some (.int x)) ∧ li_fs (fun i k => False) M0 M' ∧ li_J M') := by
    intro n
    induction n with
    | zero => intro x1 x2 M3 hn; exact absurd hn (Nat.not_lt_zero _)
    | succ n ih5 =>
      intro x1 x2 M3 hn hf hJ hi
      have gx1 := tl_rg x1
      have gx2 := tl_rg x2
      refine li_iload 0 dX12_bestSet_5 rfl ?_
      refine li_iload_n 3 dX12_bestSet_7 rfl ?_
      refine li_icmp_gt 84 dX12_bestSet_8 (by decide) (fun c4 => ?_) (fun c4 => ?_)
      · have tc4 : p1.toInt < x1.toInt := tl_lt c4
        refine li_iload_n 1 dX12_bestSet_84 rfl ?_
        exact li_iret dX12_bestSet_85 rfl rfl ⟨⟨_, rfl⟩, hf, hJ⟩
      · have tc4 : x1.toInt ≤ p1.toInt := tl_nlt c4
        refine li_iload 0 dX12_bestSet_11 rfl ?_
        refine li_iload_n 3 dX12_bestSet_13 rfl ?_
        refine li_iconst (-1) dX12_bestSet_14 (by decide) ?_
        refine li_ixor dX12_bestSet_15 ?_
        refine li_top (fun x5 ex5 => ?_)
        refine li_iand dX12_bestSet_16 ?_
        refine li_top (fun x6 ex6 => ?_)
        first | (have tx6 := tl_andR ex6 (by omega)) | (have tx6 := tl_andL ex6 (by omega)) | skip
        have J78 : ∀ (x8 : Int32) (M9 : li_M), li_fs (fun i k => False) M0 M9 → li_J M9 → li_T l Z YX12_bestSet d 78 [(4, .int x1), (3, .int x8), (0, .ref (Z.2.2 175)), (1, .int p1), (2, .int p2)] [] M9 (fun r M' => (∃ x : Int32, r = some (.int x)) ∧ li_fs (fun i k => False) M0 M' ∧ li_J M') := by
          intro x8 M9 hf hJ
          have gx8 := tl_rg x8
          obtain ⟨x10, ex10⟩ : ∃ y : Int32, y = x1 + 1 := ⟨_, rfl⟩
          have z1 : (1 : Int32).toInt = 1 := rfl
          try (have tx10 : x10.toInt = (x1 : Int32).toInt + (1 : Int32).toInt := tl_add ex10 (by omega))
          refine li_iinc 0 [(4, .int x10), (3, .int x8), (0, .ref (Z.2.2 175)), (1, .int p1), (2, .int p2)] x10 dX12_bestSet_78 rfl (by rw [ex10]; rfl) (by decide) rfl ?_
          refine li_goto 5 dX12_bestSet_81 (by decide) ?_
          refine li_pick [0, 1, 2, 3, 4] [(4, .int x10), (3, .int x8), (0, .ref (Z.2.2 175)), (1, .int p1), (2, .int p2)] rfl ?_
          exact ih5 x10 x8 M9 (by omega) hf hJ (by omega)
        refine li_if_ne 78 dX12_bestSet_17 (by decide) (fun c7 => ?_) (fun c7 => ?_)
        · have tc7 : ¬ x6.toInt = 0 := tl_ne c7
          refine li_pick [0, 1, 2, 3, 4] [(4, .int x1), (3, .int x2), (0, .ref (Z.2.2 175)), (1, .int p1), (2, .int p2)] rfl ?_
          exact J78 x2 M3 hf hJ
        · have tc7 : x6.toInt = 0 := tl_eq c7
          refine li_aload_n 2 dX12_bestSet_20 rfl ?_
          refine li_iload 0 dX12_bestSet_21 rfl ?_
          refine li_callV (n := 1) (As := [.int x1]) dX12_bestSet_23 (k_X12_sumOf (d - 1) (by omega) x1 M3 hJ ) (by omega) (Nat.le_of_ble_eq_true rfl) w_1827 w_1829 w_85 w_112 w_1830 (by decide +kernel) rfl (by decide) sh_175 rfl rfl (Nat.le_of_ble_eq_true rfl) (fun r M12 h13 => ?_)
          obtain ⟨⟨x11, rfl⟩, h13, jM12⟩ := h13
          have gx11 := tl_rg x11
          have hf := li_fs_trans hf h13 (fun i k h => False.elim h)
          have hJ := jM12
          refine li_iload_n 4 dX12_bestSet_26 rfl ?_
          refine li_icmp_gt 78 dX12_bestSet_27 (by decide) (fun c14 => ?_) (fun c14 => ?_)
          · have tc14 : p2.toInt < x11.toInt := tl_lt c14
            refine li_pick [0, 1, 2, 3, 4] [(4, .int x1), (3, .int x2), (0, .ref (Z.2.2 175)), (1, .int p1), (2, .int p2)] rfl ?_
            exact J78 x2 M12 hf hJ
          · have tc14 : x11.toInt ≤ p2.toInt := tl_nlt c14
            refine li_aload_n 2 dX12_bestSet_30 rfl ?_
            refine li_iload 0 dX12_bestSet_31 rfl ?_
            refine li_callV (n := 1) (As := [.int x1]) dX12_bestSet_33 (k_X12_worthOf (d - 1) (by omega) x1 M12 hJ ) (by omega) (Nat.le_of_ble_eq_true rfl) w_1831 w_1833 w_86 w_112 w_1834 (by decide +kernel) rfl (by decide) sh_175 rfl rfl (Nat.le_of_ble_eq_true rfl) (fun r M16 h17 => ?_)
            obtain ⟨⟨x15, rfl⟩, h17, jM16⟩ := h17
            have gx15 := tl_rg x15
            have hf := li_fs_trans hf h17 (fun i k h => False.elim h)
            have hJ := jM16
            refine li_aload_n 2 dX12_bestSet_36 rfl ?_
            refine li_iload_n 1 dX12_bestSet_37 rfl ?_
            refine li_callV (n := 1) (As := [.int x2]) dX12_bestSet_38 (k_X12_worthOf (d - 1) (by omega) x2 M16 hJ ) (by omega) (Nat.le_of_ble_eq_true rfl) w_1831 w_1833 w_86 w_112 w_1834 (by decide +kernel) rfl (by decide) sh_175 rfl rfl (Nat.le_of_ble_eq_true rfl) (fun r M19 h20 => ?_)
            obtain ⟨⟨x18, rfl⟩, h20, jM19⟩ := h20
            have gx18 := tl_rg x18
            have hf := li_fs_trans hf h20 (fun i k h => False.elim h)
            have hJ := jM19
            refine li_icmp_ge 47 dX12_bestSet_41 (by decide) (fun c21 => ?_) (fun c21 => ?_)
            · have tc21 : x18.toInt ≤ x15.toInt := tl_le c21
              refine li_aload_n 2 dX12_bestSet_47 rfl ?_
              refine li_iload 0 dX12_bestSet_48 rfl ?_
              refine li_callV (n := 1) (As := [.int x1]) dX12_bestSet_50 (k_X12_worthOf (d - 1) (by omega) x1 M19 hJ ) (by omega) (Nat.le_of_ble_eq_true rfl) w_1831 w_1833 w_86 w_112 w_1834 (by decide +kernel) rfl (by decide) sh_175 rfl rfl (Nat.le_of_ble_eq_true rfl) (fun r M23 h24 => ?_)
              obtain ⟨⟨x22, rfl⟩, h24, jM23⟩ := h24
              have gx22 := tl_rg x22
              have hf := li_fs_trans hf h24 (fun i k h => False.elim h)
              have hJ := jM23
              refine li_aload_n 2 dX12_bestSet_53 rfl ?_
              refine li_iload_n 1 dX12_bestSet_54 rfl ?_
              refine li_callV (n := 1) (As := [.int x2]) dX12_bestSet_55 (k_X12_worthOf (d - 1) (by omega) x2 M23 hJ ) (by omega) (Nat.le_of_ble_eq_true rfl) w_1831 w_1833 w_86 w_112 w_1834 (by decide +kernel) rfl (by decide) sh_175 rfl rfl (Nat.le_of_ble_eq_true rfl) (fun r M26 h27 => ?_)
              obtain ⟨⟨x25, rfl⟩, h27, jM26⟩ := h27
              have gx25 := tl_rg x25
              have hf := li_fs_trans hf h27 (fun i k h => False.elim h)
              have hJ := jM26
              refine li_icmp_gt 75 dX12_bestSet_58 (by decide) (fun c28 => ?_) (fun c28 => ?_)
              · have tc28 : x25.toInt < x22.toInt := tl_lt c28
                refine li_iload 0 dX12_bestSet_75 rfl ?_
                refine li_istore_n [(3, .int x1), (4, .int x1), (0, .ref (Z.2.2 175)), (1, .int p1), (2, .int p2)] dX12_bestSet_77 (by decide) rfl ?_
                refine li_pick [1, 0, 2, 3, 4] [(4, .int x1), (3, .int x1), (0, .ref (Z.2.2 175)), (1, .int p1), (2, .int p2)] rfl ?_
                exact J78 x1 M26 hf hJ
              · have tc28 : x22.toInt ≤ x25.toInt := tl_nlt c28
                refine li_aload_n 2 dX12_bestSet_61 rfl ?_
                refine li_iload 0 dX12_bestSet_62 rfl ?_
                refine li_callV (n := 1) (As := [.int x1]) dX12_bestSet_64 (k_X12_sumOf (d - 1) (by omega) x1 M26 hJ ) (by omega) (Nat.le_of_ble_eq_true rfl) w_1827 w_1829 w_85 w_112 w_1830 (by decide +kernel) rfl (by decide) sh_175 rfl rfl (Nat.le_of_ble_eq_true rfl) (fun r M30 h31 => ?_)
                obtain ⟨⟨x29, rfl⟩, h31, jM30⟩ := h31
                have gx29 := tl_rg x29
                have hf := li_fs_trans hf h31 (fun i k h => False.elim h)
                have hJ := jM30
                refine li_aload_n 2 dX12_bestSet_67 rfl ?_
                refine li_iload_n 1 dX12_bestSet_68 rfl ?_
                refine li_callV (n := 1) (As := [.int x2]) dX12_bestSet_69 (k_X12_sumOf (d - 1) (by omega) x2 M30 hJ ) (by omega) (Nat.le_of_ble_eq_true rfl) w_1827 w_1829 w_85 w_112 w_1830 (by decide +kernel) rfl (by decide) sh_175 rfl rfl (Nat.le_of_ble_eq_true rfl) (fun r M33 h34 => ?_)
                obtain ⟨⟨x32, rfl⟩, h34, jM33⟩ := h34
                have gx32 := tl_rg x32
                have hf := li_fs_trans hf h34 (fun i k h => False.elim h)
                have hJ := jM33
                refine li_icmp_ge 78 dX12_bestSet_72 (by decide) (fun c35 => ?_) (fun c35 => ?_)
                · have tc35 : x32.toInt ≤ x29.toInt := tl_le c35
                  refine li_pick [0, 1, 2, 3, 4] [(4, .int x1), (3, .int x2), (0, .ref (Z.2.2 175)), (1, .int p1), (2, .int p2)] rfl ?_
                  exact J78 x2 M33 hf hJ
                · have tc35 : x29.toInt < x32.toInt := tl_nle c35
                  refine li_iload 0 dX12_bestSet_75 rfl ?_
                  refine li_istore_n [(3, .int x1), (4, .int x1), (0, .ref (Z.2.2 175)), (1, .int p1), (2, .int p2)] dX12_bestSet_77 (by decide) rfl ?_
                  refine li_pick [1, 0, 2, 3, 4] [(4, .int x1), (3, .int x1), (0, .ref (Z.2.2 175)), (1, .int p1), (2, .int p2)] rfl ?_
                  exact J78 x1 M33 hf hJ
            · have tc21 : x15.toInt < x18.toInt := tl_nle c21
              refine li_goto 78 dX12_bestSet_44 (by decide) ?_
              refine li_pick [0, 1, 2, 3, 4] [(4, .int x1), (3, .int x2), (0, .ref (Z.2.2 175)), (1, .int p1), (2, .int p2)] rfl ?_
              exact J78 x2 M19 hf hJ
  have z1 : (1 : Int32).toInt = 1 := rfl
  have z0 : (0 : Int32).toInt = 0 := rfl
  exact L5 _ 1 0 M0 (Nat.lt_succ_self _) hf hJ (by omega)
set_option maxRecDepth 100000 in
set_option maxHeartbeats 4000000 in
theorem k_X12_best {l : Launch} {Z : li_Z} (d : Nat) (hd : 344 ≤ d) (p1 : Int32) (M0 : li_M) (hJ : li_J M0) : li_Met l Z YX12_best d [.ref (Z.2.2 175), .int p1] M0 (fun r M' => (∃ x : Int32, r = some (.int x)) ∧ li_fs (fun i k => i = 181 ∨ i = 185 ∨ i = 189 ∨ i = 1000 ∨ (i = 175 ∧ k = 10) ∨ (i = 175 ∧ k = 12) ∨ (i = 175 ∧ k = 13) ∨ (i = 175 ∧ k = 14) ∨ (i = 175 ∧ k = 15) ∨ (i = 175 ∧ k = 20) ∨ (i = 175 ∧ k = 9)) M0 M' ∧ li_J M') := by
  refine li_enter (by decide +kernel) (Nat.le_of_ble_eq_true rfl) ?_
  show li_T l Z YX12_best d 0 [(0, .ref (Z.2.2 175)), (1, .int p1)] [] M0 _
  have hf : li_fs (fun i k => i = 181 ∨ i = 185 ∨ i = 189 ∨ i = 1000 ∨ (i = 175 ∧ k = 10) ∨ (i = 175 ∧ k = 12) ∨ (i = 175 ∧ k = 13) ∨ (i = 175 ∧ k = 14) ∨ (i = 175 ∧ k = 15) ∨ (i = 175 ∧ k = 20) ∨ (i = 175 ∧ k = 9)) M0 M0 := li_fs_refl
  have gp1 := tl_rg p1
  have rM0_1 := J_sl1 (M := M0) hJ
  have rM0_9 := J_sl9 (M := M0) hJ
  refine li_aload_n 0 dX12_best_0 rfl ?_
  refine li_iconst 0 dX12_best_1 (by decide) ?_
  refine li_puti (k := 10) (N := 52) (T := TX12) (C0 := RX12) dX12_best_2 (by decide) sh_175 rfl rfl (by decide) li_in12 tyX12_ok nmX12 rfl rfl rfl rfl w_1414 ?_
  refine li_nm (fun M1 eM1 => ?_)
  have hf := li_fs_ui hf (Or.inr (Or.inr (Or.inr (Or.inr (Or.inl ⟨rfl, rfl⟩))))) eM1
  have z0 : (0 : Int32).toInt = 0 := rfl
  have hJ := hJ.put (k := 10) (by decide) (rg_free rfl) eM1
  have rM1_1 := J_sl1 (M := M1) hJ
  have rM1_9 := J_sl9 (M := M1) hJ
  have mM1_1 : (M1.1 175 1).toInt = (M0.1 175 1).toInt := by rw [eM1, li_ui_at, if_pos rfl, if_neg (by decide)]
  have mM1_9 : (M1.1 175 9).toInt = (M0.1 175 9).toInt := by rw [eM1, li_ui_at, if_pos rfl, if_neg (by decide)]
  refine li_aload_n 0 dX12_best_5 rfl ?_
  refine li_iload_n 1 dX12_best_6 rfl ?_
  refine li_callV (n := 1) (As := [.int p1]) dX12_best_7 (k_X12_isOne (d - 1) (by omega) p1 M1 hJ ) (by omega) (Nat.le_of_ble_eq_true rfl) w_1648 w_1650 w_56 w_112 w_1651 (by decide +kernel) rfl (by decide) sh_175 rfl rfl (Nat.le_of_ble_eq_true rfl) (fun r M3 h4 => ?_)
  obtain ⟨qx2, h4, jM3⟩ := h4
  have hf := li_fs_trans hf h4 (fun i k h => False.elim h)
  have hJ := jM3
  have rM3_1 := J_sl1 (M := M3) hJ
  have rM3_9 := J_sl9 (M := M3) hJ
  have mM3_1 : (M3.1 175 1).toInt = (M1.1 175 1).toInt := tl_slot (h4.1 175 1 id)
  have mM3_9 : (M3.1 175 9).toInt = (M1.1 175 9).toInt := tl_slot (h4.1 175 9 id)
  rcases qx2 with ⟨rfl, qx2⟩ | ⟨rfl, qx2⟩
  · skip
    refine li_if_ne 15 dX12_best_10 (by decide) (fun c => ?_) (fun c => absurd c (by decide))
    refine li_aload_n 0 dX12_best_15 rfl ?_
    refine li_callV (n := 0) (As := []) dX12_best_16 (k_X12_layLeast (d - 1) (by omega)  M3 hJ ) (by omega) (Nat.le_of_ble_eq_true rfl) w_1807 w_1809 w_80 w_112 w_1810 (by decide +kernel) rfl (by decide) sh_175 rfl rfl (Nat.le_of_ble_eq_true rfl) (fun r M7 h8 => ?_)
    obtain ⟨rfl, h8, jM7⟩ := h8
    have hf := li_fs_trans hf h8 (fun i k => fun h => Or.elim h (fun h => Or.inr (Or.inl h)) (fun h => Or.elim h (fun h => Or.inr (Or.inr (Or.inl h))) (fun h => Or.elim h (fun h => Or.inr (Or.inr (Or.inr (Or.inl h)))) (fun h => Or.elim h (fun h => Or.inr (Or.inr (Or.inr (Or.inr (Or.inr (Or.inl h)))))) (fun h => Or.elim h (fun h => Or.inr (Or.inr (Or.inr (Or.inr (Or.inr (Or.inr (Or.inl h))))))) (fun h => Or.elim h (fun h => Or.inr (Or.inr (Or.inr (Or.inr (Or.inr (Or.inr (Or.inr (Or.inl h)))))))) (fun h => Or.elim h (fun h => Or.inr (Or.inr (Or.inr (Or.inr (Or.inr (Or.inr (Or.inr (Or.inr (Or.inl h))))))))) (fun h => Or.inr (Or.inr (Or.inr (Or.inr (Or.inr (Or.inr (Or.inr (Or.inr (Or.inr (Or.inl h)))))))))))))))))
    have hJ := jM7
    have rM7_1 := J_sl1 (M := M7) hJ
    have rM7_9 := J_sl9 (M := M7) hJ
    have mM7_1 : (M7.1 175 1).toInt = (M3.1 175 1).toInt := tl_slot (h8.1 175 1 (show ¬ (175 = 185 ∨ 175 = 189 ∨ 175 = 1000 ∨ (175 = 175 ∧ 1 = 12) ∨ (175 = 175 ∧ 1 = 13) ∨ (175 = 175 ∧ 1 = 14) ∨ (175 = 175 ∧ 1 = 15) ∨ (175 = 175 ∧ 1 = 20)) by decide))
    have mM7_9 : (M7.1 175 9).toInt = (M3.1 175 9).toInt := tl_slot (h8.1 175 9 (show ¬ (175 = 185 ∨ 175 = 189 ∨ 175 = 1000 ∨ (175 = 175 ∧ 9 = 12) ∨ (175 = 175 ∧ 9 = 13) ∨ (175 = 175 ∧ 9 = 14) ∨ (175 = 175 ∧ 9 = 15) ∨ (175 = 175 ∧ 9 = 20)) by decide))
    refine li_aload_n 0 dX12_best_19 rfl ?_
    refine li_aload_n 0 dX12_best_20 rfl ?_
    refine li_iload_n 1 dX12_best_21 rfl ?_
    refine li_callV (n := 1) (As := [.int p1]) dX12_best_22 (k_X12_thingsOf (d - 1) (by omega) p1 M7 hJ ) (by omega) (Nat.le_of_ble_eq_true rfl) w_1815 w_1817 w_82 w_112 w_1818 (by decide +kernel) rfl (by decide) sh_175 rfl rfl (Nat.le_of_ble_eq_true rfl) (fun r M10 h11 => ?_)
    obtain ⟨⟨x9, rfl, qx9⟩, h11, jM10⟩ := h11
    have gx9 := tl_rg x9
    have hf := li_fs_trans hf h11 (fun i k h => False.elim h)
    have hJ := jM10
    have rM10_1 := J_sl1 (M := M10) hJ
    have rM10_9 := J_sl9 (M := M10) hJ
    have mM10_1 : (M10.1 175 1).toInt = (M7.1 175 1).toInt := tl_slot (h11.1 175 1 id)
    have mM10_9 : (M10.1 175 9).toInt = (M7.1 175 9).toInt := tl_slot (h11.1 175 9 id)
    refine li_aload_n 0 dX12_best_25 rfl ?_
    refine li_callV (n := 0) (As := []) dX12_best_26 (k_X12_today (d - 1) (by omega)  M10 hJ ) (by omega) (Nat.le_of_ble_eq_true rfl) w_1819 w_1821 w_83 w_112 w_1822 (by decide +kernel) rfl (by decide) sh_175 rfl rfl (Nat.le_of_ble_eq_true rfl) (fun r M13 h14 => ?_)
    obtain ⟨⟨x12, rfl, qx12⟩, h14, jM13⟩ := h14
    have gx12 := tl_rg x12
    have hf := li_fs_trans hf h14 (fun i k h => False.elim h)
    have hJ := jM13
    have rM13_1 := J_sl1 (M := M13) hJ
    have rM13_9 := J_sl9 (M := M13) hJ
    have mM13_1 : (M13.1 175 1).toInt = (M10.1 175 1).toInt := tl_slot (h14.1 175 1 id)
    have mM13_9 : (M13.1 175 9).toInt = (M10.1 175 9).toInt := tl_slot (h14.1 175 9 id)
    refine li_iand dX12_best_29 ?_
    refine li_top (fun x15 ex15 => ?_)
    first | (have tx15 := tl_andR ex15 (by omega)) | (have tx15 := tl_andL ex15 (by omega)) | skip
    refine li_aload_n 0 dX12_best_30 rfl ?_
    refine li_getr (k := 0) (N := 52) (T := TX12) (C0 := RX12) dX12_best_31 (by decide) sh_175 rfl rfl (by decide) (by decide) li_in12 w_1404 ?_
    refine li_iload_n 1 dX12_best_34 rfl ?_
    refine li_iald dX12_best_35 (by decide) sh_176 (tl_in (by omega)) ?_
    refine li_top (fun x16 ex16 => ?_)
    have gx16 := tl_rg x16
    try (have ox16 : (p1 : Int32).toInt % 51 = (p1 : Int32).toInt := by omega)
    have lx16 : ((p1 : Int32).toInt % 51 = 20 → 0 ≤ x16.toInt ∧ x16.toInt ≤ 6) ∧ (21 ≤ (p1 : Int32).toInt % 51 → ((p1 : Int32).toInt % 51 - 21) % 5 < 2 → 0 ≤ x16.toInt ∧ x16.toInt ≤ 5) := hJ.ldLed (by unfold li_led; omega) ex16 (by omega)
    refine li_callV (n := 2) (As := [.int x15, .int x16]) dX12_best_36 (k_X12_bestSet (d - 1) (by omega) x15 x16 M13 hJ (by omega)) (by omega) (Nat.le_of_ble_eq_true rfl) w_1823 w_1825 w_84 w_112 w_1826 (by decide +kernel) rfl (by decide) sh_175 rfl rfl (Nat.le_of_ble_eq_true rfl) (fun r M18 h19 => ?_)
    obtain ⟨⟨x17, rfl⟩, h19, jM18⟩ := h19
    have gx17 := tl_rg x17
    have hf := li_fs_trans hf h19 (fun i k h => False.elim h)
    have hJ := jM18
    have rM18_1 := J_sl1 (M := M18) hJ
    have rM18_9 := J_sl9 (M := M18) hJ
    have mM18_1 : (M18.1 175 1).toInt = (M13.1 175 1).toInt := tl_slot (h19.1 175 1 id)
    have mM18_9 : (M18.1 175 9).toInt = (M13.1 175 9).toInt := tl_slot (h19.1 175 9 id)
    refine li_istore_n [(2, .int x17), (0, .ref (Z.2.2 175)), (1, .int p1)] dX12_best_39 (by decide) rfl ?_
    refine li_aload_n 1 dX12_best_40 rfl ?_
    refine li_iconst 0 dX12_best_41 (by decide) ?_
    refine li_puti (k := 9) (N := 52) (T := TX12) (C0 := RX12) dX12_best_42 (by decide) sh_175 rfl rfl (by decide) li_in12 tyX12_ok nmX12 rfl rfl rfl rfl w_1413 ?_
    refine li_nm (fun M20 eM20 => ?_)
    have hf := li_fs_ui hf (Or.inr (Or.inr (Or.inr (Or.inr (Or.inr (Or.inr (Or.inr (Or.inr (Or.inr (Or.inr (⟨rfl, rfl⟩))))))))))) eM20
    have z0 : (0 : Int32).toInt = 0 := rfl
    have hJ := J_pt9 hJ (show 0 ≤ (0 : Int32).toInt ∧ (0 : Int32).toInt ≤ 20 by omega) eM20
    have rM20_1 := J_sl1 (M := M20) hJ
    have rM20_9 := J_sl9 (M := M20) hJ
    have mM20_1 : (M20.1 175 1).toInt = (M18.1 175 1).toInt := by rw [eM20, li_ui_at, if_pos rfl, if_neg (by decide)]
    have mM20_9 : (M20.1 175 9).toInt = 0 := by rw [eM20, li_ui_at, if_pos rfl, if_pos rfl]; rfl
    refine li_aload_n 1 dX12_best_45 rfl ?_
    refine li_iload_n 0 dX12_best_46 rfl ?_
    refine li_callV (n := 1) (As := [.int x17]) dX12_best_47 (k_X12_tell (d - 1) (by omega) x17 M20 hJ (by omega)) (by omega) (Nat.le_of_ble_eq_true rfl) w_1783 w_1785 w_77 w_112 w_1786 (by decide +kernel) rfl (by decide) sh_175 rfl rfl (Nat.le_of_ble_eq_true rfl) (fun r M22 h23 => ?_)
    obtain ⟨rfl, h23, jM22, nM22⟩ := h23
    have hf := li_fs_trans hf h23 (fun i k => fun h => Or.elim h (fun h => Or.inl h) (fun h => Or.inr (Or.inr (Or.inr (Or.inr (Or.inr (Or.inr (Or.inr (Or.inr (Or.inr (Or.inr h)))))))))))
    have hJ := jM22
    have rM22_1 := J_sl1 (M := M22) hJ
    have rM22_9 := J_sl9 (M := M22) hJ
    have mM22_1 : (M22.1 175 1).toInt = (M20.1 175 1).toInt := tl_slot (h23.1 175 1 (show ¬ (175 = 181 ∨ (175 = 175 ∧ 1 = 9)) by decide))
    refine li_aload_n 1 dX12_best_50 rfl ?_
    refine li_aload_n 1 dX12_best_51 rfl ?_
    refine li_iload_n 0 dX12_best_52 rfl ?_
    refine li_callV (n := 1) (As := [.int x17]) dX12_best_53 (k_X12_sumOf (d - 1) (by omega) x17 M22 hJ ) (by omega) (Nat.le_of_ble_eq_true rfl) w_1827 w_1829 w_85 w_112 w_1830 (by decide +kernel) rfl (by decide) sh_175 rfl rfl (Nat.le_of_ble_eq_true rfl) (fun r M25 h26 => ?_)
    obtain ⟨⟨x24, rfl⟩, h26, jM25⟩ := h26
    have gx24 := tl_rg x24
    have hf := li_fs_trans hf h26 (fun i k h => False.elim h)
    have hJ := jM25
    have rM25_1 := J_sl1 (M := M25) hJ
    have rM25_9 := J_sl9 (M := M25) hJ
    have mM25_1 : (M25.1 175 1).toInt = (M22.1 175 1).toInt := tl_slot (h26.1 175 1 id)
    have mM25_9 : (M25.1 175 9).toInt = (M22.1 175 9).toInt := tl_slot (h26.1 175 9 id)
    refine li_callV (n := 1) (As := [.int x24]) dX12_best_56 (k_X12_tell (d - 1) (by omega) x24 M25 hJ (by omega)) (by omega) (Nat.le_of_ble_eq_true rfl) w_1783 w_1785 w_77 w_112 w_1786 (by decide +kernel) rfl (by decide) sh_175 rfl rfl (Nat.le_of_ble_eq_true rfl) (fun r M28 h29 => ?_)
    obtain ⟨rfl, h29, jM28, nM28⟩ := h29
    have hf := li_fs_trans hf h29 (fun i k => fun h => Or.elim h (fun h => Or.inl h) (fun h => Or.inr (Or.inr (Or.inr (Or.inr (Or.inr (Or.inr (Or.inr (Or.inr (Or.inr (Or.inr h)))))))))))
    have hJ := jM28
    have rM28_1 := J_sl1 (M := M28) hJ
    have rM28_9 := J_sl9 (M := M28) hJ
    have mM28_1 : (M28.1 175 1).toInt = (M25.1 175 1).toInt := tl_slot (h29.1 175 1 (show ¬ (175 = 181 ∨ (175 = 175 ∧ 1 = 9)) by decide))
    refine li_aload_n 1 dX12_best_59 rfl ?_
    refine li_iload_n 0 dX12_best_60 rfl ?_
    refine li_callV (n := 1) (As := [.int x17]) dX12_best_61 (k_X12_worthOf (d - 1) (by omega) x17 M28 hJ ) (by omega) (Nat.le_of_ble_eq_true rfl) w_1831 w_1833 w_86 w_112 w_1834 (by decide +kernel) rfl (by decide) sh_175 rfl rfl (Nat.le_of_ble_eq_true rfl) (fun r M31 h32 => ?_)
    obtain ⟨⟨x30, rfl⟩, h32, jM31⟩ := h32
    have gx30 := tl_rg x30
    have hf := li_fs_trans hf h32 (fun i k h => False.elim h)
    have hJ := jM31
    have rM31_1 := J_sl1 (M := M31) hJ
    have rM31_9 := J_sl9 (M := M31) hJ
    have mM31_1 : (M31.1 175 1).toInt = (M28.1 175 1).toInt := tl_slot (h32.1 175 1 id)
    have mM31_9 : (M31.1 175 9).toInt = (M28.1 175 9).toInt := tl_slot (h32.1 175 9 id)
    exact li_iret dX12_best_64 rfl rfl ⟨⟨_, rfl⟩, hf, hJ⟩
  · skip
    refine li_if_ne 15 dX12_best_10 (by decide) (fun c => absurd rfl c) (fun c => ?_)
    refine li_iconst (-1) dX12_best_13 (by decide) ?_
    have zm1 : ((-1) : Int32).toInt = -1 := rfl
    exact li_iret dX12_best_14 rfl rfl ⟨⟨_, rfl⟩, hf, hJ⟩
set_option maxRecDepth 100000 in
set_option maxHeartbeats 4000000 in
theorem k_X12_lacks {l : Launch} {Z : li_Z} (d : Nat) (hd : 344 ≤ d) (p1 : Int32) (M0 : li_M) (hJ : li_J M0) : li_Met l Z YX12_lacks d [.ref (Z.2.2 175), .int p1] M0 (fun r M' => (∃ x : Int32, r = some (.int x)) ∧ li_fs (fun i k => i = 181 ∨ i = 185 ∨ i = 189 ∨ i = 1000 ∨ (i = 175 ∧ k = 10) ∨ (i = 175 ∧ k = 12) ∨ (i = 175 ∧ k = 13) ∨ (i = 175 ∧ k = 14) ∨ (i = 175 ∧ k = 15) ∨ (i = 175 ∧ k = 20) ∨ (i = 175 ∧ k = 9)) M0 M' ∧ li_J M') := by
  refine li_enter (by decide +kernel) (Nat.le_of_ble_eq_true rfl) ?_
  show li_T l Z YX12_lacks d 0 [(0, .ref (Z.2.2 175)), (1, .int p1)] [] M0 _
  have hf : li_fs (fun i k => i = 181 ∨ i = 185 ∨ i = 189 ∨ i = 1000 ∨ (i = 175 ∧ k = 10) ∨ (i = 175 ∧ k = 12) ∨ (i = 175 ∧ k = 13) ∨ (i = 175 ∧ k = 14) ∨ (i = 175 ∧ k = 15) ∨ (i = 175 ∧ k = 20) ∨ (i = 175 ∧ k = 9)) M0 M0 := li_fs_refl
  have gp1 := tl_rg p1
  have rM0_1 := J_sl1 (M := M0) hJ
  have rM0_9 := J_sl9 (M := M0) hJ
  refine li_aload_n 0 dX12_lacks_0 rfl ?_
  refine li_iconst 0 dX12_lacks_1 (by decide) ?_
  refine li_puti (k := 10) (N := 52) (T := TX12) (C0 := RX12) dX12_lacks_2 (by decide) sh_175 rfl rfl (by decide) li_in12 tyX12_ok nmX12 rfl rfl rfl rfl w_1414 ?_
  refine li_nm (fun M1 eM1 => ?_)
  have hf := li_fs_ui hf (Or.inr (Or.inr (Or.inr (Or.inr (Or.inl ⟨rfl, rfl⟩))))) eM1
  have z0 : (0 : Int32).toInt = 0 := rfl
  have hJ := hJ.put (k := 10) (by decide) (rg_free rfl) eM1
  have rM1_1 := J_sl1 (M := M1) hJ
  have rM1_9 := J_sl9 (M := M1) hJ
  have mM1_1 : (M1.1 175 1).toInt = (M0.1 175 1).toInt := by rw [eM1, li_ui_at, if_pos rfl, if_neg (by decide)]
  have mM1_9 : (M1.1 175 9).toInt = (M0.1 175 9).toInt := by rw [eM1, li_ui_at, if_pos rfl, if_neg (by decide)]
  refine li_aload_n 0 dX12_lacks_5 rfl ?_
  refine li_iload_n 1 dX12_lacks_6 rfl ?_
  refine li_callV (n := 1) (As := [.int p1]) dX12_lacks_7 (k_X12_isOne (d - 1) (by omega) p1 M1 hJ ) (by omega) (Nat.le_of_ble_eq_true rfl) w_1648 w_1650 w_56 w_112 w_1651 (by decide +kernel) rfl (by decide) sh_175 rfl rfl (Nat.le_of_ble_eq_true rfl) (fun r M3 h4 => ?_)
  obtain ⟨qx2, h4, jM3⟩ := h4
  have hf := li_fs_trans hf h4 (fun i k h => False.elim h)
  have hJ := jM3
  have rM3_1 := J_sl1 (M := M3) hJ
  have rM3_9 := J_sl9 (M := M3) hJ
  have mM3_1 : (M3.1 175 1).toInt = (M1.1 175 1).toInt := tl_slot (h4.1 175 1 id)
  have mM3_9 : (M3.1 175 9).toInt = (M1.1 175 9).toInt := tl_slot (h4.1 175 9 id)
  rcases qx2 with ⟨rfl, qx2⟩ | ⟨rfl, qx2⟩
  · skip
    refine li_if_ne 15 dX12_lacks_10 (by decide) (fun c => ?_) (fun c => absurd c (by decide))
    refine li_aload_n 0 dX12_lacks_15 rfl ?_
    refine li_callV (n := 0) (As := []) dX12_lacks_16 (k_X12_layLeast (d - 1) (by omega)  M3 hJ ) (by omega) (Nat.le_of_ble_eq_true rfl) w_1807 w_1809 w_80 w_112 w_1810 (by decide +kernel) rfl (by decide) sh_175 rfl rfl (Nat.le_of_ble_eq_true rfl) (fun r M7 h8 => ?_)
    obtain ⟨rfl, h8, jM7⟩ := h8
    have hf := li_fs_trans hf h8 (fun i k => fun h => Or.elim h (fun h => Or.inr (Or.inl h)) (fun h => Or.elim h (fun h => Or.inr (Or.inr (Or.inl h))) (fun h => Or.elim h (fun h => Or.inr (Or.inr (Or.inr (Or.inl h)))) (fun h => Or.elim h (fun h => Or.inr (Or.inr (Or.inr (Or.inr (Or.inr (Or.inl h)))))) (fun h => Or.elim h (fun h => Or.inr (Or.inr (Or.inr (Or.inr (Or.inr (Or.inr (Or.inl h))))))) (fun h => Or.elim h (fun h => Or.inr (Or.inr (Or.inr (Or.inr (Or.inr (Or.inr (Or.inr (Or.inl h)))))))) (fun h => Or.elim h (fun h => Or.inr (Or.inr (Or.inr (Or.inr (Or.inr (Or.inr (Or.inr (Or.inr (Or.inl h))))))))) (fun h => Or.inr (Or.inr (Or.inr (Or.inr (Or.inr (Or.inr (Or.inr (Or.inr (Or.inr (Or.inl h)))))))))))))))))
    have hJ := jM7
    have rM7_1 := J_sl1 (M := M7) hJ
    have rM7_9 := J_sl9 (M := M7) hJ
    have mM7_1 : (M7.1 175 1).toInt = (M3.1 175 1).toInt := tl_slot (h8.1 175 1 (show ¬ (175 = 185 ∨ 175 = 189 ∨ 175 = 1000 ∨ (175 = 175 ∧ 1 = 12) ∨ (175 = 175 ∧ 1 = 13) ∨ (175 = 175 ∧ 1 = 14) ∨ (175 = 175 ∧ 1 = 15) ∨ (175 = 175 ∧ 1 = 20)) by decide))
    have mM7_9 : (M7.1 175 9).toInt = (M3.1 175 9).toInt := tl_slot (h8.1 175 9 (show ¬ (175 = 185 ∨ 175 = 189 ∨ 175 = 1000 ∨ (175 = 175 ∧ 9 = 12) ∨ (175 = 175 ∧ 9 = 13) ∨ (175 = 175 ∧ 9 = 14) ∨ (175 = 175 ∧ 9 = 15) ∨ (175 = 175 ∧ 9 = 20)) by decide))
    refine li_aload_n 0 dX12_lacks_19 rfl ?_
    refine li_iload_n 1 dX12_lacks_20 rfl ?_
    refine li_callV (n := 1) (As := [.int p1]) dX12_lacks_21 (k_X12_thingsOf (d - 1) (by omega) p1 M7 hJ ) (by omega) (Nat.le_of_ble_eq_true rfl) w_1815 w_1817 w_82 w_112 w_1818 (by decide +kernel) rfl (by decide) sh_175 rfl rfl (Nat.le_of_ble_eq_true rfl) (fun r M10 h11 => ?_)
    obtain ⟨⟨x9, rfl, qx9⟩, h11, jM10⟩ := h11
    have gx9 := tl_rg x9
    have hf := li_fs_trans hf h11 (fun i k h => False.elim h)
    have hJ := jM10
    have rM10_1 := J_sl1 (M := M10) hJ
    have rM10_9 := J_sl9 (M := M10) hJ
    have mM10_1 : (M10.1 175 1).toInt = (M7.1 175 1).toInt := tl_slot (h11.1 175 1 id)
    have mM10_9 : (M10.1 175 9).toInt = (M7.1 175 9).toInt := tl_slot (h11.1 175 9 id)
    refine li_aload_n 0 dX12_lacks_24 rfl ?_
    refine li_callV (n := 0) (As := []) dX12_lacks_25 (k_X12_today (d - 1) (by omega)  M10 hJ ) (by omega) (Nat.le_of_ble_eq_true rfl) w_1819 w_1821 w_83 w_112 w_1822 (by decide +kernel) rfl (by decide) sh_175 rfl rfl (Nat.le_of_ble_eq_true rfl) (fun r M13 h14 => ?_)
    obtain ⟨⟨x12, rfl, qx12⟩, h14, jM13⟩ := h14
    have gx12 := tl_rg x12
    have hf := li_fs_trans hf h14 (fun i k h => False.elim h)
    have hJ := jM13
    have rM13_1 := J_sl1 (M := M13) hJ
    have rM13_9 := J_sl9 (M := M13) hJ
    have mM13_1 : (M13.1 175 1).toInt = (M10.1 175 1).toInt := tl_slot (h14.1 175 1 id)
    have mM13_9 : (M13.1 175 9).toInt = (M10.1 175 9).toInt := tl_slot (h14.1 175 9 id)
    refine li_iand dX12_lacks_28 ?_
    refine li_top (fun x15 ex15 => ?_)
    first | (have tx15 := tl_andR ex15 (by omega)) | (have tx15 := tl_andL ex15 (by omega)) | skip
    refine li_istore_n [(2, .int x15), (0, .ref (Z.2.2 175)), (1, .int p1)] dX12_lacks_29 (by decide) rfl ?_
    refine li_aload_n 1 dX12_lacks_30 rfl ?_
    refine li_iconst 0 dX12_lacks_31 (by decide) ?_
    refine li_puti (k := 9) (N := 52) (T := TX12) (C0 := RX12) dX12_lacks_32 (by decide) sh_175 rfl rfl (by decide) li_in12 tyX12_ok nmX12 rfl rfl rfl rfl w_1413 ?_
    refine li_nm (fun M16 eM16 => ?_)
    have hf := li_fs_ui hf (Or.inr (Or.inr (Or.inr (Or.inr (Or.inr (Or.inr (Or.inr (Or.inr (Or.inr (Or.inr (⟨rfl, rfl⟩))))))))))) eM16
    have z0 : (0 : Int32).toInt = 0 := rfl
    have hJ := J_pt9 hJ (show 0 ≤ (0 : Int32).toInt ∧ (0 : Int32).toInt ≤ 20 by omega) eM16
    have rM16_1 := J_sl1 (M := M16) hJ
    have rM16_9 := J_sl9 (M := M16) hJ
    have mM16_1 : (M16.1 175 1).toInt = (M13.1 175 1).toInt := by rw [eM16, li_ui_at, if_pos rfl, if_neg (by decide)]
    have mM16_9 : (M16.1 175 9).toInt = 0 := by rw [eM16, li_ui_at, if_pos rfl, if_pos rfl]; rfl
    refine li_aload_n 1 dX12_lacks_35 rfl ?_
    refine li_aload_n 1 dX12_lacks_36 rfl ?_
    refine li_iload_n 0 dX12_lacks_37 rfl ?_
    refine li_callV (n := 1) (As := [.int x15]) dX12_lacks_38 (k_X12_sumOf (d - 1) (by omega) x15 M16 hJ ) (by omega) (Nat.le_of_ble_eq_true rfl) w_1827 w_1829 w_85 w_112 w_1830 (by decide +kernel) rfl (by decide) sh_175 rfl rfl (Nat.le_of_ble_eq_true rfl) (fun r M18 h19 => ?_)
    obtain ⟨⟨x17, rfl⟩, h19, jM18⟩ := h19
    have gx17 := tl_rg x17
    have hf := li_fs_trans hf h19 (fun i k h => False.elim h)
    have hJ := jM18
    have rM18_1 := J_sl1 (M := M18) hJ
    have rM18_9 := J_sl9 (M := M18) hJ
    have mM18_1 : (M18.1 175 1).toInt = (M16.1 175 1).toInt := tl_slot (h19.1 175 1 id)
    have mM18_9 : (M18.1 175 9).toInt = (M16.1 175 9).toInt := tl_slot (h19.1 175 9 id)
    refine li_callV (n := 1) (As := [.int x17]) dX12_lacks_41 (k_X12_tell (d - 1) (by omega) x17 M18 hJ (by omega)) (by omega) (Nat.le_of_ble_eq_true rfl) w_1783 w_1785 w_77 w_112 w_1786 (by decide +kernel) rfl (by decide) sh_175 rfl rfl (Nat.le_of_ble_eq_true rfl) (fun r M21 h22 => ?_)
    obtain ⟨rfl, h22, jM21, nM21⟩ := h22
    have hf := li_fs_trans hf h22 (fun i k => fun h => Or.elim h (fun h => Or.inl h) (fun h => Or.inr (Or.inr (Or.inr (Or.inr (Or.inr (Or.inr (Or.inr (Or.inr (Or.inr (Or.inr h)))))))))))
    have hJ := jM21
    have rM21_1 := J_sl1 (M := M21) hJ
    have rM21_9 := J_sl9 (M := M21) hJ
    have mM21_1 : (M21.1 175 1).toInt = (M18.1 175 1).toInt := tl_slot (h22.1 175 1 (show ¬ (175 = 181 ∨ (175 = 175 ∧ 1 = 9)) by decide))
    refine li_aload_n 1 dX12_lacks_44 rfl ?_
    refine li_iload_n 0 dX12_lacks_45 rfl ?_
    refine li_callS (n := 1) (As := [.int x15]) dX12_lacks_46 (k_J6_bitCount_0f7a4 (d - 1) (by omega) x15 M21) (by omega) (Nat.le_of_ble_eq_true rfl) w_1696 w_822 w_123 w_823 (by decide +kernel) rfl rfl (Nat.le_of_ble_eq_true rfl) (fun r M24 h25 => ?_)
    obtain ⟨⟨x23, rfl⟩, h25⟩ := h25
    have eM24 : M24 = M21 := li_fr_none h25
    have hf : li_fs (fun i k => i = 181 ∨ i = 185 ∨ i = 189 ∨ i = 1000 ∨ (i = 175 ∧ k = 10) ∨ (i = 175 ∧ k = 12) ∨ (i = 175 ∧ k = 13) ∨ (i = 175 ∧ k = 14) ∨ (i = 175 ∧ k = 15) ∨ (i = 175 ∧ k = 20) ∨ (i = 175 ∧ k = 9)) M0 M24 := by rw [eM24]; exact hf
    have hJ : li_J M24 := by rw [eM24]; exact hJ
    have rM24_1 := J_sl1 (M := M24) hJ
    have rM24_9 := J_sl9 (M := M24) hJ
    have mM24_1 : (M24.1 175 1).toInt = (M21.1 175 1).toInt := by rw [eM24]
    have mM24_9 : (M24.1 175 9).toInt = (M21.1 175 9).toInt := by rw [eM24]
    have gx23 := tl_rg x23
    refine li_callV (n := 1) (As := [.int x23]) dX12_lacks_49 (k_X12_tell (d - 1) (by omega) x23 M24 hJ (by omega)) (by omega) (Nat.le_of_ble_eq_true rfl) w_1783 w_1785 w_77 w_112 w_1786 (by decide +kernel) rfl (by decide) sh_175 rfl rfl (Nat.le_of_ble_eq_true rfl) (fun r M27 h28 => ?_)
    obtain ⟨rfl, h28, jM27, nM27⟩ := h28
    have hf := li_fs_trans hf h28 (fun i k => fun h => Or.elim h (fun h => Or.inl h) (fun h => Or.inr (Or.inr (Or.inr (Or.inr (Or.inr (Or.inr (Or.inr (Or.inr (Or.inr (Or.inr h)))))))))))
    have hJ := jM27
    have rM27_1 := J_sl1 (M := M27) hJ
    have rM27_9 := J_sl9 (M := M27) hJ
    have mM27_1 : (M27.1 175 1).toInt = (M24.1 175 1).toInt := tl_slot (h28.1 175 1 (show ¬ (175 = 181 ∨ (175 = 175 ∧ 1 = 9)) by decide))
    refine li_iconst 0 dX12_lacks_52 (by decide) ?_
    refine li_aload_n 1 dX12_lacks_53 rfl ?_
    refine li_iload_n 0 dX12_lacks_54 rfl ?_
    refine li_callV (n := 1) (As := [.int x15]) dX12_lacks_55 (k_X12_sumOf (d - 1) (by omega) x15 M27 hJ ) (by omega) (Nat.le_of_ble_eq_true rfl) w_1827 w_1829 w_85 w_112 w_1830 (by decide +kernel) rfl (by decide) sh_175 rfl rfl (Nat.le_of_ble_eq_true rfl) (fun r M30 h31 => ?_)
    obtain ⟨⟨x29, rfl⟩, h31, jM30⟩ := h31
    have gx29 := tl_rg x29
    have hf := li_fs_trans hf h31 (fun i k h => False.elim h)
    have hJ := jM30
    have rM30_1 := J_sl1 (M := M30) hJ
    have rM30_9 := J_sl9 (M := M30) hJ
    have mM30_1 : (M30.1 175 1).toInt = (M27.1 175 1).toInt := tl_slot (h31.1 175 1 id)
    have mM30_9 : (M30.1 175 9).toInt = (M27.1 175 9).toInt := tl_slot (h31.1 175 9 id)
    refine li_aload_n 1 dX12_lacks_58 rfl ?_
    refine li_getr (k := 0) (N := 52) (T := TX12) (C0 := RX12) dX12_lacks_59 (by decide) sh_175 rfl rfl (by decide) (by decide) li_in12 w_1404 ?_
    refine li_iload_n 2 dX12_lacks_62 rfl ?_
    refine li_iald dX12_lacks_63 (by decide) sh_176 (tl_in (by omega)) ?_
    refine li_top (fun x32 ex32 => ?_)
    have gx32 := tl_rg x32
    try (have ox32 : (p1 : Int32).toInt % 51 = (p1 : Int32).toInt := by omega)
    have lx32 : ((p1 : Int32).toInt % 51 = 20 → 0 ≤ x32.toInt ∧ x32.toInt ≤ 6) ∧ (21 ≤ (p1 : Int32).toInt % 51 → ((p1 : Int32).toInt % 51 - 21) % 5 < 2 → 0 ≤ x32.toInt ∧ x32.toInt ≤ 5) := hJ.ldLed (by unfold li_led; omega) ex32 (by omega)
    refine li_isub dX12_lacks_64 ?_
    refine li_top (fun x33 ex33 => ?_)
    try (have tx33 : x33.toInt = (x29 : Int32).toInt - (x32 : Int32).toInt := tl_sub ex33 (by omega))
    refine li_mmax dX12_lacks_65 (by omega) w_1403 w_642 w_113 w_643 (Nat.le_of_ble_eq_true rfl) ?_
    refine li_top (fun x34 ex34 => ?_)
    have z0 : (0 : Int32).toInt = 0 := rfl
    have tx34 := tl_max2 ex34
    exact li_iret dX12_lacks_68 rfl rfl ⟨⟨_, rfl⟩, hf, hJ⟩
  · skip
    refine li_if_ne 15 dX12_lacks_10 (by decide) (fun c => absurd rfl c) (fun c => ?_)
    refine li_iconst (-1) dX12_lacks_13 (by decide) ?_
    have zm1 : ((-1) : Int32).toInt = -1 := rfl
    exact li_iret dX12_lacks_14 rfl rfl ⟨⟨_, rfl⟩, hf, hJ⟩
set_option maxRecDepth 100000 in
set_option maxHeartbeats 4000000 in
theorem k_X12_pool {l : Launch} {Z : li_Z} (d : Nat) (hd : 344 ≤ d) (M0 : li_M) (hJ : li_J M0) : li_Met l Z YX12_pool d [.ref (Z.2.2 175)] M0 (fun r M' => (∃ x : Int32, r = some (.int x)) ∧ li_fs (fun i k => i = 181 ∨ i = 185 ∨ i = 189 ∨ i = 1000 ∨ (i = 175 ∧ k = 10) ∨ (i = 175 ∧ k = 12) ∨ (i = 175 ∧ k = 13) ∨ (i = 175 ∧ k = 14) ∨ (i = 175 ∧ k = 15) ∨ (i = 175 ∧ k = 20) ∨ (i = 175 ∧ k = 9)) M0 M' ∧ li_J M') := by
  refine li_enter (by decide +kernel) (Nat.le_of_ble_eq_true rfl) ?_
  show li_T l Z YX12_pool d 0 [(0, .ref (Z.2.2 175))] [] M0 _
  have hf : li_fs (fun i k => i = 181 ∨ i = 185 ∨ i = 189 ∨ i = 1000 ∨ (i = 175 ∧ k = 10) ∨ (i = 175 ∧ k = 12) ∨ (i = 175 ∧ k = 13) ∨ (i = 175 ∧ k = 14) ∨ (i = 175 ∧ k = 15) ∨ (i = 175 ∧ k = 20) ∨ (i = 175 ∧ k = 9)) M0 M0 := li_fs_refl
  have rM0_9 := J_sl9 (M := M0) hJ
  refine li_aload_n 0 dX12_pool_0 rfl ?_
  refine li_iconst 0 dX12_pool_1 (by decide) ?_
  refine li_puti (k := 10) (N := 52) (T := TX12) (C0 := RX12) dX12_pool_2 (by decide) sh_175 rfl rfl (by decide) li_in12 tyX12_ok nmX12 rfl rfl rfl rfl w_1414 ?_
  refine li_nm (fun M1 eM1 => ?_)
  have hf := li_fs_ui hf (Or.inr (Or.inr (Or.inr (Or.inr (Or.inl ⟨rfl, rfl⟩))))) eM1
  have z0 : (0 : Int32).toInt = 0 := rfl
  have hJ := hJ.put (k := 10) (by decide) (rg_free rfl) eM1
  have rM1_9 := J_sl9 (M := M1) hJ
  have mM1_9 : (M1.1 175 9).toInt = (M0.1 175 9).toInt := by rw [eM1, li_ui_at, if_pos rfl, if_neg (by decide)]
  refine li_aload_n 0 dX12_pool_5 rfl ?_
  refine li_callV (n := 0) (As := []) dX12_pool_6 (k_X12_layLeast (d - 1) (by omega)  M1 hJ ) (by omega) (Nat.le_of_ble_eq_true rfl) w_1807 w_1809 w_80 w_112 w_1810 (by decide +kernel) rfl (by decide) sh_175 rfl rfl (Nat.le_of_ble_eq_true rfl) (fun r M3 h4 => ?_)
  obtain ⟨rfl, h4, jM3⟩ := h4
  have hf := li_fs_trans hf h4 (fun i k => fun h => Or.elim h (fun h => Or.inr (Or.inl h)) (fun h => Or.elim h (fun h => Or.inr (Or.inr (Or.inl h))) (fun h => Or.elim h (fun h => Or.inr (Or.inr (Or.inr (Or.inl h)))) (fun h => Or.elim h (fun h => Or.inr (Or.inr (Or.inr (Or.inr (Or.inr (Or.inl h)))))) (fun h => Or.elim h (fun h => Or.inr (Or.inr (Or.inr (Or.inr (Or.inr (Or.inr (Or.inl h))))))) (fun h => Or.elim h (fun h => Or.inr (Or.inr (Or.inr (Or.inr (Or.inr (Or.inr (Or.inr (Or.inl h)))))))) (fun h => Or.elim h (fun h => Or.inr (Or.inr (Or.inr (Or.inr (Or.inr (Or.inr (Or.inr (Or.inr (Or.inl h))))))))) (fun h => Or.inr (Or.inr (Or.inr (Or.inr (Or.inr (Or.inr (Or.inr (Or.inr (Or.inr (Or.inl h)))))))))))))))))
  have hJ := jM3
  have rM3_9 := J_sl9 (M := M3) hJ
  have mM3_9 : (M3.1 175 9).toInt = (M1.1 175 9).toInt := tl_slot (h4.1 175 9 (show ¬ (175 = 185 ∨ 175 = 189 ∨ 175 = 1000 ∨ (175 = 175 ∧ 9 = 12) ∨ (175 = 175 ∧ 9 = 13) ∨ (175 = 175 ∧ 9 = 14) ∨ (175 = 175 ∧ 9 = 15) ∨ (175 = 175 ∧ 9 = 20)) by decide))
  refine li_aload_n 0 dX12_pool_9 rfl ?_
  refine li_aload_n 0 dX12_pool_10 rfl ?_
  refine li_callV (n := 0) (As := []) dX12_pool_11 (k_X12_today (d - 1) (by omega)  M3 hJ ) (by omega) (Nat.le_of_ble_eq_true rfl) w_1819 w_1821 w_83 w_112 w_1822 (by decide +kernel) rfl (by decide) sh_175 rfl rfl (Nat.le_of_ble_eq_true rfl) (fun r M6 h7 => ?_)
  obtain ⟨⟨x5, rfl, qx5⟩, h7, jM6⟩ := h7
  have gx5 := tl_rg x5
  have hf := li_fs_trans hf h7 (fun i k h => False.elim h)
  have hJ := jM6
  have rM6_9 := J_sl9 (M := M6) hJ
  have mM6_9 : (M6.1 175 9).toInt = (M3.1 175 9).toInt := tl_slot (h7.1 175 9 id)
  refine li_aload_n 0 dX12_pool_14 rfl ?_
  refine li_callV (n := 0) (As := []) dX12_pool_15 (k_X12_allClocks (d - 1) (by omega)  M6 hJ ) (by omega) (Nat.le_of_ble_eq_true rfl) w_1843 w_1845 w_87 w_112 w_1846 (by decide +kernel) rfl (by decide) sh_175 rfl rfl (Nat.le_of_ble_eq_true rfl) (fun r M9 h10 => ?_)
  obtain ⟨⟨x8, rfl⟩, h10, jM9⟩ := h10
  have gx8 := tl_rg x8
  have hf := li_fs_trans hf h10 (fun i k h => False.elim h)
  have hJ := jM9
  have rM9_9 := J_sl9 (M := M9) hJ
  have mM9_9 : (M9.1 175 9).toInt = (M6.1 175 9).toInt := tl_slot (h10.1 175 9 id)
  refine li_callV (n := 2) (As := [.int x5, .int x8]) dX12_pool_18 (k_X12_bestSet (d - 1) (by omega) x5 x8 M9 hJ (by omega)) (by omega) (Nat.le_of_ble_eq_true rfl) w_1823 w_1825 w_84 w_112 w_1826 (by decide +kernel) rfl (by decide) sh_175 rfl rfl (Nat.le_of_ble_eq_true rfl) (fun r M12 h13 => ?_)
  obtain ⟨⟨x11, rfl⟩, h13, jM12⟩ := h13
  have gx11 := tl_rg x11
  have hf := li_fs_trans hf h13 (fun i k h => False.elim h)
  have hJ := jM12
  have rM12_9 := J_sl9 (M := M12) hJ
  have mM12_9 : (M12.1 175 9).toInt = (M9.1 175 9).toInt := tl_slot (h13.1 175 9 id)
  refine li_istore_n [(1, .int x11), (0, .ref (Z.2.2 175))] dX12_pool_21 (by decide) rfl ?_
  refine li_aload_n 1 dX12_pool_22 rfl ?_
  refine li_iconst 0 dX12_pool_23 (by decide) ?_
  refine li_puti (k := 9) (N := 52) (T := TX12) (C0 := RX12) dX12_pool_24 (by decide) sh_175 rfl rfl (by decide) li_in12 tyX12_ok nmX12 rfl rfl rfl rfl w_1413 ?_
  refine li_nm (fun M14 eM14 => ?_)
  have hf := li_fs_ui hf (Or.inr (Or.inr (Or.inr (Or.inr (Or.inr (Or.inr (Or.inr (Or.inr (Or.inr (Or.inr (⟨rfl, rfl⟩))))))))))) eM14
  have z0 : (0 : Int32).toInt = 0 := rfl
  have hJ := J_pt9 hJ (show 0 ≤ (0 : Int32).toInt ∧ (0 : Int32).toInt ≤ 20 by omega) eM14
  have rM14_9 := J_sl9 (M := M14) hJ
  have mM14_9 : (M14.1 175 9).toInt = 0 := by rw [eM14, li_ui_at, if_pos rfl, if_pos rfl]; rfl
  refine li_aload_n 1 dX12_pool_27 rfl ?_
  refine li_iload_n 0 dX12_pool_28 rfl ?_
  refine li_callV (n := 1) (As := [.int x11]) dX12_pool_29 (k_X12_tell (d - 1) (by omega) x11 M14 hJ (by omega)) (by omega) (Nat.le_of_ble_eq_true rfl) w_1783 w_1785 w_77 w_112 w_1786 (by decide +kernel) rfl (by decide) sh_175 rfl rfl (Nat.le_of_ble_eq_true rfl) (fun r M16 h17 => ?_)
  obtain ⟨rfl, h17, jM16, nM16⟩ := h17
  have hf := li_fs_trans hf h17 (fun i k => fun h => Or.elim h (fun h => Or.inl h) (fun h => Or.inr (Or.inr (Or.inr (Or.inr (Or.inr (Or.inr (Or.inr (Or.inr (Or.inr (Or.inr h)))))))))))
  have hJ := jM16
  have rM16_9 := J_sl9 (M := M16) hJ
  refine li_aload_n 1 dX12_pool_32 rfl ?_
  refine li_aload_n 1 dX12_pool_33 rfl ?_
  refine li_iload_n 0 dX12_pool_34 rfl ?_
  refine li_callV (n := 1) (As := [.int x11]) dX12_pool_35 (k_X12_sumOf (d - 1) (by omega) x11 M16 hJ ) (by omega) (Nat.le_of_ble_eq_true rfl) w_1827 w_1829 w_85 w_112 w_1830 (by decide +kernel) rfl (by decide) sh_175 rfl rfl (Nat.le_of_ble_eq_true rfl) (fun r M19 h20 => ?_)
  obtain ⟨⟨x18, rfl⟩, h20, jM19⟩ := h20
  have gx18 := tl_rg x18
  have hf := li_fs_trans hf h20 (fun i k h => False.elim h)
  have hJ := jM19
  have rM19_9 := J_sl9 (M := M19) hJ
  have mM19_9 : (M19.1 175 9).toInt = (M16.1 175 9).toInt := tl_slot (h20.1 175 9 id)
  refine li_callV (n := 1) (As := [.int x18]) dX12_pool_38 (k_X12_tell (d - 1) (by omega) x18 M19 hJ (by omega)) (by omega) (Nat.le_of_ble_eq_true rfl) w_1783 w_1785 w_77 w_112 w_1786 (by decide +kernel) rfl (by decide) sh_175 rfl rfl (Nat.le_of_ble_eq_true rfl) (fun r M22 h23 => ?_)
  obtain ⟨rfl, h23, jM22, nM22⟩ := h23
  have hf := li_fs_trans hf h23 (fun i k => fun h => Or.elim h (fun h => Or.inl h) (fun h => Or.inr (Or.inr (Or.inr (Or.inr (Or.inr (Or.inr (Or.inr (Or.inr (Or.inr (Or.inr h)))))))))))
  have hJ := jM22
  have rM22_9 := J_sl9 (M := M22) hJ
  refine li_aload_n 1 dX12_pool_41 rfl ?_
  refine li_iload_n 0 dX12_pool_42 rfl ?_
  refine li_callV (n := 1) (As := [.int x11]) dX12_pool_43 (k_X12_worthOf (d - 1) (by omega) x11 M22 hJ ) (by omega) (Nat.le_of_ble_eq_true rfl) w_1831 w_1833 w_86 w_112 w_1834 (by decide +kernel) rfl (by decide) sh_175 rfl rfl (Nat.le_of_ble_eq_true rfl) (fun r M25 h26 => ?_)
  obtain ⟨⟨x24, rfl⟩, h26, jM25⟩ := h26
  have gx24 := tl_rg x24
  have hf := li_fs_trans hf h26 (fun i k h => False.elim h)
  have hJ := jM25
  have rM25_9 := J_sl9 (M := M25) hJ
  have mM25_9 : (M25.1 175 9).toInt = (M22.1 175 9).toInt := tl_slot (h26.1 175 9 id)
  exact li_iret dX12_pool_46 rfl rfl ⟨⟨_, rfl⟩, hf, hJ⟩
set_option maxRecDepth 100000 in
set_option maxHeartbeats 4000000 in
theorem k_X12_gifts {l : Launch} {Z : li_Z} (d : Nat) (hd : 344 ≤ d) (p1 : Int32) (M0 : li_M) (hJ : li_J M0) : li_Met l Z YX12_gifts d [.ref (Z.2.2 175), .int p1] M0 (fun r M' => (∃ x : Int32, r = some (.int x)) ∧ li_fs (fun i k => i = 181 ∨ i = 185 ∨ i = 189 ∨ i = 1000 ∨ (i = 175 ∧ k = 10) ∨ (i = 175 ∧ k = 12) ∨ (i = 175 ∧ k = 13) ∨ (i = 175 ∧ k = 14) ∨ (i = 175 ∧ k = 15) ∨ (i = 175 ∧ k = 20) ∨ (i = 175 ∧ k = 9)) M0 M' ∧ li_J M') := by
  refine li_enter (by decide +kernel) (Nat.le_of_ble_eq_true rfl) ?_
  show li_T l Z YX12_gifts d 0 [(0, .ref (Z.2.2 175)), (1, .int p1)] [] M0 _
  have hf : li_fs (fun i k => i = 181 ∨ i = 185 ∨ i = 189 ∨ i = 1000 ∨ (i = 175 ∧ k = 10) ∨ (i = 175 ∧ k = 12) ∨ (i = 175 ∧ k = 13) ∨ (i = 175 ∧ k = 14) ∨ (i = 175 ∧ k = 15) ∨ (i = 175 ∧ k = 20) ∨ (i = 175 ∧ k = 9)) M0 M0 := li_fs_refl
  have gp1 := tl_rg p1
  have rM0_1 := J_sl1 (M := M0) hJ
  have rM0_9 := J_sl9 (M := M0) hJ
  refine li_aload_n 0 dX12_gifts_0 rfl ?_
  refine li_iconst 0 dX12_gifts_1 (by decide) ?_
  refine li_puti (k := 10) (N := 52) (T := TX12) (C0 := RX12) dX12_gifts_2 (by decide) sh_175 rfl rfl (by decide) li_in12 tyX12_ok nmX12 rfl rfl rfl rfl w_1414 ?_
  refine li_nm (fun M1 eM1 => ?_)
  have hf := li_fs_ui hf (Or.inr (Or.inr (Or.inr (Or.inr (Or.inl ⟨rfl, rfl⟩))))) eM1
  have z0 : (0 : Int32).toInt = 0 := rfl
  have hJ := hJ.put (k := 10) (by decide) (rg_free rfl) eM1
  have rM1_1 := J_sl1 (M := M1) hJ
  have rM1_9 := J_sl9 (M := M1) hJ
  have mM1_1 : (M1.1 175 1).toInt = (M0.1 175 1).toInt := by rw [eM1, li_ui_at, if_pos rfl, if_neg (by decide)]
  have mM1_9 : (M1.1 175 9).toInt = (M0.1 175 9).toInt := by rw [eM1, li_ui_at, if_pos rfl, if_neg (by decide)]
  refine li_iload_n 1 dX12_gifts_5 rfl ?_
  refine li_iconst 0 dX12_gifts_6 (by decide) ?_
  refine li_iconst 1 dX12_gifts_7 (by decide) ?_
  refine li_aload_n 0 dX12_gifts_8 rfl ?_
  refine li_geti (k := 4) (N := 52) (T := TX12) (C0 := RX12) dX12_gifts_9 (by decide) sh_175 rfl rfl (by decide) li_in12 w_1408 ?_
  refine li_top (fun x2 ex2 => ?_)
  have gx2 : 0 ≤ x2.toInt ∧ x2.toInt ≤ 8 := by rw [ex2]; exact J_sl4 hJ
  have sx2 : x2.toInt = (M0.1 175 4).toInt := tl_slot (ex2.trans (hf.1 175 4 (show ¬ (175 = 181 ∨ 175 = 185 ∨ 175 = 189 ∨ 175 = 1000 ∨ (175 = 175 ∧ 4 = 10) ∨ (175 = 175 ∧ 4 = 12) ∨ (175 = 175 ∧ 4 = 13) ∨ (175 = 175 ∧ 4 = 14) ∨ (175 = 175 ∧ 4 = 15) ∨ (175 = 175 ∧ 4 = 20) ∨ (175 = 175 ∧ 4 = 9)) by decide)))
  refine li_ishl dX12_gifts_12 ?_
  refine li_top (fun x3 ex3 => ?_)
  have z1 : (1 : Int32).toInt = 1 := rfl
  try (have tx3 := tl_shl255 ex3 (by omega))
  refine li_iconst 1 dX12_gifts_13 (by decide) ?_
  refine li_isub dX12_gifts_14 ?_
  refine li_top (fun x4 ex4 => ?_)
  have z1 : (1 : Int32).toInt = 1 := rfl
  try (have tx4 : x4.toInt = (x3 : Int32).toInt - (1 : Int32).toInt := tl_sub ex4 (by omega))
  have z0 : (0 : Int32).toInt = 0 := rfl
  refine li_callS (n := 3) (As := [.int p1, .int 0, .int x4]) dX12_gifts_15 (k_X12_in (d - 1) (by omega) p1 0 x4 M1 hJ ) (by omega) (Nat.le_of_ble_eq_true rfl) w_1570 w_1571 w_112 w_1572 (by decide +kernel) rfl rfl (Nat.le_of_ble_eq_true rfl) (fun r M6 h7 => ?_)
  obtain ⟨qx5, h7, jM6⟩ := h7
  have hf := li_fs_trans hf h7 (fun i k h => False.elim h)
  have hJ := jM6
  have rM6_1 := J_sl1 (M := M6) hJ
  have rM6_9 := J_sl9 (M := M6) hJ
  have mM6_1 : (M6.1 175 1).toInt = (M1.1 175 1).toInt := tl_slot (h7.1 175 1 id)
  have mM6_9 : (M6.1 175 9).toInt = (M1.1 175 9).toInt := tl_slot (h7.1 175 9 id)
  rcases qx5 with ⟨rfl, qx5⟩ | ⟨rfl, qx5⟩
  · skip
    refine li_if_ne 23 dX12_gifts_18 (by decide) (fun c => ?_) (fun c => absurd c (by decide))
    refine li_aload_n 0 dX12_gifts_23 rfl ?_
    refine li_callV (n := 0) (As := []) dX12_gifts_24 (k_X12_layLeast (d - 1) (by omega)  M6 hJ ) (by omega) (Nat.le_of_ble_eq_true rfl) w_1807 w_1809 w_80 w_112 w_1810 (by decide +kernel) rfl (by decide) sh_175 rfl rfl (Nat.le_of_ble_eq_true rfl) (fun r M10 h11 => ?_)
    obtain ⟨rfl, h11, jM10⟩ := h11
    have hf := li_fs_trans hf h11 (fun i k => fun h => Or.elim h (fun h => Or.inr (Or.inl h)) (fun h => Or.elim h (fun h => Or.inr (Or.inr (Or.inl h))) (fun h => Or.elim h (fun h => Or.inr (Or.inr (Or.inr (Or.inl h)))) (fun h => Or.elim h (fun h => Or.inr (Or.inr (Or.inr (Or.inr (Or.inr (Or.inl h)))))) (fun h => Or.elim h (fun h => Or.inr (Or.inr (Or.inr (Or.inr (Or.inr (Or.inr (Or.inl h))))))) (fun h => Or.elim h (fun h => Or.inr (Or.inr (Or.inr (Or.inr (Or.inr (Or.inr (Or.inr (Or.inl h)))))))) (fun h => Or.elim h (fun h => Or.inr (Or.inr (Or.inr (Or.inr (Or.inr (Or.inr (Or.inr (Or.inr (Or.inl h))))))))) (fun h => Or.inr (Or.inr (Or.inr (Or.inr (Or.inr (Or.inr (Or.inr (Or.inr (Or.inr (Or.inl h)))))))))))))))))
    have hJ := jM10
    have rM10_1 := J_sl1 (M := M10) hJ
    have rM10_9 := J_sl9 (M := M10) hJ
    have mM10_1 : (M10.1 175 1).toInt = (M6.1 175 1).toInt := tl_slot (h11.1 175 1 (show ¬ (175 = 185 ∨ 175 = 189 ∨ 175 = 1000 ∨ (175 = 175 ∧ 1 = 12) ∨ (175 = 175 ∧ 1 = 13) ∨ (175 = 175 ∧ 1 = 14) ∨ (175 = 175 ∧ 1 = 15) ∨ (175 = 175 ∧ 1 = 20)) by decide))
    have mM10_9 : (M10.1 175 9).toInt = (M6.1 175 9).toInt := tl_slot (h11.1 175 9 (show ¬ (175 = 185 ∨ 175 = 189 ∨ 175 = 1000 ∨ (175 = 175 ∧ 9 = 12) ∨ (175 = 175 ∧ 9 = 13) ∨ (175 = 175 ∧ 9 = 14) ∨ (175 = 175 ∧ 9 = 15) ∨ (175 = 175 ∧ 9 = 20)) by decide))
    refine li_iload_n 1 dX12_gifts_27 rfl ?_
    refine li_aload_n 0 dX12_gifts_28 rfl ?_
    refine li_callV (n := 0) (As := []) dX12_gifts_29 (k_X12_today (d - 1) (by omega)  M10 hJ ) (by omega) (Nat.le_of_ble_eq_true rfl) w_1819 w_1821 w_83 w_112 w_1822 (by decide +kernel) rfl (by decide) sh_175 rfl rfl (Nat.le_of_ble_eq_true rfl) (fun r M13 h14 => ?_)
    obtain ⟨⟨x12, rfl, qx12⟩, h14, jM13⟩ := h14
    have gx12 := tl_rg x12
    have hf := li_fs_trans hf h14 (fun i k h => False.elim h)
    have hJ := jM13
    have rM13_1 := J_sl1 (M := M13) hJ
    have rM13_9 := J_sl9 (M := M13) hJ
    have mM13_1 : (M13.1 175 1).toInt = (M10.1 175 1).toInt := tl_slot (h14.1 175 1 id)
    have mM13_9 : (M13.1 175 9).toInt = (M10.1 175 9).toInt := tl_slot (h14.1 175 9 id)
    refine li_iconst (-1) dX12_gifts_32 (by decide) ?_
    refine li_ixor dX12_gifts_33 ?_
    refine li_top (fun x15 ex15 => ?_)
    refine li_iand dX12_gifts_34 ?_
    refine li_top (fun x16 ex16 => ?_)
    first | (have tx16 := tl_andR ex16 (by omega)) | (have tx16 := tl_andL ex16 (by omega)) | skip
    refine li_if_ne 50 dX12_gifts_35 (by decide) (fun c17 => ?_) (fun c17 => ?_)
    · have tc17 : ¬ x16.toInt = 0 := tl_ne c17
      refine li_bipush (-2) dX12_gifts_50 (by decide) ?_
      have zm2 : ((-2) : Int32).toInt = -2 := rfl
      exact li_iret dX12_gifts_52 rfl rfl ⟨⟨_, rfl⟩, hf, hJ⟩
    · have tc17 : x16.toInt = 0 := tl_eq c17
      refine li_aload_n 0 dX12_gifts_38 rfl ?_
      refine li_iload_n 1 dX12_gifts_39 rfl ?_
      refine li_callV (n := 1) (As := [.int p1]) dX12_gifts_40 (k_X12_sumOf (d - 1) (by omega) p1 M13 hJ ) (by omega) (Nat.le_of_ble_eq_true rfl) w_1827 w_1829 w_85 w_112 w_1830 (by decide +kernel) rfl (by decide) sh_175 rfl rfl (Nat.le_of_ble_eq_true rfl) (fun r M19 h20 => ?_)
      obtain ⟨⟨x18, rfl⟩, h20, jM19⟩ := h20
      have gx18 := tl_rg x18
      have hf := li_fs_trans hf h20 (fun i k h => False.elim h)
      have hJ := jM19
      have rM19_1 := J_sl1 (M := M19) hJ
      have rM19_9 := J_sl9 (M := M19) hJ
      have mM19_1 : (M19.1 175 1).toInt = (M13.1 175 1).toInt := tl_slot (h20.1 175 1 id)
      have mM19_9 : (M19.1 175 9).toInt = (M13.1 175 9).toInt := tl_slot (h20.1 175 9 id)
      refine li_aload_n 0 dX12_gifts_43 rfl ?_
      refine li_callV (n := 0) (As := []) dX12_gifts_44 (k_X12_allClocks (d - 1) (by omega)  M19 hJ ) (by omega) (Nat.le_of_ble_eq_true rfl) w_1843 w_1845 w_87 w_112 w_1846 (by decide +kernel) rfl (by decide) sh_175 rfl rfl (Nat.le_of_ble_eq_true rfl) (fun r M22 h23 => ?_)
      obtain ⟨⟨x21, rfl⟩, h23, jM22⟩ := h23
      have gx21 := tl_rg x21
      have hf := li_fs_trans hf h23 (fun i k h => False.elim h)
      have hJ := jM22
      have rM22_1 := J_sl1 (M := M22) hJ
      have rM22_9 := J_sl9 (M := M22) hJ
      have mM22_1 : (M22.1 175 1).toInt = (M19.1 175 1).toInt := tl_slot (h23.1 175 1 id)
      have mM22_9 : (M22.1 175 9).toInt = (M19.1 175 9).toInt := tl_slot (h23.1 175 9 id)
      refine li_icmp_le 53 dX12_gifts_47 (by decide) (fun c24 => ?_) (fun c24 => ?_)
      · have tc24 : x18.toInt ≤ x21.toInt := tl_le c24
        refine li_iconst 0 dX12_gifts_53 (by decide) ?_
        refine li_istore_n [(2, .int 0), (0, .ref (Z.2.2 175)), (1, .int p1)] dX12_gifts_54 (by decide) rfl ?_
        refine li_iconst 0 dX12_gifts_55 (by decide) ?_
        refine li_istore_n [(3, .int 0), (2, .int 0), (0, .ref (Z.2.2 175)), (1, .int p1)] dX12_gifts_56 (by decide) rfl ?_
        refine li_iconst 0 dX12_gifts_57 (by decide) ?_
        refine li_istore [(4, .int 0), (3, .int 0), (2, .int 0), (0, .ref (Z.2.2 175)), (1, .int p1)] dX12_gifts_58 (by decide) rfl ?_
        have L60 : ∀ (n : Nat) (x25 : Int32) (x26 : Int32) (x27 : Int32) (M28 : li_M), (6 - (x25 : Int32).toInt).toNat < n → li_fs (fun i k => i = 181 ∨ i = 185 ∨ i = 189 ∨ i = 1000 ∨ (i = 175 ∧ k = 10) ∨ (i = 175 ∧ k = 12) ∨ (i = 175 ∧ k = 13) ∨ (i = 175 ∧ k = 14) ∨ (i = 175 ∧ k = 15) ∨ (i = 175 ∧ k = 20) ∨ (i = 175 ∧ k = 9)) M0 M28 → li_J M28 → 0 ≤ (x25 : Int32).toInt → li_T l Z YX12_gifts d 60 [(4, .int x25), (3, .int x26), (2, .int x27), (0, .ref (Z.2.2 175)), (1, .int p1)] [] M28 (fun r M' => (∃ x : Int32, r = some (.int x)) ∧ li_fs (fun i k => i = 181 ∨ i = 185 ∨ i = 189 ∨ i = 1000 ∨ (i = 175 ∧ k = 10) ∨ (i = 175 ∧ k = 12) ∨ (i = 175 ∧ k = 13) ∨ (i = 175 ∧ k = 14) ∨ (i = 175 ∧ k = 15) ∨ (i = 175 ∧ k = 20) ∨ (i = 175 ∧ k = 9)) M0 M' ∧ li_J M') := by
          intro n
          induction n with
          | zero => intro x25 x26 x27 M28 hn; exact absurd hn (Nat.not_lt_zero _)
          | succ n ih60 =>
            intro x25 x26 x27 M28 hn hf hJ hi
            have gx25 := tl_rg x25
            have gx26 := tl_rg x26
            have gx27 := tl_rg x27
            have rM28_1 := J_sl1 (M := M28) hJ
            have rM28_9 := J_sl9 (M := M28) hJ
            have mM28_1 : (M28.1 175 1).toInt = (M0.1 175 1).toInt := tl_slot (hf.1 175 1 (show ¬ (175 = 181 ∨ 175 = 185 ∨ 175 = 189 ∨ 175 = 1000 ∨ (175 = 175 ∧ 1 = 10) ∨ (175 = 175 ∧ 1 = 12) ∨ (175 = 175 ∧ 1 = 13) ∨ (175 = 175 ∧ 1 = 14) ∨ (175 = 175 ∧ 1 = 15) ∨ (175 = 175 ∧ 1 = 20) ∨ (175 = 175 ∧ 1 = 9)) by decide))
            refine li_iload 0 dX12_gifts_60 rfl ?_
            refine li_aload_n 3 dX12_gifts_62 rfl ?_
            refine li_geti (k := 1) (N := 52) (T := TX12) (C0 := RX12) dX12_gifts_63 (by decide) sh_175 rfl rfl (by decide) li_in12 w_1405 ?_
            refine li_top (fun x29 ex29 => ?_)
            have gx29 : 0 ≤ x29.toInt ∧ x29.toInt ≤ 6 := by rw [ex29]; exact J_sl1 hJ
            have mx29 : x29.toInt = (M28.1 175 1).toInt := tl_slot ex29
            have sx29 : x29.toInt = (M0.1 175 1).toInt := tl_slot (ex29.trans (hf.1 175 1 (show ¬ (175 = 181 ∨ 175 = 185 ∨ 175 = 189 ∨ 175 = 1000 ∨ (175 = 175 ∧ 1 = 10) ∨ (175 = 175 ∧ 1 = 12) ∨ (175 = 175 ∧ 1 = 13) ∨ (175 = 175 ∧ 1 = 14) ∨ (175 = 175 ∧ 1 = 15) ∨ (175 = 175 ∧ 1 = 20) ∨ (175 = 175 ∧ 1 = 9)) by decide)))
            refine li_icmp_ge 119 dX12_gifts_66 (by decide) (fun c30 => ?_) (fun c30 => ?_)
            · have tc30 : x29.toInt ≤ x25.toInt := tl_le c30
              refine li_aload_n 3 dX12_gifts_119 rfl ?_
              refine li_iconst 0 dX12_gifts_120 (by decide) ?_
              refine li_puti (k := 9) (N := 52) (T := TX12) (C0 := RX12) dX12_gifts_121 (by decide) sh_175 rfl rfl (by decide) li_in12 tyX12_ok nmX12 rfl rfl rfl rfl w_1413 ?_
              refine li_nm (fun M31 eM31 => ?_)
              have hf := li_fs_ui hf (Or.inr (Or.inr (Or.inr (Or.inr (Or.inr (Or.inr (Or.inr (Or.inr (Or.inr (Or.inr (⟨rfl, rfl⟩))))))))))) eM31
              have z0 : (0 : Int32).toInt = 0 := rfl
              have hJ := J_pt9 hJ (show 0 ≤ (0 : Int32).toInt ∧ (0 : Int32).toInt ≤ 20 by omega) eM31
              have rM31_1 := J_sl1 (M := M31) hJ
              have rM31_9 := J_sl9 (M := M31) hJ
              have mM31_1 : (M31.1 175 1).toInt = (M28.1 175 1).toInt := by rw [eM31, li_ui_at, if_pos rfl, if_neg (by decide)]
              have mM31_9 : (M31.1 175 9).toInt = 0 := by rw [eM31, li_ui_at, if_pos rfl, if_pos rfl]; rfl
              refine li_aload_n 3 dX12_gifts_124 rfl ?_
              refine li_iload_n 1 dX12_gifts_125 rfl ?_
              refine li_callV (n := 1) (As := [.int x26]) dX12_gifts_126 (k_X12_tell (d - 1) (by omega) x26 M31 hJ (by omega)) (by omega) (Nat.le_of_ble_eq_true rfl) w_1783 w_1785 w_77 w_112 w_1786 (by decide +kernel) rfl (by decide) sh_175 rfl rfl (Nat.le_of_ble_eq_true rfl) (fun r M33 h34 => ?_)
              obtain ⟨rfl, h34, jM33, nM33⟩ := h34
              have hf := li_fs_trans hf h34 (fun i k => fun h => Or.elim h (fun h => Or.inl h) (fun h => Or.inr (Or.inr (Or.inr (Or.inr (Or.inr (Or.inr (Or.inr (Or.inr (Or.inr (Or.inr h)))))))))))
              have hJ := jM33
              have rM33_1 := J_sl1 (M := M33) hJ
              have rM33_9 := J_sl9 (M := M33) hJ
              have mM33_1 : (M33.1 175 1).toInt = (M31.1 175 1).toInt := tl_slot (h34.1 175 1 (show ¬ (175 = 181 ∨ (175 = 175 ∧ 1 = 9)) by decide))
              refine li_iload_n 2 dX12_gifts_129 rfl ?_
              exact li_iret dX12_gifts_130 rfl rfl ⟨⟨_, rfl⟩, hf, hJ⟩
            · have tc30 : x25.toInt < x29.toInt := tl_nle c30
              refine li_iconst 0 dX12_gifts_69 (by decide) ?_
              refine li_aload_n 3 dX12_gifts_70 rfl ?_
              refine li_aload_n 3 dX12_gifts_71 rfl ?_
              refine li_iload 0 dX12_gifts_72 rfl ?_
              refine li_callV (n := 1) (As := [.int x25]) dX12_gifts_74 (k_X12_thingsOf (d - 1) (by omega) x25 M28 hJ ) (by omega) (Nat.le_of_ble_eq_true rfl) w_1815 w_1817 w_82 w_112 w_1818 (by decide +kernel) rfl (by decide) sh_175 rfl rfl (Nat.le_of_ble_eq_true rfl) (fun r M36 h37 => ?_)
              obtain ⟨⟨x35, rfl, qx35⟩, h37, jM36⟩ := h37
              have gx35 := tl_rg x35
              have hf := li_fs_trans hf h37 (fun i k h => False.elim h)
              have hJ := jM36
              have rM36_1 := J_sl1 (M := M36) hJ
              have rM36_9 := J_sl9 (M := M36) hJ
              have mM36_1 : (M36.1 175 1).toInt = (M28.1 175 1).toInt := tl_slot (h37.1 175 1 id)
              have mM36_9 : (M36.1 175 9).toInt = (M28.1 175 9).toInt := tl_slot (h37.1 175 9 id)
              refine li_iload_n 4 dX12_gifts_77 rfl ?_
              refine li_iand dX12_gifts_78 ?_
              refine li_top (fun x38 ex38 => ?_)
              first | (have tx38 := tl_andR ex38 (by omega)) | (have tx38 := tl_andL ex38 (by omega)) | skip
              refine li_callV (n := 1) (As := [.int x38]) dX12_gifts_79 (k_X12_sumOf (d - 1) (by omega) x38 M36 hJ ) (by omega) (Nat.le_of_ble_eq_true rfl) w_1827 w_1829 w_85 w_112 w_1830 (by decide +kernel) rfl (by decide) sh_175 rfl rfl (Nat.le_of_ble_eq_true rfl) (fun r M40 h41 => ?_)
              obtain ⟨⟨x39, rfl⟩, h41, jM40⟩ := h41
              have gx39 := tl_rg x39
              have hf := li_fs_trans hf h41 (fun i k h => False.elim h)
              have hJ := jM40
              have rM40_1 := J_sl1 (M := M40) hJ
              have rM40_9 := J_sl9 (M := M40) hJ
              have mM40_1 : (M40.1 175 1).toInt = (M36.1 175 1).toInt := tl_slot (h41.1 175 1 id)
              have mM40_9 : (M40.1 175 9).toInt = (M36.1 175 9).toInt := tl_slot (h41.1 175 9 id)
              refine li_aload_n 3 dX12_gifts_82 rfl ?_
              refine li_getr (k := 0) (N := 52) (T := TX12) (C0 := RX12) dX12_gifts_83 (by decide) sh_175 rfl rfl (by decide) (by decide) li_in12 w_1404 ?_
              refine li_iload 0 dX12_gifts_86 rfl ?_
              refine li_iald dX12_gifts_88 (by decide) sh_176 (tl_in (by omega)) ?_
              refine li_top (fun x42 ex42 => ?_)
              have gx42 := tl_rg x42
              try (have ox42 : (x25 : Int32).toInt % 51 = (x25 : Int32).toInt := by omega)
              have lx42 : ((x25 : Int32).toInt % 51 = 20 → 0 ≤ x42.toInt ∧ x42.toInt ≤ 6) ∧ (21 ≤ (x25 : Int32).toInt % 51 → ((x25 : Int32).toInt % 51 - 21) % 5 < 2 → 0 ≤ x42.toInt ∧ x42.toInt ≤ 5) := hJ.ldLed (by unfold li_led; omega) ex42 (by omega)
              refine li_isub dX12_gifts_89 ?_
              refine li_top (fun x43 ex43 => ?_)
              try (have tx43 : x43.toInt = (x39 : Int32).toInt - (x42 : Int32).toInt := tl_sub ex43 (by omega))
              refine li_mmax dX12_gifts_90 (by omega) w_1403 w_642 w_113 w_643 (Nat.le_of_ble_eq_true rfl) ?_
              refine li_top (fun x44 ex44 => ?_)
              have z0 : (0 : Int32).toInt = 0 := rfl
              have tx44 := tl_max2 ex44
              refine li_istore [(5, .int x44), (4, .int x25), (3, .int x26), (2, .int x27), (0, .ref (Z.2.2 175)), (1, .int p1)] dX12_gifts_93 (by decide) rfl ?_
              refine li_iload_n 3 dX12_gifts_95 rfl ?_
              refine li_iload 0 dX12_gifts_96 rfl ?_
              refine li_iadd dX12_gifts_98 ?_
              refine li_top (fun x45 ex45 => ?_)
              try (have tx45 : x45.toInt = (x27 : Int32).toInt + (x44 : Int32).toInt := tl_add ex45 (by omega))
              refine li_istore_n [(2, .int x45), (5, .int x44), (4, .int x25), (3, .int x26), (0, .ref (Z.2.2 175)), (1, .int p1)] dX12_gifts_99 (by decide) rfl ?_
              refine li_iload_n 3 dX12_gifts_100 rfl ?_
              refine li_iload 1 dX12_gifts_101 rfl ?_
              have J111 : ∀ (x47 : Int32) (M48 : li_M), li_fs (fun i k => i = 181 ∨ i = 185 ∨ i = 189 ∨ i = 1000 ∨ (i = 175 ∧ k = 10) ∨ (i = 175 ∧ k = 12) ∨ (i = 175 ∧ k = 13) ∨ (i = 175 ∧ k = 14) ∨ (i = 175 ∧ k = 15) ∨ (i = 175 ∧ k = 20) ∨ (i = 175 ∧ k = 9)) M0 M48 → li_J M48 → li_T l Z YX12_gifts d 111 [(2, .int x45), (5, .int x44), (4, .int x25), (3, .int x26), (0, .ref (Z.2.2 175)), (1, .int p1)] [.int x47, .int x26] M48 (fun r M' => (∃ x : Int32, r = some (.int x)) ∧ li_fs (fun i k => i = 181 ∨ i = 185 ∨ i = 189 ∨ i = 1000 ∨ (i = 175 ∧ k = 10) ∨ (i = 175 ∧ k = 12) ∨ (i = 175 ∧ k = 13) ∨ (i = 175 ∧ k = 14) ∨ (i = 175 ∧ k = 15) ∨ (i = 175 ∧ k = 20) ∨ (i = 175 ∧ k = 9)) M0 M' ∧ li_J M') := by
                intro x47 M48 hf hJ
                have gx47 := tl_rg x47
                have rM48_1 := J_sl1 (M := M48) hJ
                have rM48_9 := J_sl9 (M := M48) hJ
                have mM48_1 : (M48.1 175 1).toInt = (M0.1 175 1).toInt := tl_slot (hf.1 175 1 (show ¬ (175 = 181 ∨ 175 = 185 ∨ 175 = 189 ∨ 175 = 1000 ∨ (175 = 175 ∧ 1 = 10) ∨ (175 = 175 ∧ 1 = 12) ∨ (175 = 175 ∧ 1 = 13) ∨ (175 = 175 ∧ 1 = 14) ∨ (175 = 175 ∧ 1 = 15) ∨ (175 = 175 ∧ 1 = 20) ∨ (175 = 175 ∧ 1 = 9)) by decide))
                refine li_iadd dX12_gifts_111 ?_
                refine li_top (fun x49 ex49 => ?_)
                try (have tx49 : x49.toInt = (x26 : Int32).toInt + (x47 : Int32).toInt := tl_add ex49 (by omega))
                refine li_istore_n [(3, .int x49), (2, .int x45), (5, .int x44), (4, .int x25), (0, .ref (Z.2.2 175)), (1, .int p1)] dX12_gifts_112 (by decide) rfl ?_
                obtain ⟨x50, ex50⟩ : ∃ y : Int32, y = x25 + 1 := ⟨_, rfl⟩
                have z1 : (1 : Int32).toInt = 1 := rfl
                try (have tx50 : x50.toInt = (x25 : Int32).toInt + (1 : Int32).toInt := tl_add ex50 (by omega))
                refine li_iinc 3 [(4, .int x50), (3, .int x49), (2, .int x45), (5, .int x44), (0, .ref (Z.2.2 175)), (1, .int p1)] x50 dX12_gifts_113 rfl (by rw [ex50]; rfl) (by decide) rfl ?_
                refine li_goto 60 dX12_gifts_116 (by decide) ?_
                refine li_pick [0, 1, 2, 4, 5] [(4, .int x50), (3, .int x49), (2, .int x45), (0, .ref (Z.2.2 175)), (1, .int p1)] rfl ?_
                exact ih60 x50 x49 x45 M48 (by omega) hf hJ (by omega)
              refine li_if_le 110 dX12_gifts_103 (by decide) (fun c46 => ?_) (fun c46 => ?_)
              · have tc46 : x44.toInt ≤ 0 := tl_le c46
                refine li_iconst 0 dX12_gifts_110 (by decide) ?_
                refine li_pick [0, 1, 2, 3, 4, 5] [(2, .int x45), (5, .int x44), (4, .int x25), (3, .int x26), (0, .ref (Z.2.2 175)), (1, .int p1)] rfl ?_
                have z0 : (0 : Int32).toInt = 0 := rfl
                exact J111 0 M40 hf hJ
              · have tc46 : 0 < x44.toInt := tl_nle c46
                refine li_iconst 1 dX12_gifts_106 (by decide) ?_
                refine li_goto 111 dX12_gifts_107 (by decide) ?_
                refine li_pick [0, 1, 2, 3, 4, 5] [(2, .int x45), (5, .int x44), (4, .int x25), (3, .int x26), (0, .ref (Z.2.2 175)), (1, .int p1)] rfl ?_
                have z1 : (1 : Int32).toInt = 1 := rfl
                exact J111 1 M40 hf hJ
        have z0 : (0 : Int32).toInt = 0 := rfl
        have z0 : (0 : Int32).toInt = 0 := rfl
        have z0 : (0 : Int32).toInt = 0 := rfl
        exact L60 _ 0 0 0 M22 (Nat.lt_succ_self _) hf hJ (by omega)
      · have tc24 : x21.toInt < x18.toInt := tl_nle c24
        refine li_bipush (-2) dX12_gifts_50 (by decide) ?_
        have zm2 : ((-2) : Int32).toInt = -2 := rfl
        exact li_iret dX12_gifts_52 rfl rfl ⟨⟨_, rfl⟩, hf, hJ⟩
  · skip
    refine li_if_ne 23 dX12_gifts_18 (by decide) (fun c => absurd rfl c) (fun c => ?_)
    refine li_iconst (-1) dX12_gifts_21 (by decide) ?_
    have zm1 : ((-1) : Int32).toInt = -1 := rfl
    exact li_iret dX12_gifts_22 rfl rfl ⟨⟨_, rfl⟩, hf, hJ⟩
set_option maxRecDepth 100000 in
set_option maxHeartbeats 4000000 in
theorem k_X12_mute {l : Launch} {Z : li_Z} (d : Nat) (hd : 344 ≤ d) (M0 : li_M) (hJ : li_J M0) : li_Met l Z YX12_mute d [.ref (Z.2.2 175)] M0 (fun r M' => (∃ x : Int32, r = some (.int x)) ∧ li_fs (fun i k => i = 181 ∨ i = 185 ∨ i = 189 ∨ i = 1000 ∨ (i = 175 ∧ k = 10) ∨ (i = 175 ∧ k = 12) ∨ (i = 175 ∧ k = 13) ∨ (i = 175 ∧ k = 14) ∨ (i = 175 ∧ k = 15) ∨ (i = 175 ∧ k = 20) ∨ (i = 175 ∧ k = 9)) M0 M' ∧ li_J M') := by
  refine li_enter (by decide +kernel) (Nat.le_of_ble_eq_true rfl) ?_
  show li_T l Z YX12_mute d 0 [(0, .ref (Z.2.2 175))] [] M0 _
  have hf : li_fs (fun i k => i = 181 ∨ i = 185 ∨ i = 189 ∨ i = 1000 ∨ (i = 175 ∧ k = 10) ∨ (i = 175 ∧ k = 12) ∨ (i = 175 ∧ k = 13) ∨ (i = 175 ∧ k = 14) ∨ (i = 175 ∧ k = 15) ∨ (i = 175 ∧ k = 20) ∨ (i = 175 ∧ k = 9)) M0 M0 := li_fs_refl
  have rM0_4 := J_sl4 (M := M0) hJ
  have rM0_9 := J_sl9 (M := M0) hJ
  refine li_aload_n 0 dX12_mute_0 rfl ?_
  refine li_iconst 0 dX12_mute_1 (by decide) ?_
  refine li_puti (k := 10) (N := 52) (T := TX12) (C0 := RX12) dX12_mute_2 (by decide) sh_175 rfl rfl (by decide) li_in12 tyX12_ok nmX12 rfl rfl rfl rfl w_1414 ?_
  refine li_nm (fun M1 eM1 => ?_)
  have hf := li_fs_ui hf (Or.inr (Or.inr (Or.inr (Or.inr (Or.inl ⟨rfl, rfl⟩))))) eM1
  have z0 : (0 : Int32).toInt = 0 := rfl
  have hJ := hJ.put (k := 10) (by decide) (rg_free rfl) eM1
  have rM1_4 := J_sl4 (M := M1) hJ
  have rM1_9 := J_sl9 (M := M1) hJ
  have mM1_4 : (M1.1 175 4).toInt = (M0.1 175 4).toInt := by rw [eM1, li_ui_at, if_pos rfl, if_neg (by decide)]
  have mM1_9 : (M1.1 175 9).toInt = (M0.1 175 9).toInt := by rw [eM1, li_ui_at, if_pos rfl, if_neg (by decide)]
  refine li_aload_n 0 dX12_mute_5 rfl ?_
  refine li_callV (n := 0) (As := []) dX12_mute_6 (k_X12_layLeast (d - 1) (by omega)  M1 hJ ) (by omega) (Nat.le_of_ble_eq_true rfl) w_1807 w_1809 w_80 w_112 w_1810 (by decide +kernel) rfl (by decide) sh_175 rfl rfl (Nat.le_of_ble_eq_true rfl) (fun r M3 h4 => ?_)
  obtain ⟨rfl, h4, jM3⟩ := h4
  have hf := li_fs_trans hf h4 (fun i k => fun h => Or.elim h (fun h => Or.inr (Or.inl h)) (fun h => Or.elim h (fun h => Or.inr (Or.inr (Or.inl h))) (fun h => Or.elim h (fun h => Or.inr (Or.inr (Or.inr (Or.inl h)))) (fun h => Or.elim h (fun h => Or.inr (Or.inr (Or.inr (Or.inr (Or.inr (Or.inl h)))))) (fun h => Or.elim h (fun h => Or.inr (Or.inr (Or.inr (Or.inr (Or.inr (Or.inr (Or.inl h))))))) (fun h => Or.elim h (fun h => Or.inr (Or.inr (Or.inr (Or.inr (Or.inr (Or.inr (Or.inr (Or.inl h)))))))) (fun h => Or.elim h (fun h => Or.inr (Or.inr (Or.inr (Or.inr (Or.inr (Or.inr (Or.inr (Or.inr (Or.inl h))))))))) (fun h => Or.inr (Or.inr (Or.inr (Or.inr (Or.inr (Or.inr (Or.inr (Or.inr (Or.inr (Or.inl h)))))))))))))))))
  have hJ := jM3
  have rM3_4 := J_sl4 (M := M3) hJ
  have rM3_9 := J_sl9 (M := M3) hJ
  have mM3_4 : (M3.1 175 4).toInt = (M1.1 175 4).toInt := tl_slot (h4.1 175 4 (show ¬ (175 = 185 ∨ 175 = 189 ∨ 175 = 1000 ∨ (175 = 175 ∧ 4 = 12) ∨ (175 = 175 ∧ 4 = 13) ∨ (175 = 175 ∧ 4 = 14) ∨ (175 = 175 ∧ 4 = 15) ∨ (175 = 175 ∧ 4 = 20)) by decide))
  have mM3_9 : (M3.1 175 9).toInt = (M1.1 175 9).toInt := tl_slot (h4.1 175 9 (show ¬ (175 = 185 ∨ 175 = 189 ∨ 175 = 1000 ∨ (175 = 175 ∧ 9 = 12) ∨ (175 = 175 ∧ 9 = 13) ∨ (175 = 175 ∧ 9 = 14) ∨ (175 = 175 ∧ 9 = 15) ∨ (175 = 175 ∧ 9 = 20)) by decide))
  refine li_iconst (-1) dX12_mute_9 (by decide) ?_
  refine li_istore_n [(1, .int (-1)), (0, .ref (Z.2.2 175))] dX12_mute_10 (by decide) rfl ?_
  refine li_iconst 0 dX12_mute_11 (by decide) ?_
  refine li_istore_n [(2, .int 0), (1, .int (-1)), (0, .ref (Z.2.2 175))] dX12_mute_12 (by decide) rfl ?_
  have L13 : ∀ (n : Nat) (x5 : Int32) (x6 : Int32) (M7 : li_M), (8 - (x5 : Int32).toInt).toNat < n → li_fs (fun i k => i = 181 ∨ i = 185 ∨ i = 189 ∨ i = 1000 ∨ (i = 175 ∧ k = 10) ∨ (i = 175 ∧ k = 12) ∨ (i = 175 ∧ k = 13) ∨ (i = 175 ∧ k = 14) ∨ (i = 175 ∧ k = 15) ∨ (i = 175 ∧ k = 20) ∨ (i = 175 ∧ k = 9)) M0 M7 → li_J M7 → 0 ≤ (x5 : Int32).toInt ∧ -1 ≤ (x6 : Int32).toInt ∧ (x6 : Int32).toInt ≤ 7 → li_T l Z YX12_mute d 13 [(2, .int x5), (1, .int x6), (0, .ref (Z.2.2 175))] [] M7 (fun r M' => (∃ x : Int32, r = some (.int x)) ∧ li_fs (fun i k => i = 181 ∨ i = 185 ∨ i = 189 ∨ i = 1000 ∨ (i = 175 ∧ k = 10) ∨ (i = 175 ∧ k = 12) ∨ (i = 175 ∧ k = 13) ∨ (i = 175 ∧ k = 14) ∨ (i = 175 ∧ k = 15) ∨ (i = 175 ∧ k = 20) ∨ (i = 175 ∧ k = 9)) M0 M' ∧ li_J M') := by
    intro n
    induction n with
    | zero => intro x5 x6 M7 hn; exact absurd hn (Nat.not_lt_zero _)
    | succ n ih13 =>
      intro x5 x6 M7 hn hf hJ hi
      have gx5 := tl_rg x5
      have gx6 := tl_rg x6
      have rM7_4 := J_sl4 (M := M7) hJ
      have rM7_9 := J_sl9 (M := M7) hJ
      have mM7_4 : (M7.1 175 4).toInt = (M0.1 175 4).toInt := tl_slot (hf.1 175 4 (show ¬ (175 = 181 ∨ 175 = 185 ∨ 175 = 189 ∨ 175 = 1000 ∨ (175 = 175 ∧ 4 = 10) ∨ (175 = 175 ∧ 4 = 12) ∨ (175 = 175 ∧ 4 = 13) ∨ (175 = 175 ∧ 4 = 14) ∨ (175 = 175 ∧ 4 = 15) ∨ (175 = 175 ∧ 4 = 20) ∨ (175 = 175 ∧ 4 = 9)) by decide))
      refine li_iload_n 0 dX12_mute_13 rfl ?_
      refine li_aload_n 2 dX12_mute_14 rfl ?_
      refine li_geti (k := 4) (N := 52) (T := TX12) (C0 := RX12) dX12_mute_15 (by decide) sh_175 rfl rfl (by decide) li_in12 w_1408 ?_
      refine li_top (fun x8 ex8 => ?_)
      have gx8 : 0 ≤ x8.toInt ∧ x8.toInt ≤ 8 := by rw [ex8]; exact J_sl4 hJ
      have mx8 : x8.toInt = (M7.1 175 4).toInt := tl_slot ex8
      have sx8 : x8.toInt = (M0.1 175 4).toInt := tl_slot (ex8.trans (hf.1 175 4 (show ¬ (175 = 181 ∨ 175 = 185 ∨ 175 = 189 ∨ 175 = 1000 ∨ (175 = 175 ∧ 4 = 10) ∨ (175 = 175 ∧ 4 = 12) ∨ (175 = 175 ∧ 4 = 13) ∨ (175 = 175 ∧ 4 = 14) ∨ (175 = 175 ∧ 4 = 15) ∨ (175 = 175 ∧ 4 = 20) ∨ (175 = 175 ∧ 4 = 9)) by decide)))
      refine li_icmp_ge 80 dX12_mute_18 (by decide) (fun c9 => ?_) (fun c9 => ?_)
      · have tc9 : x8.toInt ≤ x5.toInt := tl_le c9
        refine li_iload_n 1 dX12_mute_80 rfl ?_
        refine li_iconst (-1) dX12_mute_81 (by decide) ?_
        refine li_icmp_ne 88 dX12_mute_82 (by decide) (fun c10 => ?_) (fun c10 => ?_)
        · have tc10 : ¬ x6.toInt = (-1) := tl_ne c10
          refine li_aload_n 2 dX12_mute_88 rfl ?_
          refine li_iconst 0 dX12_mute_89 (by decide) ?_
          refine li_puti (k := 9) (N := 52) (T := TX12) (C0 := RX12) dX12_mute_90 (by decide) sh_175 rfl rfl (by decide) li_in12 tyX12_ok nmX12 rfl rfl rfl rfl w_1413 ?_
          refine li_nm (fun M11 eM11 => ?_)
          have hf := li_fs_ui hf (Or.inr (Or.inr (Or.inr (Or.inr (Or.inr (Or.inr (Or.inr (Or.inr (Or.inr (Or.inr (⟨rfl, rfl⟩))))))))))) eM11
          have z0 : (0 : Int32).toInt = 0 := rfl
          have hJ := J_pt9 hJ (show 0 ≤ (0 : Int32).toInt ∧ (0 : Int32).toInt ≤ 20 by omega) eM11
          have rM11_4 := J_sl4 (M := M11) hJ
          have rM11_9 := J_sl9 (M := M11) hJ
          have mM11_4 : (M11.1 175 4).toInt = (M7.1 175 4).toInt := by rw [eM11, li_ui_at, if_pos rfl, if_neg (by decide)]
          have mM11_9 : (M11.1 175 9).toInt = 0 := by rw [eM11, li_ui_at, if_pos rfl, if_pos rfl]; rfl
          refine li_aload_n 2 dX12_mute_93 rfl ?_
          refine li_aload_n 2 dX12_mute_94 rfl ?_
          refine li_getr (k := 29) (N := 52) (T := TX12) (C0 := RX12) dX12_mute_95 (by decide) sh_175 rfl rfl (by decide) (by decide) li_in12 w_1433 ?_
          refine li_iload_n 1 dX12_mute_98 rfl ?_
          refine li_iald dX12_mute_99 (by decide) sh_189 (tl_in (by omega)) ?_
          refine li_top (fun x12 ex12 => ?_)
          have gx12 := tl_rg x12
          refine li_callV (n := 1) (As := [.int x12]) dX12_mute_100 (k_X12_tell (d - 1) (by omega) x12 M11 hJ (by omega)) (by omega) (Nat.le_of_ble_eq_true rfl) w_1783 w_1785 w_77 w_112 w_1786 (by decide +kernel) rfl (by decide) sh_175 rfl rfl (Nat.le_of_ble_eq_true rfl) (fun r M14 h15 => ?_)
          obtain ⟨rfl, h15, jM14, nM14⟩ := h15
          have hf := li_fs_trans hf h15 (fun i k => fun h => Or.elim h (fun h => Or.inl h) (fun h => Or.inr (Or.inr (Or.inr (Or.inr (Or.inr (Or.inr (Or.inr (Or.inr (Or.inr (Or.inr h)))))))))))
          have hJ := jM14
          have rM14_4 := J_sl4 (M := M14) hJ
          have rM14_9 := J_sl9 (M := M14) hJ
          have mM14_4 : (M14.1 175 4).toInt = (M11.1 175 4).toInt := tl_slot (h15.1 175 4 (show ¬ (175 = 181 ∨ (175 = 175 ∧ 4 = 9)) by decide))
          refine li_aload_n 2 dX12_mute_103 rfl ?_
          refine li_aload_n 2 dX12_mute_104 rfl ?_
          refine li_getr (k := 0) (N := 52) (T := TX12) (C0 := RX12) dX12_mute_105 (by decide) sh_175 rfl rfl (by decide) (by decide) li_in12 w_1404 ?_
          refine li_aload_n 2 dX12_mute_108 rfl ?_
          refine li_iload_n 1 dX12_mute_109 rfl ?_
          refine li_iconst 0 dX12_mute_110 (by decide) ?_
          have z0 : (0 : Int32).toInt = 0 := rfl
          refine li_callV (n := 2) (As := [.int x6, .int 0]) dX12_mute_111 (k_X12_field (d - 1) (by omega) x6 0 M14 hJ (by omega) (by omega)) (by omega) (Nat.le_of_ble_eq_true rfl) w_1668 w_1670 w_60 w_112 w_1671 (by decide +kernel) rfl (by decide) sh_175 rfl rfl (Nat.le_of_ble_eq_true rfl) (fun r M17 h18 => ?_)
          obtain ⟨⟨x16, rfl, qx16⟩, h18, jM17⟩ := h18
          have gx16 := tl_rg x16
          have hf := li_fs_trans hf h18 (fun i k h => False.elim h)
          have hJ := jM17
          have rM17_4 := J_sl4 (M := M17) hJ
          have rM17_9 := J_sl9 (M := M17) hJ
          have mM17_4 : (M17.1 175 4).toInt = (M14.1 175 4).toInt := tl_slot (h18.1 175 4 id)
          have mM17_9 : (M17.1 175 9).toInt = (M14.1 175 9).toInt := tl_slot (h18.1 175 9 id)
          refine li_iald dX12_mute_114 (by decide) sh_176 (tl_in (by omega)) ?_
          refine li_top (fun x19 ex19 => ?_)
          have gx19 := tl_rg x19
          try (have ox19 : (x16 : Int32).toInt % 51 = (x16 : Int32).toInt := by omega)
          have lx19 : ((x16 : Int32).toInt % 51 = 20 → 0 ≤ x19.toInt ∧ x19.toInt ≤ 6) ∧ (21 ≤ (x16 : Int32).toInt % 51 → ((x16 : Int32).toInt % 51 - 21) % 5 < 2 → 0 ≤ x19.toInt ∧ x19.toInt ≤ 5) := hJ.ldLed (by unfold li_led; omega) ex19 (by omega)
          refine li_callV (n := 1) (As := [.int x19]) dX12_mute_115 (k_X12_tell (d - 1) (by omega) x19 M17 hJ (by omega)) (by omega) (Nat.le_of_ble_eq_true rfl) w_1783 w_1785 w_77 w_112 w_1786 (by decide +kernel) rfl (by decide) sh_175 rfl rfl (Nat.le_of_ble_eq_true rfl) (fun r M21 h22 => ?_)
          obtain ⟨rfl, h22, jM21, nM21⟩ := h22
          have hf := li_fs_trans hf h22 (fun i k => fun h => Or.elim h (fun h => Or.inl h) (fun h => Or.inr (Or.inr (Or.inr (Or.inr (Or.inr (Or.inr (Or.inr (Or.inr (Or.inr (Or.inr h)))))))))))
          have hJ := jM21
          have rM21_4 := J_sl4 (M := M21) hJ
          have rM21_9 := J_sl9 (M := M21) hJ
          have mM21_4 : (M21.1 175 4).toInt = (M17.1 175 4).toInt := tl_slot (h22.1 175 4 (show ¬ (175 = 181 ∨ (175 = 175 ∧ 4 = 9)) by decide))
          refine li_iload_n 1 dX12_mute_118 rfl ?_
          exact li_iret dX12_mute_119 rfl rfl ⟨⟨_, rfl⟩, hf, hJ⟩
        · have tc10 : x6.toInt = (-1) := tl_eq c10
          refine li_bipush (-2) dX12_mute_85 (by decide) ?_
          have zm2 : ((-2) : Int32).toInt = -2 := rfl
          exact li_iret dX12_mute_87 rfl rfl ⟨⟨_, rfl⟩, hf, hJ⟩
      · have tc9 : x5.toInt < x8.toInt := tl_nle c9
        refine li_aload_n 2 dX12_mute_21 rfl ?_
        refine li_callV (n := 0) (As := []) dX12_mute_22 (k_X12_today (d - 1) (by omega)  M7 hJ ) (by omega) (Nat.le_of_ble_eq_true rfl) w_1819 w_1821 w_83 w_112 w_1822 (by decide +kernel) rfl (by decide) sh_175 rfl rfl (Nat.le_of_ble_eq_true rfl) (fun r M24 h25 => ?_)
        obtain ⟨⟨x23, rfl, qx23⟩, h25, jM24⟩ := h25
        have gx23 := tl_rg x23
        have hf := li_fs_trans hf h25 (fun i k h => False.elim h)
        have hJ := jM24
        have rM24_4 := J_sl4 (M := M24) hJ
        have rM24_9 := J_sl9 (M := M24) hJ
        have mM24_4 : (M24.1 175 4).toInt = (M7.1 175 4).toInt := tl_slot (h25.1 175 4 id)
        have mM24_9 : (M24.1 175 9).toInt = (M7.1 175 9).toInt := tl_slot (h25.1 175 9 id)
        refine li_iload_n 0 dX12_mute_25 rfl ?_
        refine li_callS (n := 2) (As := [.int x23, .int x5]) dX12_mute_26 (k_X12_has (d - 1) (by omega) x23 x5 M24 hJ ) (by omega) (Nat.le_of_ble_eq_true rfl) w_1734 w_1735 w_112 w_1736 (by decide +kernel) rfl rfl (Nat.le_of_ble_eq_true rfl) (fun r M27 h28 => ?_)
        obtain ⟨qx26, h28, jM27⟩ := h28
        have hf := li_fs_trans hf h28 (fun i k h => False.elim h)
        have hJ := jM27
        have rM27_4 := J_sl4 (M := M27) hJ
        have rM27_9 := J_sl9 (M := M27) hJ
        have mM27_4 : (M27.1 175 4).toInt = (M24.1 175 4).toInt := tl_slot (h28.1 175 4 id)
        have mM27_9 : (M27.1 175 9).toInt = (M24.1 175 9).toInt := tl_slot (h28.1 175 9 id)
        rcases qx26 with ⟨rfl, qx26⟩ | ⟨rfl, qx26⟩
        · skip
          refine li_if_eq 74 dX12_mute_29 (by decide) (fun c => absurd c (by decide)) (fun c => ?_)
          refine li_aload_n 2 dX12_mute_32 rfl ?_
          refine li_getr (k := 29) (N := 52) (T := TX12) (C0 := RX12) dX12_mute_33 (by decide) sh_175 rfl rfl (by decide) (by decide) li_in12 w_1433 ?_
          refine li_iload_n 0 dX12_mute_36 rfl ?_
          refine li_iald dX12_mute_37 (by decide) sh_189 (tl_in (by omega)) ?_
          refine li_top (fun x30 ex30 => ?_)
          have gx30 := tl_rg x30
          refine li_aload_n 2 dX12_mute_38 rfl ?_
          refine li_getr (k := 0) (N := 52) (T := TX12) (C0 := RX12) dX12_mute_39 (by decide) sh_175 rfl rfl (by decide) (by decide) li_in12 w_1404 ?_
          refine li_aload_n 2 dX12_mute_42 rfl ?_
          refine li_iload_n 0 dX12_mute_43 rfl ?_
          refine li_iconst 0 dX12_mute_44 (by decide) ?_
          have z0 : (0 : Int32).toInt = 0 := rfl
          refine li_callV (n := 2) (As := [.int x5, .int 0]) dX12_mute_45 (k_X12_field (d - 1) (by omega) x5 0 M27 hJ (by omega) (by omega)) (by omega) (Nat.le_of_ble_eq_true rfl) w_1668 w_1670 w_60 w_112 w_1671 (by decide +kernel) rfl (by decide) sh_175 rfl rfl (Nat.le_of_ble_eq_true rfl) (fun r M32 h33 => ?_)
          obtain ⟨⟨x31, rfl, qx31⟩, h33, jM32⟩ := h33
          have gx31 := tl_rg x31
          have hf := li_fs_trans hf h33 (fun i k h => False.elim h)
          have hJ := jM32
          have rM32_4 := J_sl4 (M := M32) hJ
          have rM32_9 := J_sl9 (M := M32) hJ
          have mM32_4 : (M32.1 175 4).toInt = (M27.1 175 4).toInt := tl_slot (h33.1 175 4 id)
          have mM32_9 : (M32.1 175 9).toInt = (M27.1 175 9).toInt := tl_slot (h33.1 175 9 id)
          refine li_iald dX12_mute_48 (by decide) sh_176 (tl_in (by omega)) ?_
          refine li_top (fun x34 ex34 => ?_)
          have gx34 := tl_rg x34
          try (have ox34 : (x31 : Int32).toInt % 51 = (x31 : Int32).toInt := by omega)
          have lx34 : ((x31 : Int32).toInt % 51 = 20 → 0 ≤ x34.toInt ∧ x34.toInt ≤ 6) ∧ (21 ≤ (x31 : Int32).toInt % 51 → ((x31 : Int32).toInt % 51 - 21) % 5 < 2 → 0 ≤ x34.toInt ∧ x34.toInt ≤ 5) := hJ.ldLed (by unfold li_led; omega) ex34 (by omega)
          have J74 : ∀ (x36 : Int32) (M37 : li_M), li_fs (fun i k => i = 181 ∨ i = 185 ∨ i = 189 ∨ i = 1000 ∨ (i = 175 ∧ k = 10) ∨ (i = 175 ∧ k = 12) ∨ (i = 175 ∧ k = 13) ∨ (i = 175 ∧ k = 14) ∨ (i = 175 ∧ k = 15) ∨ (i = 175 ∧ k = 20) ∨ (i = 175 ∧ k = 9)) M0 M37 → li_J M37 → -1 ≤ (x36 : Int32).toInt ∧ (x36 : Int32).toInt ≤ 7 → li_T l Z YX12_mute d 74 [(2, .int x5), (1, .int x36), (0, .ref (Z.2.2 175))] [] M37 (fun r M' => (∃ x : Int32, r = some (.int x)) ∧ li_fs (fun i k => i = 181 ∨ i = 185 ∨ i = 189 ∨ i = 1000 ∨ (i = 175 ∧ k = 10) ∨ (i = 175 ∧ k = 12) ∨ (i = 175 ∧ k = 13) ∨ (i = 175 ∧ k = 14) ∨ (i = 175 ∧ k = 15) ∨ (i = 175 ∧ k = 20) ∨ (i = 175 ∧ k = 9)) M0 M' ∧ li_J M') := by
            intro x36 M37 hf hJ hi
            have gx36 := tl_rg x36
            have rM37_4 := J_sl4 (M := M37) hJ
            have rM37_9 := J_sl9 (M := M37) hJ
            have mM37_4 : (M37.1 175 4).toInt = (M0.1 175 4).toInt := tl_slot (hf.1 175 4 (show ¬ (175 = 181 ∨ 175 = 185 ∨ 175 = 189 ∨ 175 = 1000 ∨ (175 = 175 ∧ 4 = 10) ∨ (175 = 175 ∧ 4 = 12) ∨ (175 = 175 ∧ 4 = 13) ∨ (175 = 175 ∧ 4 = 14) ∨ (175 = 175 ∧ 4 = 15) ∨ (175 = 175 ∧ 4 = 20) ∨ (175 = 175 ∧ 4 = 9)) by decide))
            obtain ⟨x38, ex38⟩ : ∃ y : Int32, y = x5 + 1 := ⟨_, rfl⟩
            have z1 : (1 : Int32).toInt = 1 := rfl
            try (have tx38 : x38.toInt = (x5 : Int32).toInt + (1 : Int32).toInt := tl_add ex38 (by omega))
            refine li_iinc 0 [(2, .int x38), (1, .int x36), (0, .ref (Z.2.2 175))] x38 dX12_mute_74 rfl (by rw [ex38]; rfl) (by decide) rfl ?_
            refine li_goto 13 dX12_mute_77 (by decide) ?_
            refine li_pick [0, 1, 2] [(2, .int x38), (1, .int x36), (0, .ref (Z.2.2 175))] rfl ?_
            exact ih13 x38 x36 M37 (by omega) hf hJ (by omega)
          refine li_icmp_le 74 dX12_mute_49 (by decide) (fun c35 => ?_) (fun c35 => ?_)
          · have tc35 : x30.toInt ≤ x34.toInt := tl_le c35
            refine li_pick [0, 1, 2] [(2, .int x5), (1, .int x6), (0, .ref (Z.2.2 175))] rfl ?_
            exact J74 x6 M32 hf hJ (by omega)
          · have tc35 : x34.toInt < x30.toInt := tl_nle c35
            refine li_iload_n 1 dX12_mute_52 rfl ?_
            refine li_iconst (-1) dX12_mute_53 (by decide) ?_
            refine li_icmp_eq 72 dX12_mute_54 (by decide) (fun c39 => ?_) (fun c39 => ?_)
            · have tc39 : x6.toInt = (-1) := tl_eq c39
              refine li_iload_n 0 dX12_mute_72 rfl ?_
              refine li_istore_n [(1, .int x5), (2, .int x5), (0, .ref (Z.2.2 175))] dX12_mute_73 (by decide) rfl ?_
              refine li_pick [1, 0, 2] [(2, .int x5), (1, .int x5), (0, .ref (Z.2.2 175))] rfl ?_
              exact J74 x5 M32 hf hJ (by omega)
            · have tc39 : ¬ x6.toInt = (-1) := tl_ne c39
              refine li_aload_n 2 dX12_mute_57 rfl ?_
              refine li_iload_n 0 dX12_mute_58 rfl ?_
              refine li_iconst 3 dX12_mute_59 (by decide) ?_
              have z3 : (3 : Int32).toInt = 3 := rfl
              refine li_callV (n := 2) (As := [.int x5, .int 3]) dX12_mute_60 (k_X12_field (d - 1) (by omega) x5 3 M32 hJ (by omega) (by omega)) (by omega) (Nat.le_of_ble_eq_true rfl) w_1668 w_1670 w_60 w_112 w_1671 (by decide +kernel) rfl (by decide) sh_175 rfl rfl (Nat.le_of_ble_eq_true rfl) (fun r M41 h42 => ?_)
              obtain ⟨⟨x40, rfl, qx40⟩, h42, jM41⟩ := h42
              have gx40 := tl_rg x40
              have hf := li_fs_trans hf h42 (fun i k h => False.elim h)
              have hJ := jM41
              have rM41_4 := J_sl4 (M := M41) hJ
              have rM41_9 := J_sl9 (M := M41) hJ
              have mM41_4 : (M41.1 175 4).toInt = (M32.1 175 4).toInt := tl_slot (h42.1 175 4 id)
              have mM41_9 : (M41.1 175 9).toInt = (M32.1 175 9).toInt := tl_slot (h42.1 175 9 id)
              refine li_aload_n 2 dX12_mute_63 rfl ?_
              refine li_iload_n 1 dX12_mute_64 rfl ?_
              refine li_iconst 3 dX12_mute_65 (by decide) ?_
              have z3 : (3 : Int32).toInt = 3 := rfl
              refine li_callV (n := 2) (As := [.int x6, .int 3]) dX12_mute_66 (k_X12_field (d - 1) (by omega) x6 3 M41 hJ (by omega) (by omega)) (by omega) (Nat.le_of_ble_eq_true rfl) w_1668 w_1670 w_60 w_112 w_1671 (by decide +kernel) rfl (by decide) sh_175 rfl rfl (Nat.le_of_ble_eq_true rfl) (fun r M44 h45 => ?_)
              obtain ⟨⟨x43, rfl, qx43⟩, h45, jM44⟩ := h45
              have gx43 := tl_rg x43
              have hf := li_fs_trans hf h45 (fun i k h => False.elim h)
              have hJ := jM44
              have rM44_4 := J_sl4 (M := M44) hJ
              have rM44_9 := J_sl9 (M := M44) hJ
              have mM44_4 : (M44.1 175 4).toInt = (M41.1 175 4).toInt := tl_slot (h45.1 175 4 id)
              have mM44_9 : (M44.1 175 9).toInt = (M41.1 175 9).toInt := tl_slot (h45.1 175 9 id)
              refine li_icmp_ge 74 dX12_mute_69 (by decide) (fun c46 => ?_) (fun c46 => ?_)
              · have tc46 : x43.toInt ≤ x40.toInt := tl_le c46
                refine li_pick [0, 1, 2] [(2, .int x5), (1, .int x6), (0, .ref (Z.2.2 175))] rfl ?_
                exact J74 x6 M44 hf hJ (by omega)
              · have tc46 : x40.toInt < x43.toInt := tl_nle c46
                refine li_iload_n 0 dX12_mute_72 rfl ?_
                refine li_istore_n [(1, .int x5), (2, .int x5), (0, .ref (Z.2.2 175))] dX12_mute_73 (by decide) rfl ?_
                refine li_pick [1, 0, 2] [(2, .int x5), (1, .int x5), (0, .ref (Z.2.2 175))] rfl ?_
                exact J74 x5 M44 hf hJ (by omega)
        · skip
          refine li_if_eq 74 dX12_mute_29 (by decide) (fun c => ?_) (fun c => absurd rfl c)
          obtain ⟨x48, ex48⟩ : ∃ y : Int32, y = x5 + 1 := ⟨_, rfl⟩
          have z1 : (1 : Int32).toInt = 1 := rfl
          try (have tx48 : x48.toInt = (x5 : Int32).toInt + (1 : Int32).toInt := tl_add ex48 (by omega))
          refine li_iinc 0 [(2, .int x48), (1, .int x6), (0, .ref (Z.2.2 175))] x48 dX12_mute_74 rfl (by rw [ex48]; rfl) (by decide) rfl ?_
          refine li_goto 13 dX12_mute_77 (by decide) ?_
          refine li_pick [0, 1, 2] [(2, .int x48), (1, .int x6), (0, .ref (Z.2.2 175))] rfl ?_
          exact ih13 x48 x6 M27 (by omega) hf hJ (by omega)
  have z0 : (0 : Int32).toInt = 0 := rfl
  have zm1 : ((-1) : Int32).toInt = -1 := rfl
  exact L13 _ 0 (-1) M3 (Nat.lt_succ_self _) hf hJ (by omega)
set_option maxRecDepth 100000 in
set_option maxHeartbeats 4000000 in
theorem k_X12_isBefore {l : Launch} {Z : li_Z} (d : Nat) (hd : 1 ≤ d) (p1 : Int32) (M0 : li_M) (hJ : li_J M0) (h1 : p1.toInt ≤ 6) : li_Met l Z YX12_isBefore d [.ref (Z.2.2 175), .int p1] M0 (fun r M' => ((r = some (.int 1) ∧ True) ∨ (r = some (.int 0) ∧ True)) ∧ li_fs (fun i k => False) M0 M' ∧ li_J M') := by
  refine li_enter (by decide +kernel) (Nat.le_of_ble_eq_true rfl) ?_
  show li_T l Z YX12_isBefore d 0 [(0, .ref (Z.2.2 175)), (1, .int p1)] [] M0 _
  have hf : li_fs (fun i k => False) M0 M0 := li_fs_refl
  have gp1 := tl_rg p1
  refine li_iconst 0 dX12_isBefore_0 (by decide) ?_
  refine li_istore_n [(2, .int 0), (0, .ref (Z.2.2 175)), (1, .int p1)] dX12_isBefore_1 (by decide) rfl ?_
  have L2 : ∀ (n : Nat) (x1 : Int32) (M2 : li_M), (6 - (x1 : Int32).toInt).toNat < n → li_fs (fun i k => False) M0 M2 → li_J M2 → 0 ≤ (x1 : Int32).toInt → li_T l Z YX12_isBefore d 2 [(2, .int x1), (0, .ref (Z.2.2 175)), (1, .int p1)] [] M2 (fun r M' => ((r = some (.int 1) ∧ True) ∨ (r = some (.int 0) ∧ True)) ∧ li_fs (fun i k => False) M0 M' ∧ li_J M') := by
    intro n
    induction n with
    | zero => intro x1 M2 hn; exact absurd hn (Nat.not_lt_zero _)
    | succ n ih2 =>
      intro x1 M2 hn hf hJ hi
      have gx1 := tl_rg x1
      refine li_iload_n 0 dX12_isBefore_2 rfl ?_
      refine li_iload_n 2 dX12_isBefore_3 rfl ?_
      refine li_icmp_ge 57 dX12_isBefore_4 (by decide) (fun c3 => ?_) (fun c3 => ?_)
      · have tc3 : p1.toInt ≤ x1.toInt := tl_le c3
        refine li_iload_n 2 dX12_isBefore_57 rfl ?_
        refine li_aload_n 1 dX12_isBefore_58 rfl ?_
        refine li_geti (k := 32) (N := 52) (T := TX12) (C0 := RX12) dX12_isBefore_59 (by decide) sh_175 rfl rfl (by decide) li_in12 w_1436 ?_
        refine li_top (fun x4 ex4 => ?_)
        have gx4 : 0 ≤ x4.toInt ∧ x4.toInt ≤ 6 := by rw [ex4]; exact J_sl32 hJ
        have sx4 : x4.toInt = (M0.1 175 32).toInt := tl_slot (ex4.trans (hf.1 175 32 id))
        refine li_icmp_ge 69 dX12_isBefore_62 (by decide) (fun c5 => ?_) (fun c5 => ?_)
        · have tc5 : x4.toInt ≤ p1.toInt := tl_le c5
          refine li_iconst 0 dX12_isBefore_69 (by decide) ?_
          have z0 : (0 : Int32).toInt = 0 := rfl
          exact li_iret dX12_isBefore_70 rfl (li_nz (Or.inl rfl)) ⟨Or.inr ⟨rfl, trivial⟩, hf, hJ⟩
        · have tc5 : p1.toInt < x4.toInt := tl_nle c5
          refine li_iconst 1 dX12_isBefore_65 (by decide) ?_
          refine li_goto 70 dX12_isBefore_66 (by decide) ?_
          have z1 : (1 : Int32).toInt = 1 := rfl
          exact li_iret dX12_isBefore_70 rfl (li_nz (Or.inr rfl)) ⟨Or.inl ⟨rfl, trivial⟩, hf, hJ⟩
      · have tc3 : x1.toInt < p1.toInt := tl_nle c3
        refine li_iload_n 0 dX12_isBefore_7 rfl ?_
        refine li_aload_n 1 dX12_isBefore_8 rfl ?_
        refine li_geti (k := 32) (N := 52) (T := TX12) (C0 := RX12) dX12_isBefore_9 (by decide) sh_175 rfl rfl (by decide) li_in12 w_1436 ?_
        refine li_top (fun x6 ex6 => ?_)
        have gx6 : 0 ≤ x6.toInt ∧ x6.toInt ≤ 6 := by rw [ex6]; exact J_sl32 hJ
        have sx6 : x6.toInt = (M0.1 175 32).toInt := tl_slot (ex6.trans (hf.1 175 32 id))
        refine li_icmp_ge 57 dX12_isBefore_12 (by decide) (fun c7 => ?_) (fun c7 => ?_)
        · have tc7 : x6.toInt ≤ x1.toInt := tl_le c7
          refine li_iload_n 2 dX12_isBefore_57 rfl ?_
          refine li_aload_n 1 dX12_isBefore_58 rfl ?_
          refine li_geti (k := 32) (N := 52) (T := TX12) (C0 := RX12) dX12_isBefore_59 (by decide) sh_175 rfl rfl (by decide) li_in12 w_1436 ?_
          refine li_top (fun x8 ex8 => ?_)
          have gx8 : 0 ≤ x8.toInt ∧ x8.toInt ≤ 6 := by rw [ex8]; exact J_sl32 hJ
          have sx8 : x8.toInt = (M0.1 175 32).toInt := tl_slot (ex8.trans (hf.1 175 32 id))
          refine li_icmp_ge 69 dX12_isBefore_62 (by decide) (fun c9 => ?_) (fun c9 => ?_)
          · have tc9 : x8.toInt ≤ p1.toInt := tl_le c9
            refine li_iconst 0 dX12_isBefore_69 (by decide) ?_
            have z0 : (0 : Int32).toInt = 0 := rfl
            exact li_iret dX12_isBefore_70 rfl (li_nz (Or.inl rfl)) ⟨Or.inr ⟨rfl, trivial⟩, hf, hJ⟩
          · have tc9 : p1.toInt < x8.toInt := tl_nle c9
            refine li_iconst 1 dX12_isBefore_65 (by decide) ?_
            refine li_goto 70 dX12_isBefore_66 (by decide) ?_
            have z1 : (1 : Int32).toInt = 1 := rfl
            exact li_iret dX12_isBefore_70 rfl (li_nz (Or.inr rfl)) ⟨Or.inl ⟨rfl, trivial⟩, hf, hJ⟩
        · have tc7 : x1.toInt < x6.toInt := tl_nle c7
          refine li_aload_n 1 dX12_isBefore_15 rfl ?_
          refine li_getr (k := 30) (N := 52) (T := TX12) (C0 := RX12) dX12_isBefore_16 (by decide) sh_175 rfl rfl (by decide) (by decide) li_in12 w_1434 ?_
          refine li_iload_n 0 dX12_isBefore_19 rfl ?_
          refine li_iald dX12_isBefore_20 (by decide) sh_190 (tl_in (by omega)) ?_
          refine li_top (fun x10 ex10 => ?_)
          have gx10 := tl_rg x10
          refine li_aload_n 1 dX12_isBefore_21 rfl ?_
          refine li_getr (k := 31) (N := 52) (T := TX12) (C0 := RX12) dX12_isBefore_22 (by decide) sh_175 rfl rfl (by decide) (by decide) li_in12 w_1435 ?_
          refine li_iload_n 0 dX12_isBefore_25 rfl ?_
          refine li_iald dX12_isBefore_26 (by decide) sh_191 (tl_in (by omega)) ?_
          refine li_top (fun x11 ex11 => ?_)
          have gx11 := tl_rg x11
          refine li_icmp_eq 51 dX12_isBefore_27 (by decide) (fun c12 => ?_) (fun c12 => ?_)
          · have tc12 : x10.toInt = x11.toInt := tl_eq c12
            obtain ⟨x13, ex13⟩ : ∃ y : Int32, y = x1 + 1 := ⟨_, rfl⟩
            have z1 : (1 : Int32).toInt = 1 := rfl
            try (have tx13 : x13.toInt = (x1 : Int32).toInt + (1 : Int32).toInt := tl_add ex13 (by omega))
            refine li_iinc 0 [(2, .int x13), (0, .ref (Z.2.2 175)), (1, .int p1)] x13 dX12_isBefore_51 rfl (by rw [ex13]; rfl) (by decide) rfl ?_
            refine li_goto 2 dX12_isBefore_54 (by decide) ?_
            refine li_pick [0, 1, 2] [(2, .int x13), (0, .ref (Z.2.2 175)), (1, .int p1)] rfl ?_
            exact ih2 x13 M2 (by omega) hf hJ (by omega)
          · have tc12 : ¬ x10.toInt = x11.toInt := tl_ne c12
            refine li_aload_n 1 dX12_isBefore_30 rfl ?_
            refine li_getr (k := 30) (N := 52) (T := TX12) (C0 := RX12) dX12_isBefore_31 (by decide) sh_175 rfl rfl (by decide) (by decide) li_in12 w_1434 ?_
            refine li_iload_n 0 dX12_isBefore_34 rfl ?_
            refine li_iald dX12_isBefore_35 (by decide) sh_190 (tl_in (by omega)) ?_
            refine li_top (fun x14 ex14 => ?_)
            have gx14 := tl_rg x14
            refine li_aload_n 1 dX12_isBefore_36 rfl ?_
            refine li_getr (k := 31) (N := 52) (T := TX12) (C0 := RX12) dX12_isBefore_37 (by decide) sh_175 rfl rfl (by decide) (by decide) li_in12 w_1435 ?_
            refine li_iload_n 0 dX12_isBefore_40 rfl ?_
            refine li_iald dX12_isBefore_41 (by decide) sh_191 (tl_in (by omega)) ?_
            refine li_top (fun x15 ex15 => ?_)
            have gx15 := tl_rg x15
            refine li_icmp_ge 49 dX12_isBefore_42 (by decide) (fun c16 => ?_) (fun c16 => ?_)
            · have tc16 : x15.toInt ≤ x14.toInt := tl_le c16
              refine li_iconst 0 dX12_isBefore_49 (by decide) ?_
              have z0 : (0 : Int32).toInt = 0 := rfl
              exact li_iret dX12_isBefore_50 rfl (li_nz (Or.inl rfl)) ⟨Or.inr ⟨rfl, trivial⟩, hf, hJ⟩
            · have tc16 : x14.toInt < x15.toInt := tl_nle c16
              refine li_iconst 1 dX12_isBefore_45 (by decide) ?_
              refine li_goto 50 dX12_isBefore_46 (by decide) ?_
              have z1 : (1 : Int32).toInt = 1 := rfl
              exact li_iret dX12_isBefore_50 rfl (li_nz (Or.inr rfl)) ⟨Or.inl ⟨rfl, trivial⟩, hf, hJ⟩
  have z0 : (0 : Int32).toInt = 0 := rfl
  exact L2 _ 0 M0 (Nat.lt_succ_self _) hf hJ (by omega)
