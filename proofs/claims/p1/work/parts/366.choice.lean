theorem w_80 : (Jvm.Cond.selects "ClockForTalkModel" ({ cls := "ClockForTalkModel", name := "layLeast", desc := "()V" } : Jvm.MethodName) ({ cls := "ClockForTalkModel", name := "layLeast", desc := "()V" } : Jvm.MethodName)) ∈ li_ws := li_mem 80 (by decide +kernel) (by decide +kernel)
theorem w_83 : (Jvm.Cond.selects "ClockForTalkModel" ({ cls := "ClockForTalkModel", name := "today", desc := "()I" } : Jvm.MethodName) ({ cls := "ClockForTalkModel", name := "today", desc := "()I" } : Jvm.MethodName)) ∈ li_ws := li_mem 83 (by decide +kernel) (by decide +kernel)
theorem w_84 : (Jvm.Cond.selects "ClockForTalkModel" ({ cls := "ClockForTalkModel", name := "bestSet", desc := "(II)I" } : Jvm.MethodName) ({ cls := "ClockForTalkModel", name := "bestSet", desc := "(II)I" } : Jvm.MethodName)) ∈ li_ws := li_mem 84 (by decide +kernel) (by decide +kernel)
theorem w_85 : (Jvm.Cond.selects "ClockForTalkModel" ({ cls := "ClockForTalkModel", name := "sumOf", desc := "(I)I" } : Jvm.MethodName) ({ cls := "ClockForTalkModel", name := "sumOf", desc := "(I)I" } : Jvm.MethodName)) ∈ li_ws := li_mem 85 (by decide +kernel) (by decide +kernel)
theorem w_86 : (Jvm.Cond.selects "ClockForTalkModel" ({ cls := "ClockForTalkModel", name := "worthOf", desc := "(I)I" } : Jvm.MethodName) ({ cls := "ClockForTalkModel", name := "worthOf", desc := "(I)I" } : Jvm.MethodName)) ∈ li_ws := li_mem 86 (by decide +kernel) (by decide +kernel)
theorem w_87 : (Jvm.Cond.selects "ClockForTalkModel" ({ cls := "ClockForTalkModel", name := "allClocks", desc := "()I" } : Jvm.MethodName) ({ cls := "ClockForTalkModel", name := "allClocks", desc := "()I" } : Jvm.MethodName)) ∈ li_ws := li_mem 87 (by decide +kernel) (by decide +kernel)
theorem w_1434 : (Jvm.Cond.fieldLink "ClockForTalkModel" (53 : Nat) "ClockForTalkModel" "line" "[I") ∈ li_ws := li_mem 1434 (by decide +kernel) (by decide +kernel)
theorem w_1435 : (Jvm.Cond.fieldLink "ClockForTalkModel" (56 : Nat) "ClockForTalkModel" "bestLine" "[I") ∈ li_ws := li_mem 1435 (by decide +kernel) (by decide +kernel)
theorem w_1811 : (Jvm.Cond.methodLink "ClockForTalkModel" (330 : Nat) ({ cls := "ClockForTalkModel", name := "layLeast", desc := "()V" } : Jvm.MethodName)) ∈ li_ws := li_mem 1811 (by decide +kernel) (by decide +kernel)
theorem w_1813 : (Jvm.Cond.instanceMethod ({ cls := "ClockForTalkModel", name := "layLeast", desc := "()V" } : Jvm.MethodName)) ∈ li_ws := li_mem 1813 (by decide +kernel) (by decide +kernel)
theorem w_1814 : (Jvm.Cond.code ({ cls := "ClockForTalkModel", name := "layLeast", desc := "()V" } : Jvm.MethodName) prog_13_method_66_code (2 : Nat) (Option.none : Option Jvm.ClassFile.FieldType)) ∈ li_ws := li_mem 1814 (by decide +kernel) (by decide +kernel)
theorem w_1823 : (Jvm.Cond.methodLink "ClockForTalkModel" (336 : Nat) ({ cls := "ClockForTalkModel", name := "today", desc := "()I" } : Jvm.MethodName)) ∈ li_ws := li_mem 1823 (by decide +kernel) (by decide +kernel)
theorem w_1825 : (Jvm.Cond.instanceMethod ({ cls := "ClockForTalkModel", name := "today", desc := "()I" } : Jvm.MethodName)) ∈ li_ws := li_mem 1825 (by decide +kernel) (by decide +kernel)
theorem w_1826 : (Jvm.Cond.code ({ cls := "ClockForTalkModel", name := "today", desc := "()I" } : Jvm.MethodName) prog_13_method_42_code (3 : Nat) (Option.some Jvm.ClassFile.FieldType.int)) ∈ li_ws := li_mem 1826 (by decide +kernel) (by decide +kernel)
theorem w_1827 : (Jvm.Cond.methodLink "ClockForTalkModel" (339 : Nat) ({ cls := "ClockForTalkModel", name := "bestSet", desc := "(II)I" } : Jvm.MethodName)) ∈ li_ws := li_mem 1827 (by decide +kernel) (by decide +kernel)
theorem w_1829 : (Jvm.Cond.instanceMethod ({ cls := "ClockForTalkModel", name := "bestSet", desc := "(II)I" } : Jvm.MethodName)) ∈ li_ws := li_mem 1829 (by decide +kernel) (by decide +kernel)
theorem w_1830 : (Jvm.Cond.code ({ cls := "ClockForTalkModel", name := "bestSet", desc := "(II)I" } : Jvm.MethodName) prog_13_method_70_code (5 : Nat) (Option.some Jvm.ClassFile.FieldType.int)) ∈ li_ws := li_mem 1830 (by decide +kernel) (by decide +kernel)
theorem w_1831 : (Jvm.Cond.methodLink "ClockForTalkModel" (324 : Nat) ({ cls := "ClockForTalkModel", name := "sumOf", desc := "(I)I" } : Jvm.MethodName)) ∈ li_ws := li_mem 1831 (by decide +kernel) (by decide +kernel)
theorem w_1833 : (Jvm.Cond.instanceMethod ({ cls := "ClockForTalkModel", name := "sumOf", desc := "(I)I" } : Jvm.MethodName)) ∈ li_ws := li_mem 1833 (by decide +kernel) (by decide +kernel)
theorem w_1834 : (Jvm.Cond.code ({ cls := "ClockForTalkModel", name := "sumOf", desc := "(I)I" } : Jvm.MethodName) prog_13_method_67_code (4 : Nat) (Option.some Jvm.ClassFile.FieldType.int)) ∈ li_ws := li_mem 1834 (by decide +kernel) (by decide +kernel)
theorem w_1835 : (Jvm.Cond.methodLink "ClockForTalkModel" (327 : Nat) ({ cls := "ClockForTalkModel", name := "worthOf", desc := "(I)I" } : Jvm.MethodName)) ∈ li_ws := li_mem 1835 (by decide +kernel) (by decide +kernel)
theorem w_1837 : (Jvm.Cond.instanceMethod ({ cls := "ClockForTalkModel", name := "worthOf", desc := "(I)I" } : Jvm.MethodName)) ∈ li_ws := li_mem 1837 (by decide +kernel) (by decide +kernel)
theorem w_1838 : (Jvm.Cond.code ({ cls := "ClockForTalkModel", name := "worthOf", desc := "(I)I" } : Jvm.MethodName) prog_13_method_68_code (4 : Nat) (Option.some Jvm.ClassFile.FieldType.int)) ∈ li_ws := li_mem 1838 (by decide +kernel) (by decide +kernel)
theorem w_1847 : (Jvm.Cond.methodLink "ClockForTalkModel" (342 : Nat) ({ cls := "ClockForTalkModel", name := "allClocks", desc := "()I" } : Jvm.MethodName)) ∈ li_ws := li_mem 1847 (by decide +kernel) (by decide +kernel)
theorem w_1849 : (Jvm.Cond.instanceMethod ({ cls := "ClockForTalkModel", name := "allClocks", desc := "()I" } : Jvm.MethodName)) ∈ li_ws := li_mem 1849 (by decide +kernel) (by decide +kernel)
theorem w_1850 : (Jvm.Cond.code ({ cls := "ClockForTalkModel", name := "allClocks", desc := "()I" } : Jvm.MethodName) prog_13_method_73_code (3 : Nat) (Option.some Jvm.ClassFile.FieldType.int)) ∈ li_ws := li_mem 1850 (by decide +kernel) (by decide +kernel)
theorem dX12_layLeast_0 : decode cX12_layLeast 0 = .ok (.iconst 0, 1) := by decide +kernel
theorem dX12_layLeast_1 : decode cX12_layLeast 1 = .ok (.istore_n 1, 1) := by decide +kernel
theorem dX12_layLeast_2 : decode cX12_layLeast 2 = .ok (.iload_n 1, 1) := by decide +kernel
theorem dX12_layLeast_3 : decode cX12_layLeast 3 = .ok (.aload_n 0, 1) := by decide +kernel
theorem dX12_layLeast_4 : decode cX12_layLeast 4 = .ok (.getfield 121, 3) := by decide +kernel
theorem dX12_layLeast_7 : decode cX12_layLeast 7 = .ok (.if_icmp .ge 24, 3) := by decide +kernel
theorem dX12_layLeast_31 : decode cX12_layLeast 31 = .ok (.return_, 1) := by decide +kernel
abbrev YX12_layLeast : li_Y := (yX12_layLeast, cX12_layLeast, 2, none)
theorem dX12_bestSet_0 : decode cX12_bestSet 0 = .ok (.iconst 0, 1) := by decide +kernel
theorem dX12_bestSet_1 : decode cX12_bestSet 1 = .ok (.istore_n 3, 1) := by decide +kernel
theorem dX12_bestSet_2 : decode cX12_bestSet 2 = .ok (.iconst 1, 1) := by decide +kernel
theorem dX12_bestSet_3 : decode cX12_bestSet 3 = .ok (.istore 4, 2) := by decide +kernel
theorem dX12_bestSet_5 : decode cX12_bestSet 5 = .ok (.iload 4, 2) := by decide +kernel
theorem dX12_bestSet_7 : decode cX12_bestSet 7 = .ok (.iload_n 1, 1) := by decide +kernel
theorem dX12_bestSet_8 : decode cX12_bestSet 8 = .ok (.if_icmp .gt 76, 3) := by decide +kernel
theorem dX12_bestSet_84 : decode cX12_bestSet 84 = .ok (.iload_n 3, 1) := by decide +kernel
theorem dX12_bestSet_85 : decode cX12_bestSet 85 = .ok (.ireturn, 1) := by decide +kernel
abbrev YX12_bestSet : li_Y := (yX12_bestSet, cX12_bestSet, 5, (some .int))
theorem dX12_best_0 : decode cX12_best 0 = .ok (.aload_n 0, 1) := by decide +kernel
theorem dX12_best_1 : decode cX12_best 1 = .ok (.iconst 0, 1) := by decide +kernel
theorem dX12_best_2 : decode cX12_best 2 = .ok (.putfield 103, 3) := by decide +kernel
theorem dX12_best_5 : decode cX12_best 5 = .ok (.aload_n 0, 1) := by decide +kernel
theorem dX12_best_6 : decode cX12_best 6 = .ok (.iload_n 1, 1) := by decide +kernel
theorem dX12_best_7 : decode cX12_best 7 = .ok (.invokevirtual 117, 3) := by decide +kernel
theorem dX12_best_10 : decode cX12_best 10 = .ok (.ifCond .ne 5, 3) := by decide +kernel
theorem dX12_best_13 : decode cX12_best 13 = .ok (.iconst (-1), 1) := by decide +kernel
theorem dX12_best_14 : decode cX12_best 14 = .ok (.ireturn, 1) := by decide +kernel
abbrev YX12_best : li_Y := (yX12_best, cX12_best, 3, (some .int))
theorem dX12_lacks_0 : decode cX12_lacks 0 = .ok (.aload_n 0, 1) := by decide +kernel
theorem dX12_lacks_1 : decode cX12_lacks 1 = .ok (.iconst 0, 1) := by decide +kernel
theorem dX12_lacks_2 : decode cX12_lacks 2 = .ok (.putfield 103, 3) := by decide +kernel
theorem dX12_lacks_5 : decode cX12_lacks 5 = .ok (.aload_n 0, 1) := by decide +kernel
theorem dX12_lacks_6 : decode cX12_lacks 6 = .ok (.iload_n 1, 1) := by decide +kernel
theorem dX12_lacks_7 : decode cX12_lacks 7 = .ok (.invokevirtual 117, 3) := by decide +kernel
theorem dX12_lacks_10 : decode cX12_lacks 10 = .ok (.ifCond .ne 5, 3) := by decide +kernel
theorem dX12_lacks_13 : decode cX12_lacks 13 = .ok (.iconst (-1), 1) := by decide +kernel
theorem dX12_lacks_14 : decode cX12_lacks 14 = .ok (.ireturn, 1) := by decide +kernel
abbrev YX12_lacks : li_Y := (yX12_lacks, cX12_lacks, 3, (some .int))
theorem dX12_pool_0 : decode cX12_pool 0 = .ok (.aload_n 0, 1) := by decide +kernel
theorem dX12_pool_1 : decode cX12_pool 1 = .ok (.iconst 0, 1) := by decide +kernel
theorem dX12_pool_2 : decode cX12_pool 2 = .ok (.putfield 103, 3) := by decide +kernel
theorem dX12_pool_5 : decode cX12_pool 5 = .ok (.aload_n 0, 1) := by decide +kernel
theorem dX12_pool_6 : decode cX12_pool 6 = .ok (.invokevirtual 330, 3) := by decide +kernel
theorem dX12_pool_9 : decode cX12_pool 9 = .ok (.aload_n 0, 1) := by decide +kernel
theorem dX12_pool_10 : decode cX12_pool 10 = .ok (.aload_n 0, 1) := by decide +kernel
theorem dX12_pool_11 : decode cX12_pool 11 = .ok (.invokevirtual 336, 3) := by decide +kernel
theorem dX12_pool_14 : decode cX12_pool 14 = .ok (.aload_n 0, 1) := by decide +kernel
theorem dX12_pool_15 : decode cX12_pool 15 = .ok (.invokevirtual 342, 3) := by decide +kernel
theorem dX12_pool_18 : decode cX12_pool 18 = .ok (.invokevirtual 339, 3) := by decide +kernel
theorem dX12_pool_21 : decode cX12_pool 21 = .ok (.istore_n 1, 1) := by decide +kernel
theorem dX12_pool_22 : decode cX12_pool 22 = .ok (.aload_n 0, 1) := by decide +kernel
theorem dX12_pool_23 : decode cX12_pool 23 = .ok (.iconst 0, 1) := by decide +kernel
theorem dX12_pool_24 : decode cX12_pool 24 = .ok (.putfield 107, 3) := by decide +kernel
theorem dX12_pool_27 : decode cX12_pool 27 = .ok (.aload_n 0, 1) := by decide +kernel
theorem dX12_pool_28 : decode cX12_pool 28 = .ok (.iload_n 1, 1) := by decide +kernel
theorem dX12_pool_29 : decode cX12_pool 29 = .ok (.invokevirtual 308, 3) := by decide +kernel
theorem dX12_pool_32 : decode cX12_pool 32 = .ok (.aload_n 0, 1) := by decide +kernel
theorem dX12_pool_33 : decode cX12_pool 33 = .ok (.aload_n 0, 1) := by decide +kernel
theorem dX12_pool_34 : decode cX12_pool 34 = .ok (.iload_n 1, 1) := by decide +kernel
theorem dX12_pool_35 : decode cX12_pool 35 = .ok (.invokevirtual 324, 3) := by decide +kernel
theorem dX12_pool_38 : decode cX12_pool 38 = .ok (.invokevirtual 308, 3) := by decide +kernel
theorem dX12_pool_41 : decode cX12_pool 41 = .ok (.aload_n 0, 1) := by decide +kernel
theorem dX12_pool_42 : decode cX12_pool 42 = .ok (.iload_n 1, 1) := by decide +kernel
theorem dX12_pool_43 : decode cX12_pool 43 = .ok (.invokevirtual 327, 3) := by decide +kernel
theorem dX12_pool_46 : decode cX12_pool 46 = .ok (.ireturn, 1) := by decide +kernel
abbrev YX12_pool : li_Y := (yX12_pool, cX12_pool, 2, (some .int))
theorem dX12_gifts_0 : decode cX12_gifts 0 = .ok (.aload_n 0, 1) := by decide +kernel
theorem dX12_gifts_1 : decode cX12_gifts 1 = .ok (.iconst 0, 1) := by decide +kernel
theorem dX12_gifts_2 : decode cX12_gifts 2 = .ok (.putfield 103, 3) := by decide +kernel
theorem dX12_gifts_5 : decode cX12_gifts 5 = .ok (.iload_n 1, 1) := by decide +kernel
theorem dX12_gifts_6 : decode cX12_gifts 6 = .ok (.iconst 0, 1) := by decide +kernel
theorem dX12_gifts_7 : decode cX12_gifts 7 = .ok (.iconst 1, 1) := by decide +kernel
theorem dX12_gifts_8 : decode cX12_gifts 8 = .ok (.aload_n 0, 1) := by decide +kernel
theorem dX12_gifts_9 : decode cX12_gifts 9 = .ok (.getfield 121, 3) := by decide +kernel
theorem dX12_gifts_12 : decode cX12_gifts 12 = .ok (.ishl, 1) := by decide +kernel
theorem dX12_gifts_13 : decode cX12_gifts 13 = .ok (.iconst 1, 1) := by decide +kernel
theorem dX12_gifts_14 : decode cX12_gifts 14 = .ok (.isub, 1) := by decide +kernel
theorem dX12_gifts_15 : decode cX12_gifts 15 = .ok (.invokestatic 113, 3) := by decide +kernel
theorem dX12_gifts_18 : decode cX12_gifts 18 = .ok (.ifCond .ne 5, 3) := by decide +kernel
theorem dX12_gifts_21 : decode cX12_gifts 21 = .ok (.iconst (-1), 1) := by decide +kernel
theorem dX12_gifts_22 : decode cX12_gifts 22 = .ok (.ireturn, 1) := by decide +kernel
theorem dX12_gifts_23 : decode cX12_gifts 23 = .ok (.aload_n 0, 1) := by decide +kernel
theorem dX12_gifts_24 : decode cX12_gifts 24 = .ok (.invokevirtual 330, 3) := by decide +kernel
theorem dX12_gifts_27 : decode cX12_gifts 27 = .ok (.iload_n 1, 1) := by decide +kernel
theorem dX12_gifts_28 : decode cX12_gifts 28 = .ok (.aload_n 0, 1) := by decide +kernel
theorem dX12_gifts_29 : decode cX12_gifts 29 = .ok (.invokevirtual 336, 3) := by decide +kernel
theorem dX12_gifts_32 : decode cX12_gifts 32 = .ok (.iconst (-1), 1) := by decide +kernel
theorem dX12_gifts_33 : decode cX12_gifts 33 = .ok (.ixor, 1) := by decide +kernel
theorem dX12_gifts_34 : decode cX12_gifts 34 = .ok (.iand, 1) := by decide +kernel
theorem dX12_gifts_35 : decode cX12_gifts 35 = .ok (.ifCond .ne 15, 3) := by decide +kernel
theorem dX12_gifts_38 : decode cX12_gifts 38 = .ok (.aload_n 0, 1) := by decide +kernel
theorem dX12_gifts_39 : decode cX12_gifts 39 = .ok (.iload_n 1, 1) := by decide +kernel
theorem dX12_gifts_40 : decode cX12_gifts 40 = .ok (.invokevirtual 324, 3) := by decide +kernel
theorem dX12_gifts_43 : decode cX12_gifts 43 = .ok (.aload_n 0, 1) := by decide +kernel
theorem dX12_gifts_44 : decode cX12_gifts 44 = .ok (.invokevirtual 342, 3) := by decide +kernel
theorem dX12_gifts_47 : decode cX12_gifts 47 = .ok (.if_icmp .le 6, 3) := by decide +kernel
theorem dX12_gifts_53 : decode cX12_gifts 53 = .ok (.iconst 0, 1) := by decide +kernel
theorem dX12_gifts_54 : decode cX12_gifts 54 = .ok (.istore_n 2, 1) := by decide +kernel
theorem dX12_gifts_55 : decode cX12_gifts 55 = .ok (.iconst 0, 1) := by decide +kernel
theorem dX12_gifts_56 : decode cX12_gifts 56 = .ok (.istore_n 3, 1) := by decide +kernel
theorem dX12_gifts_57 : decode cX12_gifts 57 = .ok (.iconst 0, 1) := by decide +kernel
theorem dX12_gifts_58 : decode cX12_gifts 58 = .ok (.istore 4, 2) := by decide +kernel
theorem dX12_gifts_60 : decode cX12_gifts 60 = .ok (.iload 4, 2) := by decide +kernel
theorem dX12_gifts_62 : decode cX12_gifts 62 = .ok (.aload_n 0, 1) := by decide +kernel
theorem dX12_gifts_63 : decode cX12_gifts 63 = .ok (.getfield 110, 3) := by decide +kernel
theorem dX12_gifts_66 : decode cX12_gifts 66 = .ok (.if_icmp .ge 53, 3) := by decide +kernel
theorem dX12_gifts_119 : decode cX12_gifts 119 = .ok (.aload_n 0, 1) := by decide +kernel
theorem dX12_gifts_120 : decode cX12_gifts 120 = .ok (.iconst 0, 1) := by decide +kernel
theorem dX12_gifts_121 : decode cX12_gifts 121 = .ok (.putfield 107, 3) := by decide +kernel
theorem dX12_gifts_124 : decode cX12_gifts 124 = .ok (.aload_n 0, 1) := by decide +kernel
theorem dX12_gifts_125 : decode cX12_gifts 125 = .ok (.iload_n 3, 1) := by decide +kernel
theorem dX12_gifts_126 : decode cX12_gifts 126 = .ok (.invokevirtual 308, 3) := by decide +kernel
theorem dX12_gifts_129 : decode cX12_gifts 129 = .ok (.iload_n 2, 1) := by decide +kernel
theorem dX12_gifts_130 : decode cX12_gifts 130 = .ok (.ireturn, 1) := by decide +kernel
abbrev YX12_gifts : li_Y := (yX12_gifts, cX12_gifts, 6, (some .int))
theorem dX12_mute_0 : decode cX12_mute 0 = .ok (.aload_n 0, 1) := by decide +kernel
theorem dX12_mute_1 : decode cX12_mute 1 = .ok (.iconst 0, 1) := by decide +kernel
theorem dX12_mute_2 : decode cX12_mute 2 = .ok (.putfield 103, 3) := by decide +kernel
theorem dX12_mute_5 : decode cX12_mute 5 = .ok (.aload_n 0, 1) := by decide +kernel
theorem dX12_mute_6 : decode cX12_mute 6 = .ok (.invokevirtual 330, 3) := by decide +kernel
theorem dX12_mute_9 : decode cX12_mute 9 = .ok (.iconst (-1), 1) := by decide +kernel
theorem dX12_mute_10 : decode cX12_mute 10 = .ok (.istore_n 1, 1) := by decide +kernel
theorem dX12_mute_11 : decode cX12_mute 11 = .ok (.iconst 0, 1) := by decide +kernel
theorem dX12_mute_12 : decode cX12_mute 12 = .ok (.istore_n 2, 1) := by decide +kernel
theorem dX12_mute_13 : decode cX12_mute 13 = .ok (.iload_n 2, 1) := by decide +kernel
theorem dX12_mute_14 : decode cX12_mute 14 = .ok (.aload_n 0, 1) := by decide +kernel
theorem dX12_mute_15 : decode cX12_mute 15 = .ok (.getfield 121, 3) := by decide +kernel
theorem dX12_mute_18 : decode cX12_mute 18 = .ok (.if_icmp .ge 62, 3) := by decide +kernel
theorem dX12_mute_80 : decode cX12_mute 80 = .ok (.iload_n 1, 1) := by decide +kernel
theorem dX12_mute_81 : decode cX12_mute 81 = .ok (.iconst (-1), 1) := by decide +kernel
theorem dX12_mute_82 : decode cX12_mute 82 = .ok (.if_icmp .ne 6, 3) := by decide +kernel
theorem dX12_mute_85 : decode cX12_mute 85 = .ok (.bipush (-2), 2) := by decide +kernel
theorem dX12_mute_87 : decode cX12_mute 87 = .ok (.ireturn, 1) := by decide +kernel
abbrev YX12_mute : li_Y := (yX12_mute, cX12_mute, 3, (some .int))
