theorem w_51 : (Jvm.Cond.selects "ClockForTalkModel" ({ cls := "ClockForTalkModel", name := "readRule", desc := "()Z" } : Jvm.MethodName) ({ cls := "ClockForTalkModel", name := "readRule", desc := "()Z" } : Jvm.MethodName)) ∈ li_ws := li_mem 51 (by decide +kernel) (by decide +kernel)
theorem w_1403 : (Jvm.Cond.methodLink "ClockForTalkModel" (82 : Nat) ({ cls := "java/lang/Math", name := "max", desc := "(II)I" } : Jvm.MethodName)) ∈ li_ws := li_mem 1403 (by decide +kernel) (by decide +kernel)
theorem w_1421 : (Jvm.Cond.fieldLink "ClockForTalkModel" (32 : Nat) "ClockForTalkModel" "rule" "[B") ∈ li_ws := li_mem 1421 (by decide +kernel) (by decide +kernel)
theorem w_1422 : (Jvm.Cond.fieldLink "ClockForTalkModel" (205 : Nat) "ClockForTalkModel" "ruleSize" "I") ∈ li_ws := li_mem 1422 (by decide +kernel) (by decide +kernel)
theorem w_1625 : (Jvm.Cond.methodLink "ClockForTalkModel" (202 : Nat) ({ cls := "ClockForTalkModel", name := "readRule", desc := "()Z" } : Jvm.MethodName)) ∈ li_ws := li_mem 1625 (by decide +kernel) (by decide +kernel)
theorem w_1627 : (Jvm.Cond.instanceMethod ({ cls := "ClockForTalkModel", name := "readRule", desc := "()Z" } : Jvm.MethodName)) ∈ li_ws := li_mem 1627 (by decide +kernel) (by decide +kernel)
theorem w_1628 : (Jvm.Cond.code ({ cls := "ClockForTalkModel", name := "readRule", desc := "()Z" } : Jvm.MethodName) prog_13_method_28_code (2 : Nat) (Option.some Jvm.ClassFile.FieldType.boolean)) ∈ li_ws := li_mem 1628 (by decide +kernel) (by decide +kernel)
theorem w_1705 : (Jvm.Cond.methodLink "ClockForTalkModel" (208 : Nat) ({ cls := "java/lang/Math", name := "min", desc := "(II)I" } : Jvm.MethodName)) ∈ li_ws := li_mem 1705 (by decide +kernel) (by decide +kernel)
theorem dX12_readRule_0 : decode cX12_readRule 0 = .ok (.aload_n 0, 1) := by decide +kernel
theorem dX12_readRule_1 : decode cX12_readRule 1 = .ok (.getfield 124, 3) := by decide +kernel
theorem dX12_readRule_4 : decode cX12_readRule 4 = .ok (.istore_n 1, 1) := by decide +kernel
theorem dX12_readRule_5 : decode cX12_readRule 5 = .ok (.aload_n 0, 1) := by decide +kernel
theorem dX12_readRule_6 : decode cX12_readRule 6 = .ok (.aload_n 0, 1) := by decide +kernel
theorem dX12_readRule_7 : decode cX12_readRule 7 = .ok (.getfield 22, 3) := by decide +kernel
theorem dX12_readRule_10 : decode cX12_readRule 10 = .ok (.iload_n 1, 1) := by decide +kernel
theorem dX12_readRule_11 : decode cX12_readRule 11 = .ok (.bipush 40, 2) := by decide +kernel
theorem dX12_readRule_13 : decode cX12_readRule 13 = .ok (.invokevirtual 162, 3) := by decide +kernel
theorem dX12_readRule_16 : decode cX12_readRule 16 = .ok (.aload_n 0, 1) := by decide +kernel
theorem dX12_readRule_17 : decode cX12_readRule 17 = .ok (.iconst 0, 1) := by decide +kernel
theorem dX12_readRule_18 : decode cX12_readRule 18 = .ok (.putfield 124, 3) := by decide +kernel
theorem dX12_readRule_21 : decode cX12_readRule 21 = .ok (.aload_n 0, 1) := by decide +kernel
theorem dX12_readRule_22 : decode cX12_readRule 22 = .ok (.iconst 0, 1) := by decide +kernel
theorem dX12_readRule_23 : decode cX12_readRule 23 = .ok (.putfield 198, 3) := by decide +kernel
theorem dX12_readRule_26 : decode cX12_readRule 26 = .ok (.iload_n 1, 1) := by decide +kernel
theorem dX12_readRule_27 : decode cX12_readRule 27 = .ok (.ifCond .le 25, 3) := by decide +kernel
theorem dX12_readRule_52 : decode cX12_readRule 52 = .ok (.aload_n 0, 1) := by decide +kernel
theorem dX12_readRule_53 : decode cX12_readRule 53 = .ok (.invokevirtual 142, 3) := by decide +kernel
theorem dX12_readRule_56 : decode cX12_readRule 56 = .ok (.ireturn, 1) := by decide +kernel
abbrev YX12_readRule : li_Y := (yX12_readRule, cX12_readRule, 2, (some .boolean))
theorem dX12_rule_0 : decode cX12_rule 0 = .ok (.aload_n 0, 1) := by decide +kernel
theorem dX12_rule_1 : decode cX12_rule 1 = .ok (.iconst 0, 1) := by decide +kernel
theorem dX12_rule_2 : decode cX12_rule 2 = .ok (.putfield 103, 3) := by decide +kernel
theorem dX12_rule_5 : decode cX12_rule 5 = .ok (.aload_n 0, 1) := by decide +kernel
theorem dX12_rule_6 : decode cX12_rule 6 = .ok (.getfield 124, 3) := by decide +kernel
theorem dX12_rule_9 : decode cX12_rule 9 = .ok (.istore_n 1, 1) := by decide +kernel
theorem dX12_rule_10 : decode cX12_rule 10 = .ok (.aload_n 0, 1) := by decide +kernel
theorem dX12_rule_11 : decode cX12_rule 11 = .ok (.invokevirtual 202, 3) := by decide +kernel
theorem dX12_rule_14 : decode cX12_rule 14 = .ok (.ifCond .ne 10, 3) := by decide +kernel
theorem dX12_rule_24 : decode cX12_rule 24 = .ok (.iconst 0, 1) := by decide +kernel
theorem dX12_rule_25 : decode cX12_rule 25 = .ok (.istore_n 2, 1) := by decide +kernel
theorem dX12_rule_26 : decode cX12_rule 26 = .ok (.iload_n 2, 1) := by decide +kernel
theorem dX12_rule_27 : decode cX12_rule 27 = .ok (.iload_n 1, 1) := by decide +kernel
theorem dX12_rule_28 : decode cX12_rule 28 = .ok (.if_icmp .ge 21, 3) := by decide +kernel
theorem dX12_rule_49 : decode cX12_rule 49 = .ok (.aload_n 0, 1) := by decide +kernel
theorem dX12_rule_50 : decode cX12_rule 50 = .ok (.iload_n 1, 1) := by decide +kernel
theorem dX12_rule_51 : decode cX12_rule 51 = .ok (.putfield 205, 3) := by decide +kernel
theorem dX12_rule_54 : decode cX12_rule 54 = .ok (.iconst 0, 1) := by decide +kernel
theorem dX12_rule_55 : decode cX12_rule 55 = .ok (.ireturn, 1) := by decide +kernel
abbrev YX12_rule : li_Y := (yX12_rule, cX12_rule, 3, (some .int))
