theorem w_42 : (Jvm.Cond.selects "ClockForTalkModel" ({ cls := "ClockForTalkModel", name := "begin", desc := "([BII)V" } : Jvm.MethodName) ({ cls := "ClockForTalkModel", name := "begin", desc := "([BII)V" } : Jvm.MethodName)) ∈ li_ws := li_mem 42 (by decide +kernel) (by decide +kernel)
theorem w_1407 : (Jvm.Cond.fieldLink "ClockForTalkModel" (16 : Nat) "ClockForTalkModel" "yearly" "[I") ∈ li_ws := li_mem 1407 (by decide +kernel) (by decide +kernel)
theorem w_1420 : (Jvm.Cond.fieldLink "ClockForTalkModel" (29 : Nat) "ClockForTalkModel" "comes" "[I") ∈ li_ws := li_mem 1420 (by decide +kernel) (by decide +kernel)
theorem w_1427 : (Jvm.Cond.fieldLink "ClockForTalkModel" (174 : Nat) "ClockForTalkModel" "undoMany" "I") ∈ li_ws := li_mem 1427 (by decide +kernel) (by decide +kernel)
theorem w_1452 : (Jvm.Cond.fieldLink "ClockForTalkModel" (177 : Nat) "ClockForTalkModel" "came" "I") ∈ li_ws := li_mem 1452 (by decide +kernel) (by decide +kernel)
theorem w_1581 : (Jvm.Cond.methodLink "ClockForTalkModel" (162 : Nat) ({ cls := "ClockForTalkModel", name := "begin", desc := "([BII)V" } : Jvm.MethodName)) ∈ li_ws := li_mem 1581 (by decide +kernel) (by decide +kernel)
theorem w_1583 : (Jvm.Cond.instanceMethod ({ cls := "ClockForTalkModel", name := "begin", desc := "([BII)V" } : Jvm.MethodName)) ∈ li_ws := li_mem 1583 (by decide +kernel) (by decide +kernel)
theorem w_1584 : (Jvm.Cond.code ({ cls := "ClockForTalkModel", name := "begin", desc := "([BII)V" } : Jvm.MethodName) prog_13_method_12_code (4 : Nat) (Option.none : Option Jvm.ClassFile.FieldType)) ∈ li_ws := li_mem 1584 (by decide +kernel) (by decide +kernel)
theorem dX12_people_0 : decode cX12_people 0 = .ok (.aload_n 0, 1) := by decide +kernel
theorem dX12_people_1 : decode cX12_people 1 = .ok (.iconst 0, 1) := by decide +kernel
theorem dX12_people_2 : decode cX12_people 2 = .ok (.putfield 103, 3) := by decide +kernel
theorem dX12_people_5 : decode cX12_people 5 = .ok (.aload_n 0, 1) := by decide +kernel
theorem dX12_people_6 : decode cX12_people 6 = .ok (.aload_n 0, 1) := by decide +kernel
theorem dX12_people_7 : decode cX12_people 7 = .ok (.getfield 22, 3) := by decide +kernel
theorem dX12_people_10 : decode cX12_people 10 = .ok (.aload_n 0, 1) := by decide +kernel
theorem dX12_people_11 : decode cX12_people 11 = .ok (.getfield 124, 3) := by decide +kernel
theorem dX12_people_14 : decode cX12_people 14 = .ok (.bipush 76, 2) := by decide +kernel
theorem dX12_people_16 : decode cX12_people 16 = .ok (.invokevirtual 162, 3) := by decide +kernel
theorem dX12_people_19 : decode cX12_people 19 = .ok (.aload_n 0, 1) := by decide +kernel
theorem dX12_people_20 : decode cX12_people 20 = .ok (.iconst 0, 1) := by decide +kernel
theorem dX12_people_21 : decode cX12_people 21 = .ok (.putfield 124, 3) := by decide +kernel
theorem dX12_people_24 : decode cX12_people 24 = .ok (.aload_n 0, 1) := by decide +kernel
theorem dX12_people_25 : decode cX12_people 25 = .ok (.getfield 130, 3) := by decide +kernel
theorem dX12_people_28 : decode cX12_people 28 = .ok (.ifCond .ne 5, 3) := by decide +kernel
theorem dX12_people_31 : decode cX12_people 31 = .ok (.iconst 0, 1) := by decide +kernel
theorem dX12_people_32 : decode cX12_people 32 = .ok (.ireturn, 1) := by decide +kernel
abbrev YX12_people : li_Y := (yX12_people, cX12_people, 4, (some .int))
