theorem w_57 : (Jvm.Cond.selects "ClockForTalkModel" ({ cls := "ClockForTalkModel", name := "lost", desc := "()I" } : Jvm.MethodName) ({ cls := "ClockForTalkModel", name := "lost", desc := "()I" } : Jvm.MethodName)) ∈ li_ws := li_mem 57 (by decide +kernel) (by decide +kernel)
theorem w_59 : (Jvm.Cond.selects "ClockForTalkModel" ({ cls := "ClockForTalkModel", name := "isThing", desc := "(I)Z" } : Jvm.MethodName) ({ cls := "ClockForTalkModel", name := "isThing", desc := "(I)Z" } : Jvm.MethodName)) ∈ li_ws := li_mem 59 (by decide +kernel) (by decide +kernel)
theorem w_1656 : (Jvm.Cond.methodLink "ClockForTalkModel" (259 : Nat) ({ cls := "ClockForTalkModel", name := "lost", desc := "()I" } : Jvm.MethodName)) ∈ li_ws := li_mem 1656 (by decide +kernel) (by decide +kernel)
theorem w_1658 : (Jvm.Cond.instanceMethod ({ cls := "ClockForTalkModel", name := "lost", desc := "()I" } : Jvm.MethodName)) ∈ li_ws := li_mem 1658 (by decide +kernel) (by decide +kernel)
theorem w_1659 : (Jvm.Cond.code ({ cls := "ClockForTalkModel", name := "lost", desc := "()I" } : Jvm.MethodName) prog_13_method_5_code (1 : Nat) (Option.some Jvm.ClassFile.FieldType.int)) ∈ li_ws := li_mem 1659 (by decide +kernel) (by decide +kernel)
theorem w_1668 : (Jvm.Cond.methodLink "ClockForTalkModel" (265 : Nat) ({ cls := "ClockForTalkModel", name := "isThing", desc := "(I)Z" } : Jvm.MethodName)) ∈ li_ws := li_mem 1668 (by decide +kernel) (by decide +kernel)
theorem w_1670 : (Jvm.Cond.instanceMethod ({ cls := "ClockForTalkModel", name := "isThing", desc := "(I)Z" } : Jvm.MethodName)) ∈ li_ws := li_mem 1670 (by decide +kernel) (by decide +kernel)
theorem w_1671 : (Jvm.Cond.code ({ cls := "ClockForTalkModel", name := "isThing", desc := "(I)Z" } : Jvm.MethodName) prog_13_method_9_code (2 : Nat) (Option.some Jvm.ClassFile.FieldType.boolean)) ∈ li_ws := li_mem 1671 (by decide +kernel) (by decide +kernel)
theorem w_1700 : (Jvm.Cond.methodLink "ClockForTalkModel" (226 : Nat) ({ cls := "java/lang/Integer", name := "bitCount", desc := "(I)I" } : Jvm.MethodName)) ∈ li_ws := li_mem 1700 (by decide +kernel) (by decide +kernel)
theorem dX12_person_0 : decode cX12_person 0 = .ok (.aload_n 0, 1) := by decide +kernel
theorem dX12_person_1 : decode cX12_person 1 = .ok (.iconst 0, 1) := by decide +kernel
theorem dX12_person_2 : decode cX12_person 2 = .ok (.putfield 103, 3) := by decide +kernel
theorem dX12_person_5 : decode cX12_person 5 = .ok (.aload_n 0, 1) := by decide +kernel
theorem dX12_person_6 : decode cX12_person 6 = .ok (.iload_n 1, 1) := by decide +kernel
theorem dX12_person_7 : decode cX12_person 7 = .ok (.invokevirtual 117, 3) := by decide +kernel
theorem dX12_person_10 : decode cX12_person 10 = .ok (.ifCond .eq 13, 3) := by decide +kernel
theorem dX12_person_23 : decode cX12_person 23 = .ok (.aload_n 0, 1) := by decide +kernel
theorem dX12_person_24 : decode cX12_person 24 = .ok (.invokevirtual 259, 3) := by decide +kernel
theorem dX12_person_27 : decode cX12_person 27 = .ok (.ireturn, 1) := by decide +kernel
abbrev YX12_person : li_Y := (yX12_person, cX12_person, 3, (some .int))
theorem dX12_thing_0 : decode cX12_thing 0 = .ok (.aload_n 0, 1) := by decide +kernel
theorem dX12_thing_1 : decode cX12_thing 1 = .ok (.iconst 0, 1) := by decide +kernel
theorem dX12_thing_2 : decode cX12_thing 2 = .ok (.putfield 103, 3) := by decide +kernel
theorem dX12_thing_5 : decode cX12_thing 5 = .ok (.aload_n 0, 1) := by decide +kernel
theorem dX12_thing_6 : decode cX12_thing 6 = .ok (.iload_n 1, 1) := by decide +kernel
theorem dX12_thing_7 : decode cX12_thing 7 = .ok (.invokevirtual 265, 3) := by decide +kernel
theorem dX12_thing_10 : decode cX12_thing 10 = .ok (.ifCond .eq 13, 3) := by decide +kernel
theorem dX12_thing_23 : decode cX12_thing 23 = .ok (.aload_n 0, 1) := by decide +kernel
theorem dX12_thing_24 : decode cX12_thing 24 = .ok (.invokevirtual 259, 3) := by decide +kernel
theorem dX12_thing_27 : decode cX12_thing 27 = .ok (.ireturn, 1) := by decide +kernel
abbrev YX12_thing : li_Y := (yX12_thing, cX12_thing, 3, (some .int))
theorem dX12_loan_0 : decode cX12_loan 0 = .ok (.aload_n 0, 1) := by decide +kernel
theorem dX12_loan_1 : decode cX12_loan 1 = .ok (.iconst 0, 1) := by decide +kernel
theorem dX12_loan_2 : decode cX12_loan 2 = .ok (.putfield 103, 3) := by decide +kernel
theorem dX12_loan_5 : decode cX12_loan 5 = .ok (.iload_n 1, 1) := by decide +kernel
theorem dX12_loan_6 : decode cX12_loan 6 = .ok (.iconst 0, 1) := by decide +kernel
theorem dX12_loan_7 : decode cX12_loan 7 = .ok (.aload_n 0, 1) := by decide +kernel
theorem dX12_loan_8 : decode cX12_loan 8 = .ok (.getfield 9, 3) := by decide +kernel
theorem dX12_loan_11 : decode cX12_loan 11 = .ok (.bipush 20, 2) := by decide +kernel
theorem dX12_loan_13 : decode cX12_loan 13 = .ok (.iaload, 1) := by decide +kernel
theorem dX12_loan_14 : decode cX12_loan 14 = .ok (.iconst 1, 1) := by decide +kernel
theorem dX12_loan_15 : decode cX12_loan 15 = .ok (.isub, 1) := by decide +kernel
theorem dX12_loan_16 : decode cX12_loan 16 = .ok (.invokestatic 113, 3) := by decide +kernel
theorem dX12_loan_19 : decode cX12_loan 19 = .ok (.ifCond .eq 12, 3) := by decide +kernel
theorem dX12_loan_31 : decode cX12_loan 31 = .ok (.aload_n 0, 1) := by decide +kernel
theorem dX12_loan_32 : decode cX12_loan 32 = .ok (.invokevirtual 259, 3) := by decide +kernel
theorem dX12_loan_35 : decode cX12_loan 35 = .ok (.ireturn, 1) := by decide +kernel
abbrev YX12_loan : li_Y := (yX12_loan, cX12_loan, 3, (some .int))
theorem dX12_move_0 : decode cX12_move 0 = .ok (.aload_n 0, 1) := by decide +kernel
theorem dX12_move_1 : decode cX12_move 1 = .ok (.iconst 0, 1) := by decide +kernel
theorem dX12_move_2 : decode cX12_move 2 = .ok (.putfield 103, 3) := by decide +kernel
theorem dX12_move_5 : decode cX12_move 5 = .ok (.aload_n 0, 1) := by decide +kernel
theorem dX12_move_6 : decode cX12_move 6 = .ok (.iload_n 1, 1) := by decide +kernel
theorem dX12_move_7 : decode cX12_move 7 = .ok (.invokevirtual 117, 3) := by decide +kernel
theorem dX12_move_10 : decode cX12_move 10 = .ok (.ifCond .eq 13, 3) := by decide +kernel
theorem dX12_move_23 : decode cX12_move 23 = .ok (.iconst (-1), 1) := by decide +kernel
theorem dX12_move_24 : decode cX12_move 24 = .ok (.ireturn, 1) := by decide +kernel
abbrev YX12_move : li_Y := (yX12_move, cX12_move, 4, (some .int))
