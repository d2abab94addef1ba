theorem w_93 : (Jvm.Cond.selects "ClockForTalkModel" ({ cls := "ClockForTalkModel", name := "readWording", desc := "()I" } : Jvm.MethodName) ({ cls := "ClockForTalkModel", name := "readWording", desc := "()I" } : Jvm.MethodName)) ∈ li_ws := li_mem 93 (by decide +kernel) (by decide +kernel)
theorem w_1443 : (Jvm.Cond.fieldLink "ClockForTalkModel" (70 : Nat) "ClockForTalkModel" "turns" "[I") ∈ li_ws := li_mem 1443 (by decide +kernel) (by decide +kernel)
theorem w_1910 : (Jvm.Cond.methodLink "ClockForTalkModel" (386 : Nat) ({ cls := "ClockForTalkModel", name := "readWording", desc := "()I" } : Jvm.MethodName)) ∈ li_ws := li_mem 1910 (by decide +kernel) (by decide +kernel)
theorem w_1912 : (Jvm.Cond.instanceMethod ({ cls := "ClockForTalkModel", name := "readWording", desc := "()I" } : Jvm.MethodName)) ∈ li_ws := li_mem 1912 (by decide +kernel) (by decide +kernel)
theorem w_1913 : (Jvm.Cond.code ({ cls := "ClockForTalkModel", name := "readWording", desc := "()I" } : Jvm.MethodName) prog_13_method_89_code (7 : Nat) (Option.some Jvm.ClassFile.FieldType.int)) ∈ li_ws := li_mem 1913 (by decide +kernel) (by decide +kernel)
theorem dX12_readWording_0 : decode cX12_readWording 0 = .ok (.aload_n 0, 1) := by decide +kernel
theorem dX12_readWording_1 : decode cX12_readWording 1 = .ok (.getfield 124, 3) := by decide +kernel
theorem dX12_readWording_4 : decode cX12_readWording 4 = .ok (.istore_n 1, 1) := by decide +kernel
theorem dX12_readWording_5 : decode cX12_readWording 5 = .ok (.aload_n 0, 1) := by decide +kernel
theorem dX12_readWording_6 : decode cX12_readWording 6 = .ok (.iconst 0, 1) := by decide +kernel
theorem dX12_readWording_7 : decode cX12_readWording 7 = .ok (.putfield 124, 3) := by decide +kernel
theorem dX12_readWording_10 : decode cX12_readWording 10 = .ok (.iconst 0, 1) := by decide +kernel
theorem dX12_readWording_11 : decode cX12_readWording 11 = .ok (.istore_n 2, 1) := by decide +kernel
theorem dX12_readWording_12 : decode cX12_readWording 12 = .ok (.iload_n 2, 1) := by decide +kernel
theorem dX12_readWording_13 : decode cX12_readWording 13 = .ok (.iload_n 1, 1) := by decide +kernel
theorem dX12_readWording_14 : decode cX12_readWording 14 = .ok (.if_icmp .ge 35, 3) := by decide +kernel
theorem dX12_readWording_49 : decode cX12_readWording 49 = .ok (.iload_n 1, 1) := by decide +kernel
theorem dX12_readWording_50 : decode cX12_readWording 50 = .ok (.ifCond .ne 5, 3) := by decide +kernel
theorem dX12_readWording_53 : decode cX12_readWording 53 = .ok (.iconst (-1), 1) := by decide +kernel
theorem dX12_readWording_54 : decode cX12_readWording 54 = .ok (.ireturn, 1) := by decide +kernel
abbrev YX12_readWording : li_Y := (yX12_readWording, cX12_readWording, 7, (some .int))
theorem dX12_becomes_0 : decode cX12_becomes 0 = .ok (.aload_n 0, 1) := by decide +kernel
theorem dX12_becomes_1 : decode cX12_becomes 1 = .ok (.iconst 0, 1) := by decide +kernel
theorem dX12_becomes_2 : decode cX12_becomes 2 = .ok (.putfield 103, 3) := by decide +kernel
theorem dX12_becomes_5 : decode cX12_becomes 5 = .ok (.aload_n 0, 1) := by decide +kernel
theorem dX12_becomes_6 : decode cX12_becomes 6 = .ok (.invokevirtual 386, 3) := by decide +kernel
theorem dX12_becomes_9 : decode cX12_becomes 9 = .ok (.istore_n 1, 1) := by decide +kernel
theorem dX12_becomes_10 : decode cX12_becomes 10 = .ok (.iload_n 1, 1) := by decide +kernel
theorem dX12_becomes_11 : decode cX12_becomes 11 = .ok (.ifCond .ge 7, 3) := by decide +kernel
theorem dX12_becomes_14 : decode cX12_becomes 14 = .ok (.iload_n 1, 1) := by decide +kernel
theorem dX12_becomes_15 : decode cX12_becomes 15 = .ok (.goto 12, 3) := by decide +kernel
theorem dX12_becomes_27 : decode cX12_becomes 27 = .ok (.ireturn, 1) := by decide +kernel
abbrev YX12_becomes : li_Y := (yX12_becomes, cX12_becomes, 2, (some .int))
