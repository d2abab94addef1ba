theorem w_1448 : (Jvm.Cond.fieldLink "ClockForTalkModel" (79 : Nat) "ClockForTalkModel" "costs" "[I") ∈ li_ws := li_mem 1448 (by decide +kernel) (by decide +kernel)
theorem w_1449 : (Jvm.Cond.fieldLink "ClockForTalkModel" (88 : Nat) "ClockForTalkModel" "isMarked" "[Z") ∈ li_ws := li_mem 1449 (by decide +kernel) (by decide +kernel)
theorem dX12_spoke_0 : decode cX12_spoke 0 = .ok (.aload_n 0, 1) := by decide +kernel
theorem dX12_spoke_1 : decode cX12_spoke 1 = .ok (.iconst 0, 1) := by decide +kernel
theorem dX12_spoke_2 : decode cX12_spoke 2 = .ok (.putfield 103, 3) := by decide +kernel
theorem dX12_spoke_5 : decode cX12_spoke 5 = .ok (.aload_n 0, 1) := by decide +kernel
theorem dX12_spoke_6 : decode cX12_spoke 6 = .ok (.iload_n 1, 1) := by decide +kernel
theorem dX12_spoke_7 : decode cX12_spoke 7 = .ok (.invokevirtual 117, 3) := by decide +kernel
theorem dX12_spoke_10 : decode cX12_spoke 10 = .ok (.ifCond .ne 5, 3) := by decide +kernel
theorem dX12_spoke_13 : decode cX12_spoke 13 = .ok (.iconst (-1), 1) := by decide +kernel
theorem dX12_spoke_14 : decode cX12_spoke 14 = .ok (.ireturn, 1) := by decide +kernel
abbrev YX12_spoke : li_Y := (yX12_spoke, cX12_spoke, 6, (some .int))
theorem dX12_look_0 : decode cX12_look 0 = .ok (.aload_n 0, 1) := by decide +kernel
theorem dX12_look_1 : decode cX12_look 1 = .ok (.iconst 0, 1) := by decide +kernel
theorem dX12_look_2 : decode cX12_look 2 = .ok (.putfield 103, 3) := by decide +kernel
theorem dX12_look_5 : decode cX12_look 5 = .ok (.bipush (-2), 2) := by decide +kernel
theorem dX12_look_7 : decode cX12_look 7 = .ok (.istore_n 1, 1) := by decide +kernel
theorem dX12_look_8 : decode cX12_look 8 = .ok (.iconst 0, 1) := by decide +kernel
theorem dX12_look_9 : decode cX12_look 9 = .ok (.istore_n 2, 1) := by decide +kernel
theorem dX12_look_10 : decode cX12_look 10 = .ok (.iconst 0, 1) := by decide +kernel
theorem dX12_look_11 : decode cX12_look 11 = .ok (.istore_n 3, 1) := by decide +kernel
theorem dX12_look_12 : decode cX12_look 12 = .ok (.iload_n 3, 1) := by decide +kernel
theorem dX12_look_13 : decode cX12_look 13 = .ok (.aload_n 0, 1) := by decide +kernel
theorem dX12_look_14 : decode cX12_look 14 = .ok (.getfield 110, 3) := by decide +kernel
theorem dX12_look_17 : decode cX12_look 17 = .ok (.if_icmp .ge 47, 3) := by decide +kernel
theorem dX12_look_64 : decode cX12_look 64 = .ok (.iload_n 1, 1) := by decide +kernel
theorem dX12_look_65 : decode cX12_look 65 = .ok (.ifCond .ge 6, 3) := by decide +kernel
theorem dX12_look_68 : decode cX12_look 68 = .ok (.bipush (-2), 2) := by decide +kernel
theorem dX12_look_70 : decode cX12_look 70 = .ok (.ireturn, 1) := by decide +kernel
abbrev YX12_look : li_Y := (yX12_look, cX12_look, 4, (some .int))
