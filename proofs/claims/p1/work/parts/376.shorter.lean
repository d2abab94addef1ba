theorem w_1445 : (Jvm.Cond.fieldLink "ClockForTalkModel" (73 : Nat) "ClockForTalkModel" "fewest" "[I") ∈ li_ws := li_mem 1445 (by decide +kernel) (by decide +kernel)
theorem dX12_shorter_0 : decode cX12_shorter 0 = .ok (.aload_n 0, 1) := by decide +kernel
theorem dX12_shorter_1 : decode cX12_shorter 1 = .ok (.iconst 0, 1) := by decide +kernel
theorem dX12_shorter_2 : decode cX12_shorter 2 = .ok (.putfield 103, 3) := by decide +kernel
theorem dX12_shorter_5 : decode cX12_shorter 5 = .ok (.aload_n 0, 1) := by decide +kernel
theorem dX12_shorter_6 : decode cX12_shorter 6 = .ok (.invokevirtual 386, 3) := by decide +kernel
theorem dX12_shorter_9 : decode cX12_shorter 9 = .ok (.istore_n 1, 1) := by decide +kernel
theorem dX12_shorter_10 : decode cX12_shorter 10 = .ok (.iload_n 1, 1) := by decide +kernel
theorem dX12_shorter_11 : decode cX12_shorter 11 = .ok (.ifCond .ge 5, 3) := by decide +kernel
theorem dX12_shorter_14 : decode cX12_shorter 14 = .ok (.iload_n 1, 1) := by decide +kernel
theorem dX12_shorter_15 : decode cX12_shorter 15 = .ok (.ireturn, 1) := by decide +kernel
abbrev YX12_shorter : li_Y := (yX12_shorter, cX12_shorter, 11, (some .int))
