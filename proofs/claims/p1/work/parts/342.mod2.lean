theorem w_1404 : (Jvm.Cond.fieldLink "ClockForTalkModel" (9 : Nat) "ClockForTalkModel" "now" "[I") ∈ li_ws := li_mem 1404 (by decide +kernel) (by decide +kernel)
theorem dX12_today_0 : decode cX12_today 0 = .ok (.iconst 0, 1) := by decide +kernel
theorem dX12_today_1 : decode cX12_today 1 = .ok (.istore_n 1, 1) := by decide +kernel
theorem dX12_today_2 : decode cX12_today 2 = .ok (.iconst 0, 1) := by decide +kernel
theorem dX12_today_3 : decode cX12_today 3 = .ok (.istore_n 2, 1) := by decide +kernel
theorem dX12_today_4 : decode cX12_today 4 = .ok (.iload_n 2, 1) := by decide +kernel
theorem dX12_today_5 : decode cX12_today 5 = .ok (.aload_n 0, 1) := by decide +kernel
theorem dX12_today_6 : decode cX12_today 6 = .ok (.getfield 121, 3) := by decide +kernel
theorem dX12_today_9 : decode cX12_today 9 = .ok (.if_icmp .ge 45, 3) := by decide +kernel
theorem dX12_today_54 : decode cX12_today 54 = .ok (.iload_n 1, 1) := by decide +kernel
theorem dX12_today_55 : decode cX12_today 55 = .ok (.ireturn, 1) := by decide +kernel
abbrev YX12_today : li_Y := (yX12_today, cX12_today, 3, (some .int))
