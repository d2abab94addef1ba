theorem dX12_criers_0 : decode cX12_criers 0 = .ok (.aload_n 0, 1) := by decide +kernel
theorem dX12_criers_1 : decode cX12_criers 1 = .ok (.iconst 0, 1) := by decide +kernel
theorem dX12_criers_2 : decode cX12_criers 2 = .ok (.putfield 103, 3) := by decide +kernel
theorem dX12_criers_5 : decode cX12_criers 5 = .ok (.aload_n 0, 1) := by decide +kernel
theorem dX12_criers_6 : decode cX12_criers 6 = .ok (.iload_n 1, 1) := by decide +kernel
theorem dX12_criers_7 : decode cX12_criers 7 = .ok (.invokevirtual 117, 3) := by decide +kernel
theorem dX12_criers_10 : decode cX12_criers 10 = .ok (.ifCond .eq 29, 3) := by decide +kernel
theorem dX12_criers_39 : decode cX12_criers 39 = .ok (.iconst (-1), 1) := by decide +kernel
theorem dX12_criers_40 : decode cX12_criers 40 = .ok (.ireturn, 1) := by decide +kernel
abbrev YX12_criers : li_Y := (yX12_criers, cX12_criers, 6, (some .int))
