theorem dX12_relay_0 : decode cX12_relay 0 = .ok (.aload_n 0, 1) := by decide +kernel
theorem dX12_relay_1 : decode cX12_relay 1 = .ok (.iconst 0, 1) := by decide +kernel
theorem dX12_relay_2 : decode cX12_relay 2 = .ok (.putfield 103, 3) := by decide +kernel
theorem dX12_relay_5 : decode cX12_relay 5 = .ok (.aload_n 0, 1) := by decide +kernel
theorem dX12_relay_6 : decode cX12_relay 6 = .ok (.iload_n 1, 1) := by decide +kernel
theorem dX12_relay_7 : decode cX12_relay 7 = .ok (.invokevirtual 117, 3) := by decide +kernel
theorem dX12_relay_10 : decode cX12_relay 10 = .ok (.ifCond .eq 21, 3) := by decide +kernel
theorem dX12_relay_31 : decode cX12_relay 31 = .ok (.iconst (-1), 1) := by decide +kernel
theorem dX12_relay_32 : decode cX12_relay 32 = .ok (.ireturn, 1) := by decide +kernel
abbrev YX12_relay : li_Y := (yX12_relay, cX12_relay, 5, (some .int))
