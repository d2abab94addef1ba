theorem dX12_things_0 : decode cX12_things 0 = .ok (.aload_n 0, 1) := by decide +kernel
theorem dX12_things_1 : decode cX12_things 1 = .ok (.iconst 0, 1) := by decide +kernel
theorem dX12_things_2 : decode cX12_things 2 = .ok (.putfield 103, 3) := by decide +kernel
theorem dX12_things_5 : decode cX12_things 5 = .ok (.aload_n 0, 1) := by decide +kernel
theorem dX12_things_6 : decode cX12_things 6 = .ok (.aload_n 0, 1) := by decide +kernel
theorem dX12_things_7 : decode cX12_things 7 = .ok (.getfield 22, 3) := by decide +kernel
theorem dX12_things_10 : decode cX12_things 10 = .ok (.aload_n 0, 1) := by decide +kernel
theorem dX12_things_11 : decode cX12_things 11 = .ok (.getfield 124, 3) := by decide +kernel
theorem dX12_things_14 : decode cX12_things 14 = .ok (.bipush 76, 2) := by decide +kernel
theorem dX12_things_16 : decode cX12_things 16 = .ok (.invokevirtual 162, 3) := by decide +kernel
theorem dX12_things_19 : decode cX12_things 19 = .ok (.aload_n 0, 1) := by decide +kernel
theorem dX12_things_20 : decode cX12_things 20 = .ok (.iconst 0, 1) := by decide +kernel
theorem dX12_things_21 : decode cX12_things 21 = .ok (.putfield 124, 3) := by decide +kernel
theorem dX12_things_24 : decode cX12_things 24 = .ok (.aload_n 0, 1) := by decide +kernel
theorem dX12_things_25 : decode cX12_things 25 = .ok (.getfield 130, 3) := by decide +kernel
theorem dX12_things_28 : decode cX12_things 28 = .ok (.ifCond .ne 5, 3) := by decide +kernel
theorem dX12_things_31 : decode cX12_things 31 = .ok (.iconst 0, 1) := by decide +kernel
theorem dX12_things_32 : decode cX12_things 32 = .ok (.ireturn, 1) := by decide +kernel
abbrev YX12_things : li_Y := (yX12_things, cX12_things, 4, (some .int))
