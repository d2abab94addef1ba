theorem dX11_shorter_0 : decode cX11_shorter 0 = .ok (.aload_n 0, 1) := by decide +kernel
theorem dX11_shorter_1 : decode cX11_shorter 1 = .ok (.iconst 5, 1) := by decide +kernel
theorem dX11_shorter_2 : decode cX11_shorter 2 = .ok (.bipush 14, 2) := by decide +kernel
theorem dX11_shorter_4 : decode cX11_shorter 4 = .ok (.bipush 14, 2) := by decide +kernel
theorem dX11_shorter_6 : decode cX11_shorter 6 = .ok (.invokevirtual 107, 3) := by decide +kernel
theorem dX11_shorter_9 : decode cX11_shorter 9 = .ok (.istore_n 1, 1) := by decide +kernel
theorem dX11_shorter_10 : decode cX11_shorter 10 = .ok (.iload_n 1, 1) := by decide +kernel
theorem dX11_shorter_11 : decode cX11_shorter 11 = .ok (.ifCond .ge 5, 3) := by decide +kernel
theorem dX11_shorter_14 : decode cX11_shorter 14 = .ok (.iload_n 1, 1) := by decide +kernel
theorem dX11_shorter_15 : decode cX11_shorter 15 = .ok (.ireturn, 1) := by decide +kernel
abbrev YX11_shorter : li_Y := (yX11_shorter, cX11_shorter, 3, (some .int))
theorem dX11_becomes_0 : decode cX11_becomes 0 = .ok (.aload_n 0, 1) := by decide +kernel
theorem dX11_becomes_1 : decode cX11_becomes 1 = .ok (.iconst 5, 1) := by decide +kernel
theorem dX11_becomes_2 : decode cX11_becomes 2 = .ok (.bipush 14, 2) := by decide +kernel
theorem dX11_becomes_4 : decode cX11_becomes 4 = .ok (.bipush 14, 2) := by decide +kernel
theorem dX11_becomes_6 : decode cX11_becomes 6 = .ok (.invokevirtual 107, 3) := by decide +kernel
theorem dX11_becomes_9 : decode cX11_becomes 9 = .ok (.istore_n 1, 1) := by decide +kernel
theorem dX11_becomes_10 : decode cX11_becomes 10 = .ok (.iload_n 1, 1) := by decide +kernel
theorem dX11_becomes_11 : decode cX11_becomes 11 = .ok (.ifCond .ge 5, 3) := by decide +kernel
theorem dX11_becomes_14 : decode cX11_becomes 14 = .ok (.iload_n 1, 1) := by decide +kernel
theorem dX11_becomes_15 : decode cX11_becomes 15 = .ok (.ireturn, 1) := by decide +kernel
abbrev YX11_becomes : li_Y := (yX11_becomes, cX11_becomes, 2, (some .int))
