theorem w_1428 : (Jvm.Cond.fieldLink "ClockForTalkModel" (44 : Nat) "ClockForTalkModel" "aside" "[I") ∈ li_ws := li_mem 1428 (by decide +kernel) (by decide +kernel)
theorem w_1431 : (Jvm.Cond.fieldLink "ClockForTalkModel" (47 : Nat) "ClockForTalkModel" "acts" "[I") ∈ li_ws := li_mem 1431 (by decide +kernel) (by decide +kernel)
theorem w_1432 : (Jvm.Cond.fieldLink "ClockForTalkModel" (314 : Nat) "ClockForTalkModel" "costAll" "I") ∈ li_ws := li_mem 1432 (by decide +kernel) (by decide +kernel)
theorem dX12_talk_0 : decode cX12_talk 0 = .ok (.aload_n 0, 1) := by decide +kernel
theorem dX12_talk_1 : decode cX12_talk 1 = .ok (.iconst 0, 1) := by decide +kernel
theorem dX12_talk_2 : decode cX12_talk 2 = .ok (.putfield 103, 3) := by decide +kernel
theorem dX12_talk_5 : decode cX12_talk 5 = .ok (.aload_n 0, 1) := by decide +kernel
theorem dX12_talk_6 : decode cX12_talk 6 = .ok (.aload_n 0, 1) := by decide +kernel
theorem dX12_talk_7 : decode cX12_talk 7 = .ok (.getfield 22, 3) := by decide +kernel
theorem dX12_talk_10 : decode cX12_talk 10 = .ok (.aload_n 0, 1) := by decide +kernel
theorem dX12_talk_11 : decode cX12_talk 11 = .ok (.getfield 124, 3) := by decide +kernel
theorem dX12_talk_14 : decode cX12_talk 14 = .ok (.bipush 60, 2) := by decide +kernel
theorem dX12_talk_16 : decode cX12_talk 16 = .ok (.invokevirtual 162, 3) := by decide +kernel
theorem dX12_talk_19 : decode cX12_talk 19 = .ok (.aload_n 0, 1) := by decide +kernel
theorem dX12_talk_20 : decode cX12_talk 20 = .ok (.iconst 0, 1) := by decide +kernel
theorem dX12_talk_21 : decode cX12_talk 21 = .ok (.putfield 124, 3) := by decide +kernel
theorem dX12_talk_24 : decode cX12_talk 24 = .ok (.iconst 0, 1) := by decide +kernel
theorem dX12_talk_25 : decode cX12_talk 25 = .ok (.istore_n 1, 1) := by decide +kernel
theorem dX12_talk_26 : decode cX12_talk 26 = .ok (.aload_n 0, 1) := by decide +kernel
theorem dX12_talk_27 : decode cX12_talk 27 = .ok (.getfield 130, 3) := by decide +kernel
theorem dX12_talk_30 : decode cX12_talk 30 = .ok (.ifCond .le 7, 3) := by decide +kernel
theorem dX12_talk_33 : decode cX12_talk 33 = .ok (.iconst 1, 1) := by decide +kernel
theorem dX12_talk_34 : decode cX12_talk 34 = .ok (.goto 4, 3) := by decide +kernel
theorem dX12_talk_37 : decode cX12_talk 37 = .ok (.iconst 0, 1) := by decide +kernel
theorem dX12_talk_38 : decode cX12_talk 38 = .ok (.istore_n 2, 1) := by decide +kernel
theorem dX12_talk_39 : decode cX12_talk 39 = .ok (.iload_n 2, 1) := by decide +kernel
theorem dX12_talk_40 : decode cX12_talk 40 = .ok (.ifCond .eq 30, 3) := by decide +kernel
theorem dX12_talk_70 : decode cX12_talk 70 = .ok (.aload_n 0, 1) := by decide +kernel
theorem dX12_talk_71 : decode cX12_talk 71 = .ok (.getfield 136, 3) := by decide +kernel
theorem dX12_talk_74 : decode cX12_talk 74 = .ok (.aload_n 0, 1) := by decide +kernel
theorem dX12_talk_75 : decode cX12_talk 75 = .ok (.getfield 130, 3) := by decide +kernel
theorem dX12_talk_78 : decode cX12_talk 78 = .ok (.if_icmp .ge 11, 3) := by decide +kernel
theorem dX12_talk_89 : decode cX12_talk 89 = .ok (.aload_n 0, 1) := by decide +kernel
theorem dX12_talk_90 : decode cX12_talk 90 = .ok (.invokevirtual 142, 3) := by decide +kernel
theorem dX12_talk_93 : decode cX12_talk 93 = .ok (.ifCond .ne 10, 3) := by decide +kernel
theorem dX12_talk_103 : decode cX12_talk 103 = .ok (.aload_n 0, 1) := by decide +kernel
theorem dX12_talk_104 : decode cX12_talk 104 = .ok (.getfield 9, 3) := by decide +kernel
theorem dX12_talk_107 : decode cX12_talk 107 = .ok (.aload_n 0, 1) := by decide +kernel
theorem dX12_talk_108 : decode cX12_talk 108 = .ok (.getfield 44, 3) := by decide +kernel
theorem dX12_talk_111 : decode cX12_talk 111 = .ok (.iconst 0, 1) := by decide +kernel
theorem dX12_talk_112 : decode cX12_talk 112 = .ok (.invokestatic 268, 3) := by decide +kernel
theorem dX12_talk_115 : decode cX12_talk 115 = .ok (.aload_n 0, 1) := by decide +kernel
theorem dX12_talk_116 : decode cX12_talk 116 = .ok (.iconst 0, 1) := by decide +kernel
theorem dX12_talk_117 : decode cX12_talk 117 = .ok (.putfield 314, 3) := by decide +kernel
theorem dX12_talk_120 : decode cX12_talk 120 = .ok (.iconst 0, 1) := by decide +kernel
theorem dX12_talk_121 : decode cX12_talk 121 = .ok (.istore_n 3, 1) := by decide +kernel
theorem dX12_talk_122 : decode cX12_talk 122 = .ok (.iload_n 3, 1) := by decide +kernel
theorem dX12_talk_123 : decode cX12_talk 123 = .ok (.iload_n 1, 1) := by decide +kernel
theorem dX12_talk_124 : decode cX12_talk 124 = .ok (.if_icmp .ge 54, 3) := by decide +kernel
theorem dX12_talk_178 : decode cX12_talk 178 = .ok (.iload_n 3, 1) := by decide +kernel
theorem dX12_talk_179 : decode cX12_talk 179 = .ok (.ifCond .le 11, 3) := by decide +kernel
theorem dX12_talk_190 : decode cX12_talk 190 = .ok (.aload_n 0, 1) := by decide +kernel
theorem dX12_talk_191 : decode cX12_talk 191 = .ok (.iconst 0, 1) := by decide +kernel
theorem dX12_talk_192 : decode cX12_talk 192 = .ok (.putfield 107, 3) := by decide +kernel
theorem dX12_talk_195 : decode cX12_talk 195 = .ok (.aload_n 0, 1) := by decide +kernel
theorem dX12_talk_196 : decode cX12_talk 196 = .ok (.iload_n 3, 1) := by decide +kernel
theorem dX12_talk_197 : decode cX12_talk 197 = .ok (.iload_n 1, 1) := by decide +kernel
theorem dX12_talk_198 : decode cX12_talk 198 = .ok (.if_icmp .ge 7, 3) := by decide +kernel
theorem dX12_talk_201 : decode cX12_talk 201 = .ok (.iconst 1, 1) := by decide +kernel
theorem dX12_talk_202 : decode cX12_talk 202 = .ok (.goto 4, 3) := by decide +kernel
theorem dX12_talk_205 : decode cX12_talk 205 = .ok (.iconst 0, 1) := by decide +kernel
theorem dX12_talk_206 : decode cX12_talk 206 = .ok (.invokevirtual 308, 3) := by decide +kernel
theorem dX12_talk_209 : decode cX12_talk 209 = .ok (.aload_n 0, 1) := by decide +kernel
theorem dX12_talk_210 : decode cX12_talk 210 = .ok (.aload_n 0, 1) := by decide +kernel
theorem dX12_talk_211 : decode cX12_talk 211 = .ok (.getfield 314, 3) := by decide +kernel
theorem dX12_talk_214 : decode cX12_talk 214 = .ok (.invokevirtual 308, 3) := by decide +kernel
theorem dX12_talk_217 : decode cX12_talk 217 = .ok (.iload_n 3, 1) := by decide +kernel
theorem dX12_talk_218 : decode cX12_talk 218 = .ok (.ireturn, 1) := by decide +kernel
abbrev YX12_talk : li_Y := (yX12_talk, cX12_talk, 4, (some .int))
