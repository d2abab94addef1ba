theorem w_98 : (Jvm.Cond.selects "ClockForTalkModel" ({ cls := "ClockForTalkModel", name := "bestAll", desc := "()I" } : Jvm.MethodName) ({ cls := "ClockForTalkModel", name := "bestAll", desc := "()I" } : Jvm.MethodName)) ∈ li_ws := li_mem 98 (by decide +kernel) (by decide +kernel)
theorem w_1423 : (Jvm.Cond.fieldLink "ClockForTalkModel" (35 : Nat) "ClockForTalkModel" "otherRule" "[B") ∈ li_ws := li_mem 1423 (by decide +kernel) (by decide +kernel)
theorem w_1955 : (Jvm.Cond.methodLink "ClockForTalkModel" (408 : Nat) ({ cls := "ClockForTalkModel", name := "bestAll", desc := "()I" } : Jvm.MethodName)) ∈ li_ws := li_mem 1955 (by decide +kernel) (by decide +kernel)
theorem w_1957 : (Jvm.Cond.instanceMethod ({ cls := "ClockForTalkModel", name := "bestAll", desc := "()I" } : Jvm.MethodName)) ∈ li_ws := li_mem 1957 (by decide +kernel) (by decide +kernel)
theorem w_1958 : (Jvm.Cond.code ({ cls := "ClockForTalkModel", name := "bestAll", desc := "()I" } : Jvm.MethodName) prog_13_method_100_code (3 : Nat) (Option.some Jvm.ClassFile.FieldType.int)) ∈ li_ws := li_mem 1958 (by decide +kernel) (by decide +kernel)
theorem dX12_bestAll_0 : decode cX12_bestAll 0 = .ok (.aload_n 0, 1) := by decide +kernel
theorem dX12_bestAll_1 : decode cX12_bestAll 1 = .ok (.invokevirtual 330, 3) := by decide +kernel
theorem dX12_bestAll_4 : decode cX12_bestAll 4 = .ok (.iconst 0, 1) := by decide +kernel
theorem dX12_bestAll_5 : decode cX12_bestAll 5 = .ok (.istore_n 1, 1) := by decide +kernel
theorem dX12_bestAll_6 : decode cX12_bestAll 6 = .ok (.iconst 0, 1) := by decide +kernel
theorem dX12_bestAll_7 : decode cX12_bestAll 7 = .ok (.istore_n 2, 1) := by decide +kernel
theorem dX12_bestAll_8 : decode cX12_bestAll 8 = .ok (.iload_n 2, 1) := by decide +kernel
theorem dX12_bestAll_9 : decode cX12_bestAll 9 = .ok (.aload_n 0, 1) := by decide +kernel
theorem dX12_bestAll_10 : decode cX12_bestAll 10 = .ok (.getfield 110, 3) := by decide +kernel
theorem dX12_bestAll_13 : decode cX12_bestAll 13 = .ok (.if_icmp .ge 36, 3) := by decide +kernel
theorem dX12_bestAll_49 : decode cX12_bestAll 49 = .ok (.iload_n 1, 1) := by decide +kernel
theorem dX12_bestAll_50 : decode cX12_bestAll 50 = .ok (.ireturn, 1) := by decide +kernel
abbrev YX12_bestAll : li_Y := (yX12_bestAll, cX12_bestAll, 3, (some .int))
theorem dX12_rate_0 : decode cX12_rate 0 = .ok (.aload_n 0, 1) := by decide +kernel
theorem dX12_rate_1 : decode cX12_rate 1 = .ok (.iconst 0, 1) := by decide +kernel
theorem dX12_rate_2 : decode cX12_rate 2 = .ok (.putfield 103, 3) := by decide +kernel
theorem dX12_rate_5 : decode cX12_rate 5 = .ok (.aload_n 0, 1) := by decide +kernel
theorem dX12_rate_6 : decode cX12_rate 6 = .ok (.getfield 124, 3) := by decide +kernel
theorem dX12_rate_9 : decode cX12_rate 9 = .ok (.istore_n 1, 1) := by decide +kernel
theorem dX12_rate_10 : decode cX12_rate 10 = .ok (.aload_n 0, 1) := by decide +kernel
theorem dX12_rate_11 : decode cX12_rate 11 = .ok (.invokevirtual 202, 3) := by decide +kernel
theorem dX12_rate_14 : decode cX12_rate 14 = .ok (.ifCond .ne 12, 3) := by decide +kernel
theorem dX12_rate_26 : decode cX12_rate 26 = .ok (.aload_n 0, 1) := by decide +kernel
theorem dX12_rate_27 : decode cX12_rate 27 = .ok (.invokevirtual 408, 3) := by decide +kernel
theorem dX12_rate_30 : decode cX12_rate 30 = .ok (.istore_n 2, 1) := by decide +kernel
theorem dX12_rate_31 : decode cX12_rate 31 = .ok (.aload_n 0, 1) := by decide +kernel
theorem dX12_rate_32 : decode cX12_rate 32 = .ok (.getfield 205, 3) := by decide +kernel
theorem dX12_rate_35 : decode cX12_rate 35 = .ok (.istore_n 3, 1) := by decide +kernel
theorem dX12_rate_36 : decode cX12_rate 36 = .ok (.aload_n 0, 1) := by decide +kernel
theorem dX12_rate_37 : decode cX12_rate 37 = .ok (.getfield 32, 3) := by decide +kernel
theorem dX12_rate_40 : decode cX12_rate 40 = .ok (.astore 4, 2) := by decide +kernel
theorem dX12_rate_42 : decode cX12_rate 42 = .ok (.aload_n 0, 1) := by decide +kernel
theorem dX12_rate_43 : decode cX12_rate 43 = .ok (.aload_n 0, 1) := by decide +kernel
theorem dX12_rate_44 : decode cX12_rate 44 = .ok (.getfield 35, 3) := by decide +kernel
theorem dX12_rate_47 : decode cX12_rate 47 = .ok (.putfield 32, 3) := by decide +kernel
theorem dX12_rate_50 : decode cX12_rate 50 = .ok (.iconst 0, 1) := by decide +kernel
theorem dX12_rate_51 : decode cX12_rate 51 = .ok (.istore 5, 2) := by decide +kernel
theorem dX12_rate_53 : decode cX12_rate 53 = .ok (.iload 5, 2) := by decide +kernel
theorem dX12_rate_55 : decode cX12_rate 55 = .ok (.iload_n 1, 1) := by decide +kernel
theorem dX12_rate_56 : decode cX12_rate 56 = .ok (.if_icmp .ge 23, 3) := by decide +kernel
theorem dX12_rate_79 : decode cX12_rate 79 = .ok (.aload_n 0, 1) := by decide +kernel
theorem dX12_rate_80 : decode cX12_rate 80 = .ok (.iload_n 1, 1) := by decide +kernel
theorem dX12_rate_81 : decode cX12_rate 81 = .ok (.putfield 205, 3) := by decide +kernel
theorem dX12_rate_84 : decode cX12_rate 84 = .ok (.aload_n 0, 1) := by decide +kernel
theorem dX12_rate_85 : decode cX12_rate 85 = .ok (.invokevirtual 408, 3) := by decide +kernel
theorem dX12_rate_88 : decode cX12_rate 88 = .ok (.istore 5, 2) := by decide +kernel
theorem dX12_rate_90 : decode cX12_rate 90 = .ok (.aload_n 0, 1) := by decide +kernel
theorem dX12_rate_91 : decode cX12_rate 91 = .ok (.aload 4, 2) := by decide +kernel
theorem dX12_rate_93 : decode cX12_rate 93 = .ok (.putfield 32, 3) := by decide +kernel
theorem dX12_rate_96 : decode cX12_rate 96 = .ok (.aload_n 0, 1) := by decide +kernel
theorem dX12_rate_97 : decode cX12_rate 97 = .ok (.iload_n 3, 1) := by decide +kernel
theorem dX12_rate_98 : decode cX12_rate 98 = .ok (.putfield 205, 3) := by decide +kernel
theorem dX12_rate_101 : decode cX12_rate 101 = .ok (.aload_n 0, 1) := by decide +kernel
theorem dX12_rate_102 : decode cX12_rate 102 = .ok (.iconst 0, 1) := by decide +kernel
theorem dX12_rate_103 : decode cX12_rate 103 = .ok (.putfield 107, 3) := by decide +kernel
theorem dX12_rate_106 : decode cX12_rate 106 = .ok (.aload_n 0, 1) := by decide +kernel
theorem dX12_rate_107 : decode cX12_rate 107 = .ok (.iload 5, 2) := by decide +kernel
theorem dX12_rate_109 : decode cX12_rate 109 = .ok (.invokevirtual 308, 3) := by decide +kernel
theorem dX12_rate_112 : decode cX12_rate 112 = .ok (.aload_n 0, 1) := by decide +kernel
theorem dX12_rate_113 : decode cX12_rate 113 = .ok (.iload_n 2, 1) := by decide +kernel
theorem dX12_rate_114 : decode cX12_rate 114 = .ok (.invokevirtual 308, 3) := by decide +kernel
theorem dX12_rate_117 : decode cX12_rate 117 = .ok (.iload 5, 2) := by decide +kernel
theorem dX12_rate_119 : decode cX12_rate 119 = .ok (.iload_n 2, 1) := by decide +kernel
theorem dX12_rate_120 : decode cX12_rate 120 = .ok (.isub, 1) := by decide +kernel
theorem dX12_rate_121 : decode cX12_rate 121 = .ok (.ireturn, 1) := by decide +kernel
abbrev YX12_rate : li_Y := (yX12_rate, cX12_rate, 6, (some .int))
