theorem w_92 : (Jvm.Cond.selects "ClockForTalkModel" ({ cls := "ClockForTalkModel", name := "layWins", desc := "(I)V" } : Jvm.MethodName) ({ cls := "ClockForTalkModel", name := "layWins", desc := "(I)V" } : Jvm.MethodName)) ∈ li_ws := li_mem 92 (by decide +kernel) (by decide +kernel)
theorem w_1438 : (Jvm.Cond.fieldLink "ClockForTalkModel" (60 : Nat) "ClockForTalkModel" "wins" "[Z") ∈ li_ws := li_mem 1438 (by decide +kernel) (by decide +kernel)
theorem w_1439 : (Jvm.Cond.fieldLink "ClockForTalkModel" (365 : Nat) "ClockForTalkModel" "laidFor" "I") ∈ li_ws := li_mem 1439 (by decide +kernel) (by decide +kernel)
theorem w_1440 : (Jvm.Cond.fieldLink "ClockForTalkModel" (64 : Nat) "ClockForTalkModel" "lines" "[I") ∈ li_ws := li_mem 1440 (by decide +kernel) (by decide +kernel)
theorem w_1441 : (Jvm.Cond.fieldLink "ClockForTalkModel" (67 : Nat) "ClockForTalkModel" "newLines" "[I") ∈ li_ws := li_mem 1441 (by decide +kernel) (by decide +kernel)
theorem w_1442 : (Jvm.Cond.fieldLink "ClockForTalkModel" (377 : Nat) "ClockForTalkModel" "lineMany" "I") ∈ li_ws := li_mem 1442 (by decide +kernel) (by decide +kernel)
theorem w_1446 : (Jvm.Cond.fieldLink "ClockForTalkModel" (76 : Nat) "ClockForTalkModel" "readAt" "[I") ∈ li_ws := li_mem 1446 (by decide +kernel) (by decide +kernel)
theorem w_1447 : (Jvm.Cond.fieldLink "ClockForTalkModel" (392 : Nat) "ClockForTalkModel" "readBits" "I") ∈ li_ws := li_mem 1447 (by decide +kernel) (by decide +kernel)
theorem w_1884 : (Jvm.Cond.methodLink "ClockForTalkModel" (371 : Nat) ({ cls := "ClockForTalkModel", name := "isLeft", desc := "(I)Z" } : Jvm.MethodName)) ∈ li_ws := li_mem 1884 (by decide +kernel) (by decide +kernel)
theorem w_1885 : (Jvm.Cond.static ({ cls := "ClockForTalkModel", name := "isLeft", desc := "(I)Z" } : Jvm.MethodName)) ∈ li_ws := li_mem 1885 (by decide +kernel) (by decide +kernel)
theorem w_1886 : (Jvm.Cond.code ({ cls := "ClockForTalkModel", name := "isLeft", desc := "(I)Z" } : Jvm.MethodName) prog_13_method_85_code (1 : Nat) (Option.some Jvm.ClassFile.FieldType.boolean)) ∈ li_ws := li_mem 1886 (by decide +kernel) (by decide +kernel)
theorem w_1887 : (Jvm.Cond.methodLink "ClockForTalkModel" (374 : Nat) ({ cls := "ClockForTalkModel", name := "layWins", desc := "(I)V" } : Jvm.MethodName)) ∈ li_ws := li_mem 1887 (by decide +kernel) (by decide +kernel)
theorem w_1889 : (Jvm.Cond.instanceMethod ({ cls := "ClockForTalkModel", name := "layWins", desc := "(I)V" } : Jvm.MethodName)) ∈ li_ws := li_mem 1889 (by decide +kernel) (by decide +kernel)
theorem w_1890 : (Jvm.Cond.code ({ cls := "ClockForTalkModel", name := "layWins", desc := "(I)V" } : Jvm.MethodName) prog_13_method_84_code (7 : Nat) (Option.none : Option Jvm.ClassFile.FieldType)) ∈ li_ws := li_mem 1890 (by decide +kernel) (by decide +kernel)
theorem w_1891 : (Jvm.Cond.methodLink "ClockForTalkModel" (368 : Nat) ({ cls := "ClockForTalkModel", name := "place", desc := "(III)I" } : Jvm.MethodName)) ∈ li_ws := li_mem 1891 (by decide +kernel) (by decide +kernel)
theorem w_1892 : (Jvm.Cond.static ({ cls := "ClockForTalkModel", name := "place", desc := "(III)I" } : Jvm.MethodName)) ∈ li_ws := li_mem 1892 (by decide +kernel) (by decide +kernel)
theorem w_1893 : (Jvm.Cond.code ({ cls := "ClockForTalkModel", name := "place", desc := "(III)I" } : Jvm.MethodName) prog_13_method_83_code (3 : Nat) (Option.some Jvm.ClassFile.FieldType.int)) ∈ li_ws := li_mem 1893 (by decide +kernel) (by decide +kernel)
theorem dX12_place_0 : decode cX12_place 0 = .ok (.bipush 61, 2) := by decide +kernel
theorem dX12_place_2 : decode cX12_place 2 = .ok (.iload_n 0, 1) := by decide +kernel
theorem dX12_place_3 : decode cX12_place 3 = .ok (.imul, 1) := by decide +kernel
theorem dX12_place_4 : decode cX12_place 4 = .ok (.iload_n 1, 1) := by decide +kernel
theorem dX12_place_5 : decode cX12_place 5 = .ok (.iadd, 1) := by decide +kernel
theorem dX12_place_6 : decode cX12_place 6 = .ok (.bipush 10, 2) := by decide +kernel
theorem dX12_place_8 : decode cX12_place 8 = .ok (.imul, 1) := by decide +kernel
theorem dX12_place_9 : decode cX12_place 9 = .ok (.iload_n 2, 1) := by decide +kernel
theorem dX12_place_10 : decode cX12_place 10 = .ok (.iadd, 1) := by decide +kernel
theorem dX12_place_11 : decode cX12_place 11 = .ok (.ireturn, 1) := by decide +kernel
abbrev YX12_place : li_Y := (yX12_place, cX12_place, 3, (some .int))
theorem dX12_layWins_0 : decode cX12_layWins 0 = .ok (.aload_n 0, 1) := by decide +kernel
theorem dX12_layWins_1 : decode cX12_layWins 1 = .ok (.getfield 365, 3) := by decide +kernel
theorem dX12_layWins_4 : decode cX12_layWins 4 = .ok (.iload_n 1, 1) := by decide +kernel
theorem dX12_layWins_5 : decode cX12_layWins 5 = .ok (.if_icmp .ne 4, 3) := by decide +kernel
theorem dX12_layWins_8 : decode cX12_layWins 8 = .ok (.return_, 1) := by decide +kernel
theorem dX12_layWins_9 : decode cX12_layWins 9 = .ok (.aload_n 0, 1) := by decide +kernel
theorem dX12_layWins_10 : decode cX12_layWins 10 = .ok (.iload_n 1, 1) := by decide +kernel
theorem dX12_layWins_11 : decode cX12_layWins 11 = .ok (.putfield 365, 3) := by decide +kernel
theorem dX12_layWins_14 : decode cX12_layWins 14 = .ok (.iconst 0, 1) := by decide +kernel
theorem dX12_layWins_15 : decode cX12_layWins 15 = .ok (.istore_n 2, 1) := by decide +kernel
theorem dX12_layWins_16 : decode cX12_layWins 16 = .ok (.iload_n 2, 1) := by decide +kernel
theorem dX12_layWins_17 : decode cX12_layWins 17 = .ok (.bipush 120, 2) := by decide +kernel
theorem dX12_layWins_19 : decode cX12_layWins 19 = .ok (.if_icmp .gt 123, 3) := by decide +kernel
theorem dX12_layWins_22 : decode cX12_layWins 22 = .ok (.iconst 0, 1) := by decide +kernel
theorem dX12_layWins_23 : decode cX12_layWins 23 = .ok (.iload_n 2, 1) := by decide +kernel
theorem dX12_layWins_24 : decode cX12_layWins 24 = .ok (.bipush 61, 2) := by decide +kernel
theorem dX12_layWins_26 : decode cX12_layWins 26 = .ok (.isub, 1) := by decide +kernel
theorem dX12_layWins_27 : decode cX12_layWins 27 = .ok (.iconst 1, 1) := by decide +kernel
theorem dX12_layWins_28 : decode cX12_layWins 28 = .ok (.iadd, 1) := by decide +kernel
theorem dX12_layWins_29 : decode cX12_layWins 29 = .ok (.invokestatic 82, 3) := by decide +kernel
theorem dX12_layWins_32 : decode cX12_layWins 32 = .ok (.istore_n 3, 1) := by decide +kernel
theorem dX12_layWins_33 : decode cX12_layWins 33 = .ok (.iload_n 3, 1) := by decide +kernel
theorem dX12_layWins_34 : decode cX12_layWins 34 = .ok (.iload_n 2, 1) := by decide +kernel
theorem dX12_layWins_35 : decode cX12_layWins 35 = .ok (.bipush 60, 2) := by decide +kernel
theorem dX12_layWins_37 : decode cX12_layWins 37 = .ok (.invokestatic 208, 3) := by decide +kernel
theorem dX12_layWins_40 : decode cX12_layWins 40 = .ok (.if_icmp .gt 96, 3) := by decide +kernel
theorem dX12_layWins_43 : decode cX12_layWins 43 = .ok (.iconst 1, 1) := by decide +kernel
theorem dX12_layWins_44 : decode cX12_layWins 44 = .ok (.istore 4, 2) := by decide +kernel
theorem dX12_layWins_46 : decode cX12_layWins 46 = .ok (.iload 4, 2) := by decide +kernel
theorem dX12_layWins_48 : decode cX12_layWins 48 = .ok (.bipush 9, 2) := by decide +kernel
theorem dX12_layWins_50 : decode cX12_layWins 50 = .ok (.if_icmp .gt 80, 3) := by decide +kernel
theorem dX12_layWins_53 : decode cX12_layWins 53 = .ok (.iconst 0, 1) := by decide +kernel
theorem dX12_layWins_54 : decode cX12_layWins 54 = .ok (.istore 5, 2) := by decide +kernel
theorem dX12_layWins_56 : decode cX12_layWins 56 = .ok (.iload 4, 2) := by decide +kernel
theorem dX12_layWins_58 : decode cX12_layWins 58 = .ok (.istore 6, 2) := by decide +kernel
theorem dX12_layWins_60 : decode cX12_layWins 60 = .ok (.iload 6, 2) := by decide +kernel
theorem dX12_layWins_62 : decode cX12_layWins 62 = .ok (.iload_n 1, 1) := by decide +kernel
theorem dX12_layWins_63 : decode cX12_layWins 63 = .ok (.iload_n 3, 1) := by decide +kernel
theorem dX12_layWins_64 : decode cX12_layWins 64 = .ok (.invokestatic 208, 3) := by decide +kernel
theorem dX12_layWins_67 : decode cX12_layWins 67 = .ok (.if_icmp .gt 41, 3) := by decide +kernel
theorem dX12_layWins_70 : decode cX12_layWins 70 = .ok (.iload 5, 2) := by decide +kernel
theorem dX12_layWins_72 : decode cX12_layWins 72 = .ok (.ifCond .ne 23, 3) := by decide +kernel
theorem dX12_layWins_75 : decode cX12_layWins 75 = .ok (.aload_n 0, 1) := by decide +kernel
theorem dX12_layWins_76 : decode cX12_layWins 76 = .ok (.getfield 60, 3) := by decide +kernel
theorem dX12_layWins_79 : decode cX12_layWins 79 = .ok (.iload_n 2, 1) := by decide +kernel
theorem dX12_layWins_80 : decode cX12_layWins 80 = .ok (.iload_n 3, 1) := by decide +kernel
theorem dX12_layWins_81 : decode cX12_layWins 81 = .ok (.isub, 1) := by decide +kernel
theorem dX12_layWins_82 : decode cX12_layWins 82 = .ok (.iload_n 3, 1) := by decide +kernel
theorem dX12_layWins_83 : decode cX12_layWins 83 = .ok (.iload 6, 2) := by decide +kernel
theorem dX12_layWins_85 : decode cX12_layWins 85 = .ok (.isub, 1) := by decide +kernel
theorem dX12_layWins_86 : decode cX12_layWins 86 = .ok (.iload 6, 2) := by decide +kernel
theorem dX12_layWins_88 : decode cX12_layWins 88 = .ok (.invokestatic 368, 3) := by decide +kernel
theorem dX12_layWins_91 : decode cX12_layWins 91 = .ok (.baload, 1) := by decide +kernel
theorem dX12_layWins_92 : decode cX12_layWins 92 = .ok (.ifCond .ne 7, 3) := by decide +kernel
theorem dX12_layWins_95 : decode cX12_layWins 95 = .ok (.iconst 1, 1) := by decide +kernel
theorem dX12_layWins_96 : decode cX12_layWins 96 = .ok (.goto 4, 3) := by decide +kernel
theorem dX12_layWins_99 : decode cX12_layWins 99 = .ok (.iconst 0, 1) := by decide +kernel
theorem dX12_layWins_100 : decode cX12_layWins 100 = .ok (.istore 5, 2) := by decide +kernel
theorem dX12_layWins_102 : decode cX12_layWins 102 = .ok (.iinc 6 1, 3) := by decide +kernel
theorem dX12_layWins_105 : decode cX12_layWins 105 = .ok (.goto (-45), 3) := by decide +kernel
theorem dX12_layWins_108 : decode cX12_layWins 108 = .ok (.aload_n 0, 1) := by decide +kernel
theorem dX12_layWins_109 : decode cX12_layWins 109 = .ok (.getfield 60, 3) := by decide +kernel
theorem dX12_layWins_112 : decode cX12_layWins 112 = .ok (.iload_n 3, 1) := by decide +kernel
theorem dX12_layWins_113 : decode cX12_layWins 113 = .ok (.iload_n 2, 1) := by decide +kernel
theorem dX12_layWins_114 : decode cX12_layWins 114 = .ok (.iload_n 3, 1) := by decide +kernel
theorem dX12_layWins_115 : decode cX12_layWins 115 = .ok (.isub, 1) := by decide +kernel
theorem dX12_layWins_116 : decode cX12_layWins 116 = .ok (.iload 4, 2) := by decide +kernel
theorem dX12_layWins_118 : decode cX12_layWins 118 = .ok (.invokestatic 368, 3) := by decide +kernel
theorem dX12_layWins_121 : decode cX12_layWins 121 = .ok (.iload 5, 2) := by decide +kernel
theorem dX12_layWins_123 : decode cX12_layWins 123 = .ok (.bastore, 1) := by decide +kernel
theorem dX12_layWins_124 : decode cX12_layWins 124 = .ok (.iinc 4 1, 3) := by decide +kernel
theorem dX12_layWins_127 : decode cX12_layWins 127 = .ok (.goto (-81), 3) := by decide +kernel
theorem dX12_layWins_130 : decode cX12_layWins 130 = .ok (.iinc 3 1, 3) := by decide +kernel
theorem dX12_layWins_133 : decode cX12_layWins 133 = .ok (.goto (-100), 3) := by decide +kernel
theorem dX12_layWins_136 : decode cX12_layWins 136 = .ok (.iinc 2 1, 3) := by decide +kernel
theorem dX12_layWins_139 : decode cX12_layWins 139 = .ok (.goto (-123), 3) := by decide +kernel
theorem dX12_layWins_142 : decode cX12_layWins 142 = .ok (.return_, 1) := by decide +kernel
abbrev YX12_layWins : li_Y := (yX12_layWins, cX12_layWins, 7, none)
theorem dX12_debate_0 : decode cX12_debate 0 = .ok (.aload_n 0, 1) := by decide +kernel
theorem dX12_debate_1 : decode cX12_debate 1 = .ok (.iconst 0, 1) := by decide +kernel
theorem dX12_debate_2 : decode cX12_debate 2 = .ok (.putfield 103, 3) := by decide +kernel
theorem dX12_debate_5 : decode cX12_debate 5 = .ok (.iload_n 1, 1) := by decide +kernel
theorem dX12_debate_6 : decode cX12_debate 6 = .ok (.invokestatic 371, 3) := by decide +kernel
theorem dX12_debate_9 : decode cX12_debate 9 = .ok (.ifCond .eq 20, 3) := by decide +kernel
theorem dX12_debate_12 : decode cX12_debate 12 = .ok (.iload_n 2, 1) := by decide +kernel
theorem dX12_debate_13 : decode cX12_debate 13 = .ok (.invokestatic 371, 3) := by decide +kernel
theorem dX12_debate_16 : decode cX12_debate 16 = .ok (.ifCond .eq 13, 3) := by decide +kernel
theorem dX12_debate_19 : decode cX12_debate 19 = .ok (.iload_n 3, 1) := by decide +kernel
theorem dX12_debate_20 : decode cX12_debate 20 = .ok (.iconst 1, 1) := by decide +kernel
theorem dX12_debate_21 : decode cX12_debate 21 = .ok (.bipush 9, 2) := by decide +kernel
theorem dX12_debate_23 : decode cX12_debate 23 = .ok (.invokestatic 113, 3) := by decide +kernel
theorem dX12_debate_26 : decode cX12_debate 26 = .ok (.ifCond .ne 5, 3) := by decide +kernel
theorem dX12_debate_29 : decode cX12_debate 29 = .ok (.iconst (-1), 1) := by decide +kernel
theorem dX12_debate_30 : decode cX12_debate 30 = .ok (.ireturn, 1) := by decide +kernel
theorem dX12_debate_31 : decode cX12_debate 31 = .ok (.aload_n 0, 1) := by decide +kernel
theorem dX12_debate_32 : decode cX12_debate 32 = .ok (.iload_n 3, 1) := by decide +kernel
theorem dX12_debate_33 : decode cX12_debate 33 = .ok (.invokevirtual 374, 3) := by decide +kernel
theorem dX12_debate_36 : decode cX12_debate 36 = .ok (.iconst 1, 1) := by decide +kernel
theorem dX12_debate_37 : decode cX12_debate 37 = .ok (.istore 4, 2) := by decide +kernel
theorem dX12_debate_39 : decode cX12_debate 39 = .ok (.iload 4, 2) := by decide +kernel
theorem dX12_debate_41 : decode cX12_debate 41 = .ok (.iload_n 3, 1) := by decide +kernel
theorem dX12_debate_42 : decode cX12_debate 42 = .ok (.iload_n 1, 1) := by decide +kernel
theorem dX12_debate_43 : decode cX12_debate 43 = .ok (.invokestatic 208, 3) := by decide +kernel
theorem dX12_debate_46 : decode cX12_debate 46 = .ok (.if_icmp .gt 27, 3) := by decide +kernel
theorem dX12_debate_49 : decode cX12_debate 49 = .ok (.aload_n 0, 1) := by decide +kernel
theorem dX12_debate_50 : decode cX12_debate 50 = .ok (.getfield 60, 3) := by decide +kernel
theorem dX12_debate_53 : decode cX12_debate 53 = .ok (.iload_n 2, 1) := by decide +kernel
theorem dX12_debate_54 : decode cX12_debate 54 = .ok (.iload_n 1, 1) := by decide +kernel
theorem dX12_debate_55 : decode cX12_debate 55 = .ok (.iload 4, 2) := by decide +kernel
theorem dX12_debate_57 : decode cX12_debate 57 = .ok (.isub, 1) := by decide +kernel
theorem dX12_debate_58 : decode cX12_debate 58 = .ok (.iload 4, 2) := by decide +kernel
theorem dX12_debate_60 : decode cX12_debate 60 = .ok (.invokestatic 368, 3) := by decide +kernel
theorem dX12_debate_63 : decode cX12_debate 63 = .ok (.baload, 1) := by decide +kernel
theorem dX12_debate_64 : decode cX12_debate 64 = .ok (.ifCond .eq 9, 3) := by decide +kernel
theorem dX12_debate_67 : decode cX12_debate 67 = .ok (.iinc 4 1, 3) := by decide +kernel
theorem dX12_debate_70 : decode cX12_debate 70 = .ok (.goto (-31), 3) := by decide +kernel
theorem dX12_debate_73 : decode cX12_debate 73 = .ok (.iload 4, 2) := by decide +kernel
theorem dX12_debate_75 : decode cX12_debate 75 = .ok (.iload_n 3, 1) := by decide +kernel
theorem dX12_debate_76 : decode cX12_debate 76 = .ok (.iload_n 1, 1) := by decide +kernel
theorem dX12_debate_77 : decode cX12_debate 77 = .ok (.invokestatic 208, 3) := by decide +kernel
theorem dX12_debate_80 : decode cX12_debate 80 = .ok (.if_icmp .gt 7, 3) := by decide +kernel
theorem dX12_debate_83 : decode cX12_debate 83 = .ok (.iconst 1, 1) := by decide +kernel
theorem dX12_debate_84 : decode cX12_debate 84 = .ok (.goto 4, 3) := by decide +kernel
theorem dX12_debate_87 : decode cX12_debate 87 = .ok (.iconst 0, 1) := by decide +kernel
theorem dX12_debate_88 : decode cX12_debate 88 = .ok (.istore 5, 2) := by decide +kernel
theorem dX12_debate_90 : decode cX12_debate 90 = .ok (.aload_n 0, 1) := by decide +kernel
theorem dX12_debate_91 : decode cX12_debate 91 = .ok (.iconst 0, 1) := by decide +kernel
theorem dX12_debate_92 : decode cX12_debate 92 = .ok (.putfield 107, 3) := by decide +kernel
theorem dX12_debate_95 : decode cX12_debate 95 = .ok (.aload_n 0, 1) := by decide +kernel
theorem dX12_debate_96 : decode cX12_debate 96 = .ok (.iload 5, 2) := by decide +kernel
theorem dX12_debate_98 : decode cX12_debate 98 = .ok (.ifCond .eq 8, 3) := by decide +kernel
theorem dX12_debate_101 : decode cX12_debate 101 = .ok (.iload 4, 2) := by decide +kernel
theorem dX12_debate_103 : decode cX12_debate 103 = .ok (.goto 4, 3) := by decide +kernel
theorem dX12_debate_106 : decode cX12_debate 106 = .ok (.iconst 0, 1) := by decide +kernel
theorem dX12_debate_107 : decode cX12_debate 107 = .ok (.invokevirtual 308, 3) := by decide +kernel
theorem dX12_debate_110 : decode cX12_debate 110 = .ok (.iload 5, 2) := by decide +kernel
theorem dX12_debate_112 : decode cX12_debate 112 = .ok (.ifCond .eq 7, 3) := by decide +kernel
theorem dX12_debate_115 : decode cX12_debate 115 = .ok (.iconst 1, 1) := by decide +kernel
theorem dX12_debate_116 : decode cX12_debate 116 = .ok (.goto 4, 3) := by decide +kernel
theorem dX12_debate_119 : decode cX12_debate 119 = .ok (.iconst 0, 1) := by decide +kernel
theorem dX12_debate_120 : decode cX12_debate 120 = .ok (.ireturn, 1) := by decide +kernel
abbrev YX12_debate : li_Y := (yX12_debate, cX12_debate, 6, (some .int))
theorem dX12_enough_0 : decode cX12_enough 0 = .ok (.aload_n 0, 1) := by decide +kernel
theorem dX12_enough_1 : decode cX12_enough 1 = .ok (.iconst 0, 1) := by decide +kernel
theorem dX12_enough_2 : decode cX12_enough 2 = .ok (.putfield 103, 3) := by decide +kernel
theorem dX12_enough_5 : decode cX12_enough 5 = .ok (.iload_n 1, 1) := by decide +kernel
theorem dX12_enough_6 : decode cX12_enough 6 = .ok (.invokestatic 371, 3) := by decide +kernel
theorem dX12_enough_9 : decode cX12_enough 9 = .ok (.ifCond .eq 13, 3) := by decide +kernel
theorem dX12_enough_12 : decode cX12_enough 12 = .ok (.iload_n 2, 1) := by decide +kernel
theorem dX12_enough_13 : decode cX12_enough 13 = .ok (.iconst 1, 1) := by decide +kernel
theorem dX12_enough_14 : decode cX12_enough 14 = .ok (.bipush 9, 2) := by decide +kernel
theorem dX12_enough_16 : decode cX12_enough 16 = .ok (.invokestatic 113, 3) := by decide +kernel
theorem dX12_enough_19 : decode cX12_enough 19 = .ok (.ifCond .ne 5, 3) := by decide +kernel
theorem dX12_enough_22 : decode cX12_enough 22 = .ok (.iconst (-1), 1) := by decide +kernel
theorem dX12_enough_23 : decode cX12_enough 23 = .ok (.ireturn, 1) := by decide +kernel
theorem dX12_enough_24 : decode cX12_enough 24 = .ok (.aload_n 0, 1) := by decide +kernel
theorem dX12_enough_25 : decode cX12_enough 25 = .ok (.iload_n 2, 1) := by decide +kernel
theorem dX12_enough_26 : decode cX12_enough 26 = .ok (.invokevirtual 374, 3) := by decide +kernel
theorem dX12_enough_29 : decode cX12_enough 29 = .ok (.iconst 0, 1) := by decide +kernel
theorem dX12_enough_30 : decode cX12_enough 30 = .ok (.istore_n 3, 1) := by decide +kernel
theorem dX12_enough_31 : decode cX12_enough 31 = .ok (.iload_n 3, 1) := by decide +kernel
theorem dX12_enough_32 : decode cX12_enough 32 = .ok (.bipush 61, 2) := by decide +kernel
theorem dX12_enough_34 : decode cX12_enough 34 = .ok (.if_icmp .ge 25, 3) := by decide +kernel
theorem dX12_enough_37 : decode cX12_enough 37 = .ok (.aload_n 0, 1) := by decide +kernel
theorem dX12_enough_38 : decode cX12_enough 38 = .ok (.getfield 60, 3) := by decide +kernel
theorem dX12_enough_41 : decode cX12_enough 41 = .ok (.iload_n 3, 1) := by decide +kernel
theorem dX12_enough_42 : decode cX12_enough 42 = .ok (.iload_n 1, 1) := by decide +kernel
theorem dX12_enough_43 : decode cX12_enough 43 = .ok (.iconst 1, 1) := by decide +kernel
theorem dX12_enough_44 : decode cX12_enough 44 = .ok (.invokestatic 368, 3) := by decide +kernel
theorem dX12_enough_47 : decode cX12_enough 47 = .ok (.baload, 1) := by decide +kernel
theorem dX12_enough_48 : decode cX12_enough 48 = .ok (.ifCond .eq 5, 3) := by decide +kernel
theorem dX12_enough_51 : decode cX12_enough 51 = .ok (.iload_n 3, 1) := by decide +kernel
theorem dX12_enough_52 : decode cX12_enough 52 = .ok (.ireturn, 1) := by decide +kernel
theorem dX12_enough_53 : decode cX12_enough 53 = .ok (.iinc 3 1, 3) := by decide +kernel
theorem dX12_enough_56 : decode cX12_enough 56 = .ok (.goto (-25), 3) := by decide +kernel
theorem dX12_enough_59 : decode cX12_enough 59 = .ok (.bipush (-2), 2) := by decide +kernel
theorem dX12_enough_61 : decode cX12_enough 61 = .ok (.ireturn, 1) := by decide +kernel
abbrev YX12_enough : li_Y := (yX12_enough, cX12_enough, 4, (some .int))
theorem dX12_joined_0 : decode cX12_joined 0 = .ok (.iconst 0, 1) := by decide +kernel
theorem dX12_joined_1 : decode cX12_joined 1 = .ok (.istore_n 3, 1) := by decide +kernel
theorem dX12_joined_2 : decode cX12_joined 2 = .ok (.iconst 0, 1) := by decide +kernel
theorem dX12_joined_3 : decode cX12_joined 3 = .ok (.istore 4, 2) := by decide +kernel
theorem dX12_joined_5 : decode cX12_joined 5 = .ok (.iload 4, 2) := by decide +kernel
theorem dX12_joined_7 : decode cX12_joined 7 = .ok (.aload_n 0, 1) := by decide +kernel
theorem dX12_joined_8 : decode cX12_joined 8 = .ok (.getfield 377, 3) := by decide +kernel
theorem dX12_joined_11 : decode cX12_joined 11 = .ok (.if_icmp .ge 63, 3) := by decide +kernel
theorem dX12_joined_14 : decode cX12_joined 14 = .ok (.iload_n 3, 1) := by decide +kernel
theorem dX12_joined_15 : decode cX12_joined 15 = .ok (.iload_n 1, 1) := by decide +kernel
theorem dX12_joined_16 : decode cX12_joined 16 = .ok (.aload_n 0, 1) := by decide +kernel
theorem dX12_joined_17 : decode cX12_joined 17 = .ok (.getfield 64, 3) := by decide +kernel
theorem dX12_joined_20 : decode cX12_joined 20 = .ok (.iconst 3, 1) := by decide +kernel
theorem dX12_joined_21 : decode cX12_joined 21 = .ok (.iload 4, 2) := by decide +kernel
theorem dX12_joined_23 : decode cX12_joined 23 = .ok (.imul, 1) := by decide +kernel
theorem dX12_joined_24 : decode cX12_joined 24 = .ok (.iaload, 1) := by decide +kernel
theorem dX12_joined_25 : decode cX12_joined 25 = .ok (.invokestatic 251, 3) := by decide +kernel
theorem dX12_joined_28 : decode cX12_joined 28 = .ok (.ifCond .eq 37, 3) := by decide +kernel
theorem dX12_joined_31 : decode cX12_joined 31 = .ok (.iload_n 2, 1) := by decide +kernel
theorem dX12_joined_32 : decode cX12_joined 32 = .ok (.aload_n 0, 1) := by decide +kernel
theorem dX12_joined_33 : decode cX12_joined 33 = .ok (.getfield 64, 3) := by decide +kernel
theorem dX12_joined_36 : decode cX12_joined 36 = .ok (.iconst 3, 1) := by decide +kernel
theorem dX12_joined_37 : decode cX12_joined 37 = .ok (.iload 4, 2) := by decide +kernel
theorem dX12_joined_39 : decode cX12_joined 39 = .ok (.imul, 1) := by decide +kernel
theorem dX12_joined_40 : decode cX12_joined 40 = .ok (.iconst 1, 1) := by decide +kernel
theorem dX12_joined_41 : decode cX12_joined 41 = .ok (.iadd, 1) := by decide +kernel
theorem dX12_joined_42 : decode cX12_joined 42 = .ok (.iaload, 1) := by decide +kernel
theorem dX12_joined_43 : decode cX12_joined 43 = .ok (.invokestatic 251, 3) := by decide +kernel
theorem dX12_joined_46 : decode cX12_joined 46 = .ok (.ifCond .eq 19, 3) := by decide +kernel
theorem dX12_joined_49 : decode cX12_joined 49 = .ok (.iconst 1, 1) := by decide +kernel
theorem dX12_joined_50 : decode cX12_joined 50 = .ok (.aload_n 0, 1) := by decide +kernel
theorem dX12_joined_51 : decode cX12_joined 51 = .ok (.getfield 64, 3) := by decide +kernel
theorem dX12_joined_54 : decode cX12_joined 54 = .ok (.iconst 3, 1) := by decide +kernel
theorem dX12_joined_55 : decode cX12_joined 55 = .ok (.iload 4, 2) := by decide +kernel
theorem dX12_joined_57 : decode cX12_joined 57 = .ok (.imul, 1) := by decide +kernel
theorem dX12_joined_58 : decode cX12_joined 58 = .ok (.iconst 2, 1) := by decide +kernel
theorem dX12_joined_59 : decode cX12_joined 59 = .ok (.iadd, 1) := by decide +kernel
theorem dX12_joined_60 : decode cX12_joined 60 = .ok (.iaload, 1) := by decide +kernel
theorem dX12_joined_61 : decode cX12_joined 61 = .ok (.ishl, 1) := by decide +kernel
theorem dX12_joined_62 : decode cX12_joined 62 = .ok (.goto 4, 3) := by decide +kernel
theorem dX12_joined_65 : decode cX12_joined 65 = .ok (.iconst 0, 1) := by decide +kernel
theorem dX12_joined_66 : decode cX12_joined 66 = .ok (.ior, 1) := by decide +kernel
theorem dX12_joined_67 : decode cX12_joined 67 = .ok (.istore_n 3, 1) := by decide +kernel
theorem dX12_joined_68 : decode cX12_joined 68 = .ok (.iinc 4 1, 3) := by decide +kernel
theorem dX12_joined_71 : decode cX12_joined 71 = .ok (.goto (-66), 3) := by decide +kernel
theorem dX12_joined_74 : decode cX12_joined 74 = .ok (.iload_n 3, 1) := by decide +kernel
theorem dX12_joined_75 : decode cX12_joined 75 = .ok (.ireturn, 1) := by decide +kernel
abbrev YX12_joined : li_Y := (yX12_joined, cX12_joined, 5, (some .int))
theorem dX12_grammar_0 : decode cX12_grammar 0 = .ok (.aload_n 0, 1) := by decide +kernel
theorem dX12_grammar_1 : decode cX12_grammar 1 = .ok (.iconst 0, 1) := by decide +kernel
theorem dX12_grammar_2 : decode cX12_grammar 2 = .ok (.putfield 103, 3) := by decide +kernel
theorem dX12_grammar_5 : decode cX12_grammar 5 = .ok (.aload_n 0, 1) := by decide +kernel
theorem dX12_grammar_6 : decode cX12_grammar 6 = .ok (.aload_n 0, 1) := by decide +kernel
theorem dX12_grammar_7 : decode cX12_grammar 7 = .ok (.getfield 22, 3) := by decide +kernel
theorem dX12_grammar_10 : decode cX12_grammar 10 = .ok (.aload_n 0, 1) := by decide +kernel
theorem dX12_grammar_11 : decode cX12_grammar 11 = .ok (.getfield 124, 3) := by decide +kernel
theorem dX12_grammar_14 : decode cX12_grammar 14 = .ok (.bipush 80, 2) := by decide +kernel
theorem dX12_grammar_16 : decode cX12_grammar 16 = .ok (.invokevirtual 162, 3) := by decide +kernel
theorem dX12_grammar_19 : decode cX12_grammar 19 = .ok (.aload_n 0, 1) := by decide +kernel
theorem dX12_grammar_20 : decode cX12_grammar 20 = .ok (.iconst 0, 1) := by decide +kernel
theorem dX12_grammar_21 : decode cX12_grammar 21 = .ok (.putfield 124, 3) := by decide +kernel
theorem dX12_grammar_24 : decode cX12_grammar 24 = .ok (.iconst 0, 1) := by decide +kernel
theorem dX12_grammar_25 : decode cX12_grammar 25 = .ok (.istore_n 1, 1) := by decide +kernel
theorem dX12_grammar_26 : decode cX12_grammar 26 = .ok (.aload_n 0, 1) := by decide +kernel
theorem dX12_grammar_27 : decode cX12_grammar 27 = .ok (.getfield 130, 3) := by decide +kernel
theorem dX12_grammar_30 : decode cX12_grammar 30 = .ok (.ifCond .le 7, 3) := by decide +kernel
theorem dX12_grammar_33 : decode cX12_grammar 33 = .ok (.iconst 1, 1) := by decide +kernel
theorem dX12_grammar_34 : decode cX12_grammar 34 = .ok (.goto 4, 3) := by decide +kernel
theorem dX12_grammar_37 : decode cX12_grammar 37 = .ok (.iconst 0, 1) := by decide +kernel
theorem dX12_grammar_38 : decode cX12_grammar 38 = .ok (.istore_n 2, 1) := by decide +kernel
theorem dX12_grammar_39 : decode cX12_grammar 39 = .ok (.iload_n 2, 1) := by decide +kernel
theorem dX12_grammar_40 : decode cX12_grammar 40 = .ok (.ifCond .eq 101, 3) := by decide +kernel
theorem dX12_grammar_43 : decode cX12_grammar 43 = .ok (.aload_n 0, 1) := by decide +kernel
theorem dX12_grammar_44 : decode cX12_grammar 44 = .ok (.invokevirtual 142, 3) := by decide +kernel
theorem dX12_grammar_47 : decode cX12_grammar 47 = .ok (.ifCond .eq 94, 3) := by decide +kernel
theorem dX12_grammar_50 : decode cX12_grammar 50 = .ok (.iload_n 1, 1) := by decide +kernel
theorem dX12_grammar_51 : decode cX12_grammar 51 = .ok (.bipush 10, 2) := by decide +kernel
theorem dX12_grammar_53 : decode cX12_grammar 53 = .ok (.if_icmp .ne 14, 3) := by decide +kernel
theorem dX12_grammar_56 : decode cX12_grammar 56 = .ok (.aload_n 0, 1) := by decide +kernel
theorem dX12_grammar_57 : decode cX12_grammar 57 = .ok (.aload_n 0, 1) := by decide +kernel
theorem dX12_grammar_58 : decode cX12_grammar 58 = .ok (.getfield 136, 3) := by decide +kernel
theorem dX12_grammar_61 : decode cX12_grammar 61 = .ok (.invokevirtual 154, 3) := by decide +kernel
theorem dX12_grammar_64 : decode cX12_grammar 64 = .ok (.goto 64, 3) := by decide +kernel
theorem dX12_grammar_67 : decode cX12_grammar 67 = .ok (.aload_n 0, 1) := by decide +kernel
theorem dX12_grammar_68 : decode cX12_grammar 68 = .ok (.getfield 67, 3) := by decide +kernel
theorem dX12_grammar_71 : decode cX12_grammar 71 = .ok (.iconst 3, 1) := by decide +kernel
theorem dX12_grammar_72 : decode cX12_grammar 72 = .ok (.iload_n 1, 1) := by decide +kernel
theorem dX12_grammar_73 : decode cX12_grammar 73 = .ok (.imul, 1) := by decide +kernel
theorem dX12_grammar_74 : decode cX12_grammar 74 = .ok (.aload_n 0, 1) := by decide +kernel
theorem dX12_grammar_75 : decode cX12_grammar 75 = .ok (.bipush 97, 2) := by decide +kernel
theorem dX12_grammar_77 : decode cX12_grammar 77 = .ok (.bipush 7, 2) := by decide +kernel
theorem dX12_grammar_79 : decode cX12_grammar 79 = .ok (.iconst (-1), 1) := by decide +kernel
theorem dX12_grammar_80 : decode cX12_grammar 80 = .ok (.invokevirtual 158, 3) := by decide +kernel
theorem dX12_grammar_83 : decode cX12_grammar 83 = .ok (.iastore, 1) := by decide +kernel
theorem dX12_grammar_84 : decode cX12_grammar 84 = .ok (.aload_n 0, 1) := by decide +kernel
theorem dX12_grammar_85 : decode cX12_grammar 85 = .ok (.getfield 67, 3) := by decide +kernel
theorem dX12_grammar_88 : decode cX12_grammar 88 = .ok (.iconst 3, 1) := by decide +kernel
theorem dX12_grammar_89 : decode cX12_grammar 89 = .ok (.iload_n 1, 1) := by decide +kernel
theorem dX12_grammar_90 : decode cX12_grammar 90 = .ok (.imul, 1) := by decide +kernel
theorem dX12_grammar_91 : decode cX12_grammar 91 = .ok (.iconst 1, 1) := by decide +kernel
theorem dX12_grammar_92 : decode cX12_grammar 92 = .ok (.iadd, 1) := by decide +kernel
theorem dX12_grammar_93 : decode cX12_grammar 93 = .ok (.aload_n 0, 1) := by decide +kernel
theorem dX12_grammar_94 : decode cX12_grammar 94 = .ok (.bipush 97, 2) := by decide +kernel
theorem dX12_grammar_96 : decode cX12_grammar 96 = .ok (.bipush 7, 2) := by decide +kernel
theorem dX12_grammar_98 : decode cX12_grammar 98 = .ok (.iconst (-1), 1) := by decide +kernel
theorem dX12_grammar_99 : decode cX12_grammar 99 = .ok (.invokevirtual 158, 3) := by decide +kernel
theorem dX12_grammar_102 : decode cX12_grammar 102 = .ok (.iastore, 1) := by decide +kernel
theorem dX12_grammar_103 : decode cX12_grammar 103 = .ok (.aload_n 0, 1) := by decide +kernel
theorem dX12_grammar_104 : decode cX12_grammar 104 = .ok (.bipush 62, 2) := by decide +kernel
theorem dX12_grammar_106 : decode cX12_grammar 106 = .ok (.invokevirtual 170, 3) := by decide +kernel
theorem dX12_grammar_109 : decode cX12_grammar 109 = .ok (.aload_n 0, 1) := by decide +kernel
theorem dX12_grammar_110 : decode cX12_grammar 110 = .ok (.getfield 67, 3) := by decide +kernel
theorem dX12_grammar_113 : decode cX12_grammar 113 = .ok (.iconst 3, 1) := by decide +kernel
theorem dX12_grammar_114 : decode cX12_grammar 114 = .ok (.iload_n 1, 1) := by decide +kernel
theorem dX12_grammar_115 : decode cX12_grammar 115 = .ok (.imul, 1) := by decide +kernel
theorem dX12_grammar_116 : decode cX12_grammar 116 = .ok (.iconst 2, 1) := by decide +kernel
theorem dX12_grammar_117 : decode cX12_grammar 117 = .ok (.iadd, 1) := by decide +kernel
theorem dX12_grammar_118 : decode cX12_grammar 118 = .ok (.aload_n 0, 1) := by decide +kernel
theorem dX12_grammar_119 : decode cX12_grammar 119 = .ok (.bipush 97, 2) := by decide +kernel
theorem dX12_grammar_121 : decode cX12_grammar 121 = .ok (.bipush 7, 2) := by decide +kernel
theorem dX12_grammar_123 : decode cX12_grammar 123 = .ok (.iconst (-1), 1) := by decide +kernel
theorem dX12_grammar_124 : decode cX12_grammar 124 = .ok (.invokevirtual 158, 3) := by decide +kernel
theorem dX12_grammar_127 : decode cX12_grammar 127 = .ok (.iastore, 1) := by decide +kernel
theorem dX12_grammar_128 : decode cX12_grammar 128 = .ok (.iinc 1 1, 3) := by decide +kernel
theorem dX12_grammar_131 : decode cX12_grammar 131 = .ok (.aload_n 0, 1) := by decide +kernel
theorem dX12_grammar_132 : decode cX12_grammar 132 = .ok (.bipush 59, 2) := by decide +kernel
theorem dX12_grammar_134 : decode cX12_grammar 134 = .ok (.invokevirtual 150, 3) := by decide +kernel
theorem dX12_grammar_137 : decode cX12_grammar 137 = .ok (.istore_n 2, 1) := by decide +kernel
theorem dX12_grammar_138 : decode cX12_grammar 138 = .ok (.goto (-99), 3) := by decide +kernel
theorem dX12_grammar_141 : decode cX12_grammar 141 = .ok (.aload_n 0, 1) := by decide +kernel
theorem dX12_grammar_142 : decode cX12_grammar 142 = .ok (.getfield 136, 3) := by decide +kernel
theorem dX12_grammar_145 : decode cX12_grammar 145 = .ok (.aload_n 0, 1) := by decide +kernel
theorem dX12_grammar_146 : decode cX12_grammar 146 = .ok (.getfield 130, 3) := by decide +kernel
theorem dX12_grammar_149 : decode cX12_grammar 149 = .ok (.if_icmp .ge 11, 3) := by decide +kernel
theorem dX12_grammar_152 : decode cX12_grammar 152 = .ok (.aload_n 0, 1) := by decide +kernel
theorem dX12_grammar_153 : decode cX12_grammar 153 = .ok (.aload_n 0, 1) := by decide +kernel
theorem dX12_grammar_154 : decode cX12_grammar 154 = .ok (.getfield 136, 3) := by decide +kernel
theorem dX12_grammar_157 : decode cX12_grammar 157 = .ok (.invokevirtual 154, 3) := by decide +kernel
theorem dX12_grammar_160 : decode cX12_grammar 160 = .ok (.aload_n 0, 1) := by decide +kernel
theorem dX12_grammar_161 : decode cX12_grammar 161 = .ok (.invokevirtual 142, 3) := by decide +kernel
theorem dX12_grammar_164 : decode cX12_grammar 164 = .ok (.ifCond .ne 10, 3) := by decide +kernel
theorem dX12_grammar_167 : decode cX12_grammar 167 = .ok (.iconst (-1), 1) := by decide +kernel
theorem dX12_grammar_168 : decode cX12_grammar 168 = .ok (.aload_n 0, 1) := by decide +kernel
theorem dX12_grammar_169 : decode cX12_grammar 169 = .ok (.getfield 139, 3) := by decide +kernel
theorem dX12_grammar_172 : decode cX12_grammar 172 = .ok (.isub, 1) := by decide +kernel
theorem dX12_grammar_173 : decode cX12_grammar 173 = .ok (.ireturn, 1) := by decide +kernel
theorem dX12_grammar_174 : decode cX12_grammar 174 = .ok (.iconst 0, 1) := by decide +kernel
theorem dX12_grammar_175 : decode cX12_grammar 175 = .ok (.istore_n 3, 1) := by decide +kernel
theorem dX12_grammar_176 : decode cX12_grammar 176 = .ok (.iload_n 3, 1) := by decide +kernel
theorem dX12_grammar_177 : decode cX12_grammar 177 = .ok (.iconst 3, 1) := by decide +kernel
theorem dX12_grammar_178 : decode cX12_grammar 178 = .ok (.iload_n 1, 1) := by decide +kernel
theorem dX12_grammar_179 : decode cX12_grammar 179 = .ok (.imul, 1) := by decide +kernel
theorem dX12_grammar_180 : decode cX12_grammar 180 = .ok (.if_icmp .ge 21, 3) := by decide +kernel
theorem dX12_grammar_183 : decode cX12_grammar 183 = .ok (.aload_n 0, 1) := by decide +kernel
theorem dX12_grammar_184 : decode cX12_grammar 184 = .ok (.getfield 64, 3) := by decide +kernel
theorem dX12_grammar_187 : decode cX12_grammar 187 = .ok (.iload_n 3, 1) := by decide +kernel
theorem dX12_grammar_188 : decode cX12_grammar 188 = .ok (.aload_n 0, 1) := by decide +kernel
theorem dX12_grammar_189 : decode cX12_grammar 189 = .ok (.getfield 67, 3) := by decide +kernel
theorem dX12_grammar_192 : decode cX12_grammar 192 = .ok (.iload_n 3, 1) := by decide +kernel
theorem dX12_grammar_193 : decode cX12_grammar 193 = .ok (.iaload, 1) := by decide +kernel
theorem dX12_grammar_194 : decode cX12_grammar 194 = .ok (.iastore, 1) := by decide +kernel
theorem dX12_grammar_195 : decode cX12_grammar 195 = .ok (.iinc 3 1, 3) := by decide +kernel
theorem dX12_grammar_198 : decode cX12_grammar 198 = .ok (.goto (-22), 3) := by decide +kernel
theorem dX12_grammar_201 : decode cX12_grammar 201 = .ok (.aload_n 0, 1) := by decide +kernel
theorem dX12_grammar_202 : decode cX12_grammar 202 = .ok (.iload_n 1, 1) := by decide +kernel
theorem dX12_grammar_203 : decode cX12_grammar 203 = .ok (.putfield 377, 3) := by decide +kernel
theorem dX12_grammar_206 : decode cX12_grammar 206 = .ok (.iload_n 1, 1) := by decide +kernel
theorem dX12_grammar_207 : decode cX12_grammar 207 = .ok (.ireturn, 1) := by decide +kernel
abbrev YX12_grammar : li_Y := (yX12_grammar, cX12_grammar, 4, (some .int))
theorem dX12_read_0 : decode cX12_read 0 = .ok (.aload_n 0, 1) := by decide +kernel
theorem dX12_read_1 : decode cX12_read 1 = .ok (.iconst 0, 1) := by decide +kernel
theorem dX12_read_2 : decode cX12_read 2 = .ok (.putfield 103, 3) := by decide +kernel
theorem dX12_read_5 : decode cX12_read 5 = .ok (.aload_n 0, 1) := by decide +kernel
theorem dX12_read_6 : decode cX12_read 6 = .ok (.iload_n 1, 1) := by decide +kernel
theorem dX12_read_7 : decode cX12_read 7 = .ok (.invokevirtual 117, 3) := by decide +kernel
theorem dX12_read_10 : decode cX12_read 10 = .ok (.ifCond .eq 14, 3) := by decide +kernel
theorem dX12_read_13 : decode cX12_read 13 = .ok (.iload_n 2, 1) := by decide +kernel
theorem dX12_read_14 : decode cX12_read 14 = .ok (.iconst 0, 1) := by decide +kernel
theorem dX12_read_15 : decode cX12_read 15 = .ok (.sipush 9999, 3) := by decide +kernel
theorem dX12_read_18 : decode cX12_read 18 = .ok (.invokestatic 113, 3) := by decide +kernel
theorem dX12_read_21 : decode cX12_read 21 = .ok (.ifCond .ne 5, 3) := by decide +kernel
theorem dX12_read_24 : decode cX12_read 24 = .ok (.iconst (-1), 1) := by decide +kernel
theorem dX12_read_25 : decode cX12_read 25 = .ok (.ireturn, 1) := by decide +kernel
theorem dX12_read_26 : decode cX12_read 26 = .ok (.aload_n 0, 1) := by decide +kernel
theorem dX12_read_27 : decode cX12_read 27 = .ok (.getfield 76, 3) := by decide +kernel
theorem dX12_read_30 : decode cX12_read 30 = .ok (.iload_n 1, 1) := by decide +kernel
theorem dX12_read_31 : decode cX12_read 31 = .ok (.iload_n 2, 1) := by decide +kernel
theorem dX12_read_32 : decode cX12_read 32 = .ok (.iastore, 1) := by decide +kernel
theorem dX12_read_33 : decode cX12_read 33 = .ok (.aload_n 0, 1) := by decide +kernel
theorem dX12_read_34 : decode cX12_read 34 = .ok (.dup, 1) := by decide +kernel
theorem dX12_read_35 : decode cX12_read 35 = .ok (.getfield 392, 3) := by decide +kernel
theorem dX12_read_38 : decode cX12_read 38 = .ok (.iconst 1, 1) := by decide +kernel
theorem dX12_read_39 : decode cX12_read 39 = .ok (.iload_n 1, 1) := by decide +kernel
theorem dX12_read_40 : decode cX12_read 40 = .ok (.ishl, 1) := by decide +kernel
theorem dX12_read_41 : decode cX12_read 41 = .ok (.ior, 1) := by decide +kernel
theorem dX12_read_42 : decode cX12_read 42 = .ok (.putfield 392, 3) := by decide +kernel
theorem dX12_read_45 : decode cX12_read 45 = .ok (.aload_n 0, 1) := by decide +kernel
theorem dX12_read_46 : decode cX12_read 46 = .ok (.getfield 392, 3) := by decide +kernel
theorem dX12_read_49 : decode cX12_read 49 = .ok (.invokestatic 226, 3) := by decide +kernel
theorem dX12_read_52 : decode cX12_read 52 = .ok (.ireturn, 1) := by decide +kernel
abbrev YX12_read : li_Y := (yX12_read, cX12_read, 3, (some .int))
theorem dX12_forget_0 : decode cX12_forget 0 = .ok (.aload_n 0, 1) := by decide +kernel
theorem dX12_forget_1 : decode cX12_forget 1 = .ok (.iconst 0, 1) := by decide +kernel
theorem dX12_forget_2 : decode cX12_forget 2 = .ok (.putfield 103, 3) := by decide +kernel
theorem dX12_forget_5 : decode cX12_forget 5 = .ok (.aload_n 0, 1) := by decide +kernel
theorem dX12_forget_6 : decode cX12_forget 6 = .ok (.getfield 392, 3) := by decide +kernel
theorem dX12_forget_9 : decode cX12_forget 9 = .ok (.invokestatic 226, 3) := by decide +kernel
theorem dX12_forget_12 : decode cX12_forget 12 = .ok (.istore_n 1, 1) := by decide +kernel
theorem dX12_forget_13 : decode cX12_forget 13 = .ok (.aload_n 0, 1) := by decide +kernel
theorem dX12_forget_14 : decode cX12_forget 14 = .ok (.iconst 0, 1) := by decide +kernel
theorem dX12_forget_15 : decode cX12_forget 15 = .ok (.putfield 392, 3) := by decide +kernel
theorem dX12_forget_18 : decode cX12_forget 18 = .ok (.iload_n 1, 1) := by decide +kernel
theorem dX12_forget_19 : decode cX12_forget 19 = .ok (.ireturn, 1) := by decide +kernel
abbrev YX12_forget : li_Y := (yX12_forget, cX12_forget, 2, (some .int))
set_option maxRecDepth 100000 in
set_option maxHeartbeats 4000000 in
theorem k_X12_place {l : Launch} {Z : li_Z} (d : Nat) (hd : 1 ≤ d) (p1 p2 p3 : Int32) (M0 : li_M) (hJ : li_J M0) (h1 : 0 ≤ p1.toInt ∧ p1.toInt ≤ 60) (h2 : 0 ≤ p2.toInt ∧ p2.toInt ≤ 60) (h3 : 0 ≤ p3.toInt ∧ p3.toInt ≤ 9) : li_Met l Z YX12_place d [.int p1, .int p2, .int p3] M0 (fun r M' => (∃ x : Int32, r = some (.int x) ∧ (0 ≤ x.toInt ∧ x.toInt ≤ 37209)) ∧ li_fs (fun i k => False) M0 M' ∧ li_J M') := by
  refine li_enter (by decide +kernel) (Nat.le_of_ble_eq_true rfl) ?_
  show li_T l Z YX12_place d 0 [(0, .int p1), (1, .int p2), (2, .int p3)] [] M0 _
  have hf : li_fs (fun i k => False) M0 M0 := li_fs_refl
  have gp1 := tl_rg p1
  have gp2 := tl_rg p2
  have gp3 := tl_rg p3
  refine li_bipush 61 dX12_place_0 (by decide) ?_
  refine li_iload_n 0 dX12_place_2 rfl ?_
  refine li_imul dX12_place_3 ?_
  refine li_top (fun x1 ex1 => ?_)
  have z61 : (61 : Int32).toInt = 61 := rfl
  try (have tx1 : x1.toInt = 61 * (p1 : Int32).toInt := tl_mul ex1 (show -2147483648 ≤ 61 * (p1 : Int32).toInt ∧ 61 * (p1 : Int32).toInt ≤ 2147483647 by omega))
  refine li_iload_n 1 dX12_place_4 rfl ?_
  refine li_iadd dX12_place_5 ?_
  refine li_top (fun x2 ex2 => ?_)
  try (have tx2 : x2.toInt = (x1 : Int32).toInt + (p2 : Int32).toInt := tl_add ex2 (by omega))
  refine li_bipush 10 dX12_place_6 (by decide) ?_
  refine li_imul dX12_place_8 ?_
  refine li_top (fun x3 ex3 => ?_)
  have z10 : (10 : Int32).toInt = 10 := rfl
  try (have tx3 : x3.toInt = (x2 : Int32).toInt * 10 := tl_mul ex3 (show -2147483648 ≤ (x2 : Int32).toInt * 10 ∧ (x2 : Int32).toInt * 10 ≤ 2147483647 by omega))
  refine li_iload_n 2 dX12_place_9 rfl ?_
  refine li_iadd dX12_place_10 ?_
  refine li_top (fun x4 ex4 => ?_)
  try (have tx4 : x4.toInt = (x3 : Int32).toInt + (p3 : Int32).toInt := tl_add ex4 (by omega))
  exact li_iret dX12_place_11 rfl rfl ⟨⟨_, rfl, (by first | omega | (intro _; omega) | (refine ⟨?_, ?_⟩ <;> first | omega | (intro _; omega)) | (refine ⟨?_, ?_, ?_, ?_⟩ <;> first | omega | (intro _; omega)))⟩, hf, hJ⟩
set_option maxRecDepth 100000 in
set_option maxHeartbeats 4000000 in
theorem k_X12_layWins {l : Launch} {Z : li_Z} (d : Nat) (hd : 2 ≤ d) (p1 : Int32) (M0 : li_M) (hJ : li_J M0) (h1 : 1 ≤ p1.toInt ∧ p1.toInt ≤ 9) : li_Met l Z YX12_layWins d [.ref (Z.2.2 175), .int p1] M0 (fun r M' => r = none ∧ li_fs (fun i k => i = 192 ∨ (i = 175 ∧ k = 35)) M0 M' ∧ li_J M') := by
  refine li_enter (by decide +kernel) (Nat.le_of_ble_eq_true rfl) ?_
  show li_T l Z YX12_layWins d 0 [(0, .ref (Z.2.2 175)), (1, .int p1)] [] M0 _
  have hf : li_fs (fun i k => i = 192 ∨ (i = 175 ∧ k = 35)) M0 M0 := li_fs_refl
  have gp1 := tl_rg p1
  refine li_aload_n 0 dX12_layWins_0 rfl ?_
  refine li_geti (k := 35) (N := 52) (T := TX12) (C0 := RX12) dX12_layWins_1 (by decide) sh_175 rfl rfl (by decide) li_in12 w_1439 ?_
  refine li_top (fun x1 ex1 => ?_)
  have gx1 := tl_rg x1
  have mx1 : x1.toInt = (M0.1 175 35).toInt := tl_slot ex1
  refine li_iload_n 1 dX12_layWins_4 rfl ?_
  refine li_icmp_ne 9 dX12_layWins_5 (by decide) (fun c2 => ?_) (fun c2 => ?_)
  · have tc2 : ¬ x1.toInt = p1.toInt := tl_ne c2
    refine li_aload_n 0 dX12_layWins_9 rfl ?_
    refine li_iload_n 1 dX12_layWins_10 rfl ?_
    refine li_puti (k := 35) (N := 52) (T := TX12) (C0 := RX12) dX12_layWins_11 (by decide) sh_175 rfl rfl (by decide) li_in12 tyX12_ok nmX12 rfl rfl rfl rfl w_1439 ?_
    refine li_nm (fun M3 eM3 => ?_)
    have hf := li_fs_ui hf (Or.inr (⟨rfl, rfl⟩)) eM3
    have hJ := hJ.put (k := 35) (by decide) (rg_free rfl) eM3
    refine li_iconst 0 dX12_layWins_14 (by decide) ?_
    refine li_istore_n [(2, .int 0), (0, .ref (Z.2.2 175)), (1, .int p1)] dX12_layWins_15 (by decide) rfl ?_
    have L16 : ∀ (n : Nat) (x4 : Int32) (M5 : li_M), (121 - (x4 : Int32).toInt).toNat < n → li_fs (fun i k => i = 192 ∨ (i = 175 ∧ k = 35)) M0 M5 → li_J M5 → 0 ≤ (x4 : Int32).toInt ∧ (x4 : Int32).toInt ≤ 121 → li_T l Z YX12_layWins d 16 [(2, .int x4), (0, .ref (Z.2.2 175)), (1, .int p1)] [] M5 (fun r M' => r = none ∧ li_fs (fun i k => i = 192 ∨ (i = 175 ∧ k = 35)) M0 M' ∧ li_J M') := by
      intro n
      induction n with
      | zero => intro x4 M5 hn; exact absurd hn (Nat.not_lt_zero _)
      | succ n ih16 =>
        intro x4 M5 hn hf hJ hi
        have gx4 := tl_rg x4
        refine li_iload_n 0 dX12_layWins_16 rfl ?_
        refine li_bipush 120 dX12_layWins_17 (by decide) ?_
        refine li_icmp_gt 142 dX12_layWins_19 (by decide) (fun c6 => ?_) (fun c6 => ?_)
        · have tc6 : 120 < x4.toInt := tl_lt c6
          exact li_vret dX12_layWins_142 rfl ⟨rfl, hf, hJ⟩
        · have tc6 : x4.toInt ≤ 120 := tl_nlt c6
          refine li_iconst 0 dX12_layWins_22 (by decide) ?_
          refine li_iload_n 0 dX12_layWins_23 rfl ?_
          refine li_bipush 61 dX12_layWins_24 (by decide) ?_
          refine li_isub dX12_layWins_26 ?_
          refine li_top (fun x7 ex7 => ?_)
          have z61 : (61 : Int32).toInt = 61 := rfl
          try (have tx7 : x7.toInt = (x4 : Int32).toInt - (61 : Int32).toInt := tl_sub ex7 (by omega))
          refine li_iconst 1 dX12_layWins_27 (by decide) ?_
          refine li_iadd dX12_layWins_28 ?_
          refine li_top (fun x8 ex8 => ?_)
          have z1 : (1 : Int32).toInt = 1 := rfl
          try (have tx8 : x8.toInt = (x7 : Int32).toInt + (1 : Int32).toInt := tl_add ex8 (by omega))
          refine li_mmax dX12_layWins_29 (by omega) w_1403 w_642 w_113 w_643 (Nat.le_of_ble_eq_true rfl) ?_
          refine li_top (fun x9 ex9 => ?_)
          have z0 : (0 : Int32).toInt = 0 := rfl
          have tx9 := tl_max2 ex9
          refine li_istore_n [(3, .int x9), (2, .int x4), (0, .ref (Z.2.2 175)), (1, .int p1)] dX12_layWins_32 (by decide) rfl ?_
          have L33 : ∀ (n : Nat) (x10 : Int32) (M11 : li_M), (61 - (x10 : Int32).toInt).toNat < n → li_fs (fun i k => i = 192 ∨ (i = 175 ∧ k = 35)) M0 M11 → li_J M11 → 0 ≤ (x10 : Int32).toInt ∧ (x4 : Int32).toInt - 60 ≤ (x10 : Int32).toInt → li_T l Z YX12_layWins d 33 [(3, .int x10), (2, .int x4), (0, .ref (Z.2.2 175)), (1, .int p1)] [] M11 (fun r M' => r = none ∧ li_fs (fun i k => i = 192 ∨ (i = 175 ∧ k = 35)) M0 M' ∧ li_J M') := by
            intro n
            induction n with
            | zero => intro x10 M11 hn; exact absurd hn (Nat.not_lt_zero _)
            | succ n ih33 =>
              intro x10 M11 hn hf hJ hi
              have gx10 := tl_rg x10
              refine li_iload_n 0 dX12_layWins_33 rfl ?_
              refine li_iload_n 1 dX12_layWins_34 rfl ?_
              refine li_bipush 60 dX12_layWins_35 (by decide) ?_
              refine li_mmin dX12_layWins_37 (by omega) w_1701 w_726 w_113 w_727 (Nat.le_of_ble_eq_true rfl) ?_
              refine li_top (fun x12 ex12 => ?_)
              have z60 : (60 : Int32).toInt = 60 := rfl
              have tx12 := tl_min2 ex12
              refine li_icmp_gt 136 dX12_layWins_40 (by decide) (fun c13 => ?_) (fun c13 => ?_)
              · have tc13 : x12.toInt < x10.toInt := tl_lt c13
                obtain ⟨x14, ex14⟩ : ∃ y : Int32, y = x4 + 1 := ⟨_, rfl⟩
                have z1 : (1 : Int32).toInt = 1 := rfl
                try (have tx14 : x14.toInt = (x4 : Int32).toInt + (1 : Int32).toInt := tl_add ex14 (by omega))
                refine li_iinc 1 [(2, .int x14), (3, .int x10), (0, .ref (Z.2.2 175)), (1, .int p1)] x14 dX12_layWins_136 rfl (by rw [ex14]; rfl) (by decide) rfl ?_
                refine li_goto 16 dX12_layWins_139 (by decide) ?_
                refine li_pick [0, 2, 3] [(2, .int x14), (0, .ref (Z.2.2 175)), (1, .int p1)] rfl ?_
                exact ih16 x14 M11 (by omega) hf hJ (by omega)
              · have tc13 : x10.toInt ≤ x12.toInt := tl_nlt c13
                refine li_iconst 1 dX12_layWins_43 (by decide) ?_
                refine li_istore [(4, .int 1), (3, .int x10), (2, .int x4), (0, .ref (Z.2.2 175)), (1, .int p1)] dX12_layWins_44 (by decide) rfl ?_
                have L46 : ∀ (n : Nat) (x15 : Int32) (M16 : li_M), (10 - (x15 : Int32).toInt).toNat < n → li_fs (fun i k => i = 192 ∨ (i = 175 ∧ k = 35)) M0 M16 → li_J M16 → 1 ≤ (x15 : Int32).toInt → li_T l Z YX12_layWins d 46 [(4, .int x15), (3, .int x10), (2, .int x4), (0, .ref (Z.2.2 175)), (1, .int p1)] [] M16 (fun r M' => r = none ∧ li_fs (fun i k => i = 192 ∨ (i = 175 ∧ k = 35)) M0 M' ∧ li_J M') := by
                  intro n
                  induction n with
                  | zero => intro x15 M16 hn; exact absurd hn (Nat.not_lt_zero _)
                  | succ n ih46 =>
                    intro x15 M16 hn hf hJ hi
                    have gx15 := tl_rg x15
                    refine li_iload 0 dX12_layWins_46 rfl ?_
                    refine li_bipush 9 dX12_layWins_48 (by decide) ?_
                    refine li_icmp_gt 130 dX12_layWins_50 (by decide) (fun c17 => ?_) (fun c17 => ?_)
                    · have tc17 : 9 < x15.toInt := tl_lt c17
                      obtain ⟨x18, ex18⟩ : ∃ y : Int32, y = x10 + 1 := ⟨_, rfl⟩
                      have z1 : (1 : Int32).toInt = 1 := rfl
                      try (have tx18 : x18.toInt = (x10 : Int32).toInt + (1 : Int32).toInt := tl_add ex18 (by omega))
                      refine li_iinc 1 [(3, .int x18), (4, .int x15), (2, .int x4), (0, .ref (Z.2.2 175)), (1, .int p1)] x18 dX12_layWins_130 rfl (by rw [ex18]; rfl) (by decide) rfl ?_
                      refine li_goto 33 dX12_layWins_133 (by decide) ?_
                      refine li_pick [0, 2, 3, 4] [(3, .int x18), (2, .int x4), (0, .ref (Z.2.2 175)), (1, .int p1)] rfl ?_
                      exact ih33 x18 M16 (by omega) hf hJ (by omega)
                    · have tc17 : x15.toInt ≤ 9 := tl_nlt c17
                      refine li_iconst 0 dX12_layWins_53 (by decide) ?_
                      refine li_istore [(5, .int 0), (4, .int x15), (3, .int x10), (2, .int x4), (0, .ref (Z.2.2 175)), (1, .int p1)] dX12_layWins_54 (by decide) rfl ?_
                      refine li_iload 1 dX12_layWins_56 rfl ?_
                      refine li_istore [(6, .int x15), (5, .int 0), (4, .int x15), (3, .int x10), (2, .int x4), (0, .ref (Z.2.2 175)), (1, .int p1)] dX12_layWins_58 (by decide) rfl ?_
                      have L60 : ∀ (n : Nat) (x19 : Int32) (x20 : Int32) (M21 : li_M), (10 - (x19 : Int32).toInt).toNat < n → li_fs (fun i k => i = 192 ∨ (i = 175 ∧ k = 35)) M0 M21 → li_J M21 → 1 ≤ (x19 : Int32).toInt ∧ ((x20 : Int32).toInt = 0 ∨ (x20 : Int32).toInt = 1) → li_T l Z YX12_layWins d 60 [(6, .int x19), (5, .int x20), (4, .int x15), (3, .int x10), (2, .int x4), (0, .ref (Z.2.2 175)), (1, .int p1)] [] M21 (fun r M' => r = none ∧ li_fs (fun i k => i = 192 ∨ (i = 175 ∧ k = 35)) M0 M' ∧ li_J M') := by
                        intro n
                        induction n with
                        | zero => intro x19 x20 M21 hn; exact absurd hn (Nat.not_lt_zero _)
                        | succ n ih60 =>
                          intro x19 x20 M21 hn hf hJ hi
                          have gx19 := tl_rg x19
                          have gx20 := tl_rg x20
                          refine li_iload 0 dX12_layWins_60 rfl ?_
                          refine li_iload_n 6 dX12_layWins_62 rfl ?_
                          refine li_iload_n 3 dX12_layWins_63 rfl ?_
                          refine li_mmin dX12_layWins_64 (by omega) w_1701 w_726 w_113 w_727 (Nat.le_of_ble_eq_true rfl) ?_
                          refine li_top (fun x22 ex22 => ?_)
                          have tx22 := tl_min2 ex22
                          refine li_icmp_gt 108 dX12_layWins_67 (by decide) (fun c23 => ?_) (fun c23 => ?_)
                          · have tc23 : x22.toInt < x19.toInt := tl_lt c23
                            refine li_aload_n 5 dX12_layWins_108 rfl ?_
                            refine li_getr (k := 34) (N := 52) (T := TX12) (C0 := RX12) dX12_layWins_109 (by decide) sh_175 rfl rfl (by decide) (by decide) li_in12 w_1438 ?_
                            refine li_iload_n 3 dX12_layWins_112 rfl ?_
                            refine li_iload_n 4 dX12_layWins_113 rfl ?_
                            refine li_iload_n 3 dX12_layWins_114 rfl ?_
                            refine li_isub dX12_layWins_115 ?_
                            refine li_top (fun x24 ex24 => ?_)
                            try (have tx24 : x24.toInt = (x4 : Int32).toInt - (x10 : Int32).toInt := tl_sub ex24 (by omega))
                            refine li_iload 2 dX12_layWins_116 rfl ?_
                            refine li_callS (n := 3) (As := [.int x10, .int x24, .int x15]) dX12_layWins_118 (k_X12_place (d - 1) (by omega) x10 x24 x15 M21 hJ (by omega) (by omega) (by omega)) (by omega) (Nat.le_of_ble_eq_true rfl) w_1891 w_1892 w_112 w_1893 (by decide +kernel) rfl rfl (Nat.le_of_ble_eq_true rfl) (fun r M26 h27 => ?_)
                            obtain ⟨⟨x25, rfl, qx25⟩, h27, jM26⟩ := h27
                            have gx25 := tl_rg x25
                            have hf := li_fs_trans hf h27 (fun i k h => False.elim h)
                            have hJ := jM26
                            refine li_iload 1 dX12_layWins_121 rfl ?_
                            refine li_zast dX12_layWins_123 (by decide) sh_192 (tl_in (by omega)) (tl_bz (by omega)) ?_
                            refine li_nm (fun M28 eM28 => ?_)
                            have hf := li_fs_ui hf (Or.inl rfl) eM28
                            have hJ := hJ.st (by decide) (li_el_free (by unfold li_led; omega) (by decide) (by decide) (by unfold li_rq; omega)) eM28
                            obtain ⟨x29, ex29⟩ : ∃ y : Int32, y = x15 + 1 := ⟨_, rfl⟩
                            have z1 : (1 : Int32).toInt = 1 := rfl
                            try (have tx29 : x29.toInt = (x15 : Int32).toInt + (1 : Int32).toInt := tl_add ex29 (by omega))
                            refine li_iinc 2 [(4, .int x29), (6, .int x19), (5, .int x20), (3, .int x10), (2, .int x4), (0, .ref (Z.2.2 175)), (1, .int p1)] x29 dX12_layWins_124 rfl (by rw [ex29]; rfl) (by decide) rfl ?_
                            refine li_goto 46 dX12_layWins_127 (by decide) ?_
                            refine li_pick [0, 3, 4, 5, 6] [(4, .int x29), (3, .int x10), (2, .int x4), (0, .ref (Z.2.2 175)), (1, .int p1)] rfl ?_
                            exact ih46 x29 M28 (by omega) hf hJ (by omega)
                          · have tc23 : x19.toInt ≤ x22.toInt := tl_nlt c23
                            refine li_iload 1 dX12_layWins_70 rfl ?_
                            have J100 : ∀ (x31 : Int32) (M32 : li_M), li_fs (fun i k => i = 192 ∨ (i = 175 ∧ k = 35)) M0 M32 → li_J M32 → ((x31 : Int32).toInt = 0 ∨ (x31 : Int32).toInt = 1) → li_T l Z YX12_layWins d 100 [(6, .int x19), (5, .int x20), (4, .int x15), (3, .int x10), (2, .int x4), (0, .ref (Z.2.2 175)), (1, .int p1)] [.int x31] M32 (fun r M' => r = none ∧ li_fs (fun i k => i = 192 ∨ (i = 175 ∧ k = 35)) M0 M' ∧ li_J M') := by
                              intro x31 M32 hf hJ hi
                              have gx31 := tl_rg x31
                              refine li_istore [(5, .int x31), (6, .int x19), (4, .int x15), (3, .int x10), (2, .int x4), (0, .ref (Z.2.2 175)), (1, .int p1)] dX12_layWins_100 (by decide) rfl ?_
                              obtain ⟨x33, ex33⟩ : ∃ y : Int32, y = x19 + 1 := ⟨_, rfl⟩
                              have z1 : (1 : Int32).toInt = 1 := rfl
                              try (have tx33 : x33.toInt = (x19 : Int32).toInt + (1 : Int32).toInt := tl_add ex33 (by omega))
                              refine li_iinc 1 [(6, .int x33), (5, .int x31), (4, .int x15), (3, .int x10), (2, .int x4), (0, .ref (Z.2.2 175)), (1, .int p1)] x33 dX12_layWins_102 rfl (by rw [ex33]; rfl) (by decide) rfl ?_
                              refine li_goto 60 dX12_layWins_105 (by decide) ?_
                              refine li_pick [0, 1, 2, 3, 4, 5, 6] [(6, .int x33), (5, .int x31), (4, .int x15), (3, .int x10), (2, .int x4), (0, .ref (Z.2.2 175)), (1, .int p1)] rfl ?_
                              exact ih60 x33 x31 M32 (by omega) hf hJ (by omega)
                            refine li_if_ne 95 dX12_layWins_72 (by decide) (fun c30 => ?_) (fun c30 => ?_)
                            · have tc30 : ¬ x20.toInt = 0 := tl_ne c30
                              refine li_iconst 1 dX12_layWins_95 (by decide) ?_
                              refine li_goto 100 dX12_layWins_96 (by decide) ?_
                              refine li_pick [0, 1, 2, 3, 4, 5, 6] [(6, .int x19), (5, .int x20), (4, .int x15), (3, .int x10), (2, .int x4), (0, .ref (Z.2.2 175)), (1, .int p1)] rfl ?_
                              have z1 : (1 : Int32).toInt = 1 := rfl
                              exact J100 1 M21 hf hJ (by omega)
                            · have tc30 : x20.toInt = 0 := tl_eq c30
                              refine li_aload_n 5 dX12_layWins_75 rfl ?_
                              refine li_getr (k := 34) (N := 52) (T := TX12) (C0 := RX12) dX12_layWins_76 (by decide) sh_175 rfl rfl (by decide) (by decide) li_in12 w_1438 ?_
                              refine li_iload_n 4 dX12_layWins_79 rfl ?_
                              refine li_iload_n 3 dX12_layWins_80 rfl ?_
                              refine li_isub dX12_layWins_81 ?_
                              refine li_top (fun x34 ex34 => ?_)
                              try (have tx34 : x34.toInt = (x4 : Int32).toInt - (x10 : Int32).toInt := tl_sub ex34 (by omega))
                              refine li_iload_n 3 dX12_layWins_82 rfl ?_
                              refine li_iload 0 dX12_layWins_83 rfl ?_
                              refine li_isub dX12_layWins_85 ?_
                              refine li_top (fun x35 ex35 => ?_)
                              try (have tx35 : x35.toInt = (x10 : Int32).toInt - (x19 : Int32).toInt := tl_sub ex35 (by omega))
                              refine li_iload 0 dX12_layWins_86 rfl ?_
                              refine li_callS (n := 3) (As := [.int x34, .int x35, .int x19]) dX12_layWins_88 (k_X12_place (d - 1) (by omega) x34 x35 x19 M21 hJ (by omega) (by omega) (by omega)) (by omega) (Nat.le_of_ble_eq_true rfl) w_1891 w_1892 w_112 w_1893 (by decide +kernel) rfl rfl (Nat.le_of_ble_eq_true rfl) (fun r M37 h38 => ?_)
                              obtain ⟨⟨x36, rfl, qx36⟩, h38, jM37⟩ := h38
                              have gx36 := tl_rg x36
                              have hf := li_fs_trans hf h38 (fun i k h => False.elim h)
                              have hJ := jM37
                              refine li_zald dX12_layWins_91 (by decide) sh_192 (tl_in (by omega)) ?_
                              refine li_top (fun x39 ex39 => ?_)
                              have gx39 := tl_rg x39
                              refine li_if_ne 99 dX12_layWins_92 (by decide) (fun c40 => ?_) (fun c40 => ?_)
                              · have tc40 : ¬ x39.toInt = 0 := tl_ne c40
                                refine li_iconst 0 dX12_layWins_99 (by decide) ?_
                                refine li_pick [0, 1, 2, 3, 4, 5, 6] [(6, .int x19), (5, .int x20), (4, .int x15), (3, .int x10), (2, .int x4), (0, .ref (Z.2.2 175)), (1, .int p1)] rfl ?_
                                have z0 : (0 : Int32).toInt = 0 := rfl
                                exact J100 0 M37 hf hJ (by omega)
                              · have tc40 : x39.toInt = 0 := tl_eq c40
                                refine li_iconst 1 dX12_layWins_95 (by decide) ?_
                                refine li_goto 100 dX12_layWins_96 (by decide) ?_
                                refine li_pick [0, 1, 2, 3, 4, 5, 6] [(6, .int x19), (5, .int x20), (4, .int x15), (3, .int x10), (2, .int x4), (0, .ref (Z.2.2 175)), (1, .int p1)] rfl ?_
                                have z1 : (1 : Int32).toInt = 1 := rfl
                                exact J100 1 M37 hf hJ (by omega)
                      have z0 : (0 : Int32).toInt = 0 := rfl
                      exact L60 _ x15 0 M16 (Nat.lt_succ_self _) hf hJ (by omega)
                have z1 : (1 : Int32).toInt = 1 := rfl
                exact L46 _ 1 M11 (Nat.lt_succ_self _) hf hJ (by omega)
          exact L33 _ x9 M5 (Nat.lt_succ_self _) hf hJ (by omega)
    have z0 : (0 : Int32).toInt = 0 := rfl
    exact L16 _ 0 M3 (Nat.lt_succ_self _) hf hJ (by omega)
  · have tc2 : x1.toInt = p1.toInt := tl_eq c2
    exact li_vret dX12_layWins_8 rfl ⟨rfl, hf, hJ⟩
set_option maxRecDepth 100000 in
set_option maxHeartbeats 4000000 in
theorem k_X12_debate {l : Launch} {Z : li_Z} (d : Nat) (hd : 3 ≤ d) (p1 p2 p3 : Int32) (M0 : li_M) (hJ : li_J M0) : li_Met l Z YX12_debate d [.ref (Z.2.2 175), .int p1, .int p2, .int p3] M0 (fun r M' => (∃ x : Int32, r = some (.int x)) ∧ li_fs (fun i k => i = 181 ∨ i = 192 ∨ (i = 175 ∧ k = 10) ∨ (i = 175 ∧ k = 35) ∨ (i = 175 ∧ k = 9)) M0 M' ∧ li_J M') := by
  refine li_enter (by decide +kernel) (Nat.le_of_ble_eq_true rfl) ?_
  show li_T l Z YX12_debate d 0 [(0, .ref (Z.2.2 175)), (1, .int p1), (2, .int p2), (3, .int p3)] [] M0 _
  have hf : li_fs (fun i k => i = 181 ∨ i = 192 ∨ (i = 175 ∧ k = 10) ∨ (i = 175 ∧ k = 35) ∨ (i = 175 ∧ k = 9)) M0 M0 := li_fs_refl
  have gp1 := tl_rg p1
  have gp2 := tl_rg p2
  have gp3 := tl_rg p3
  have rM0_9 := J_sl9 (M := M0) hJ
  refine li_aload_n 0 dX12_debate_0 rfl ?_
  refine li_iconst 0 dX12_debate_1 (by decide) ?_
  refine li_puti (k := 10) (N := 52) (T := TX12) (C0 := RX12) dX12_debate_2 (by decide) sh_175 rfl rfl (by decide) li_in12 tyX12_ok nmX12 rfl rfl rfl rfl w_1414 ?_
  refine li_nm (fun M1 eM1 => ?_)
  have hf := li_fs_ui hf (Or.inr (Or.inr (Or.inl ⟨rfl, rfl⟩))) eM1
  have z0 : (0 : Int32).toInt = 0 := rfl
  have hJ := hJ.put (k := 10) (by decide) (rg_free rfl) eM1
  have rM1_9 := J_sl9 (M := M1) hJ
  have mM1_9 : (M1.1 175 9).toInt = (M0.1 175 9).toInt := by rw [eM1, li_ui_at, if_pos rfl, if_neg (by decide)]
  refine li_iload_n 1 dX12_debate_5 rfl ?_
  refine li_callS (n := 1) (As := [.int p1]) dX12_debate_6 (k_X12_isLeft (d - 1) (by omega) p1 M1 hJ ) (by omega) (Nat.le_of_ble_eq_true rfl) w_1884 w_1885 w_112 w_1886 (by decide +kernel) rfl rfl (Nat.le_of_ble_eq_true rfl) (fun r M3 h4 => ?_)
  obtain ⟨qx2, h4, jM3⟩ := h4
  have hf := li_fs_trans hf h4 (fun i k h => False.elim h)
  have hJ := jM3
  have rM3_9 := J_sl9 (M := M3) hJ
  have mM3_9 : (M3.1 175 9).toInt = (M1.1 175 9).toInt := tl_slot (h4.1 175 9 id)
  rcases qx2 with ⟨rfl, qx2⟩ | ⟨rfl, qx2⟩
  · skip
    refine li_if_eq 29 dX12_debate_9 (by decide) (fun c => absurd c (by decide)) (fun c => ?_)
    refine li_iload_n 2 dX12_debate_12 rfl ?_
    refine li_callS (n := 1) (As := [.int p2]) dX12_debate_13 (k_X12_isLeft (d - 1) (by omega) p2 M3 hJ ) (by omega) (Nat.le_of_ble_eq_true rfl) w_1884 w_1885 w_112 w_1886 (by decide +kernel) rfl rfl (Nat.le_of_ble_eq_true rfl) (fun r M7 h8 => ?_)
    obtain ⟨qx6, h8, jM7⟩ := h8
    have hf := li_fs_trans hf h8 (fun i k h => False.elim h)
    have hJ := jM7
    have rM7_9 := J_sl9 (M := M7) hJ
    have mM7_9 : (M7.1 175 9).toInt = (M3.1 175 9).toInt := tl_slot (h8.1 175 9 id)
    rcases qx6 with ⟨rfl, qx6⟩ | ⟨rfl, qx6⟩
    · skip
      refine li_if_eq 29 dX12_debate_16 (by decide) (fun c => absurd c (by decide)) (fun c => ?_)
      refine li_iload_n 3 dX12_debate_19 rfl ?_
      refine li_iconst 1 dX12_debate_20 (by decide) ?_
      refine li_bipush 9 dX12_debate_21 (by decide) ?_
      have z1 : (1 : Int32).toInt = 1 := rfl
      have z9 : (9 : Int32).toInt = 9 := rfl
      refine li_callS (n := 3) (As := [.int p3, .int 1, .int 9]) dX12_debate_23 (k_X12_in (d - 1) (by omega) p3 1 9 M7 hJ ) (by omega) (Nat.le_of_ble_eq_true rfl) w_1570 w_1571 w_112 w_1572 (by decide +kernel) rfl rfl (Nat.le_of_ble_eq_true rfl) (fun r M11 h12 => ?_)
      obtain ⟨qx10, h12, jM11⟩ := h12
      have hf := li_fs_trans hf h12 (fun i k h => False.elim h)
      have hJ := jM11
      have rM11_9 := J_sl9 (M := M11) hJ
      have mM11_9 : (M11.1 175 9).toInt = (M7.1 175 9).toInt := tl_slot (h12.1 175 9 id)
      rcases qx10 with ⟨rfl, qx10⟩ | ⟨rfl, qx10⟩
      · skip
        refine li_if_ne 31 dX12_debate_26 (by decide) (fun c => ?_) (fun c => absurd c (by decide))
        refine li_aload_n 0 dX12_debate_31 rfl ?_
        refine li_iload_n 3 dX12_debate_32 rfl ?_
        refine li_callV (n := 1) (As := [.int p3]) dX12_debate_33 (k_X12_layWins (d - 1) (by omega) p3 M11 hJ (by omega)) (by omega) (Nat.le_of_ble_eq_true rfl) w_1887 w_1889 w_92 w_112 w_1890 (by decide +kernel) rfl (by decide) sh_175 rfl rfl (Nat.le_of_ble_eq_true rfl) (fun r M15 h16 => ?_)
        obtain ⟨rfl, h16, jM15⟩ := h16
        have hf := li_fs_trans hf h16 (fun i k => fun h => Or.elim h (fun h => Or.inr (Or.inl h)) (fun h => Or.inr (Or.inr (Or.inr (Or.inl h)))))
        have hJ := jM15
        have rM15_9 := J_sl9 (M := M15) hJ
        have mM15_9 : (M15.1 175 9).toInt = (M11.1 175 9).toInt := tl_slot (h16.1 175 9 (show ¬ (175 = 192 ∨ (175 = 175 ∧ 9 = 35)) by decide))
        refine li_iconst 1 dX12_debate_36 (by decide) ?_
        refine li_istore [(4, .int 1), (0, .ref (Z.2.2 175)), (1, .int p1), (2, .int p2), (3, .int p3)] dX12_debate_37 (by decide) rfl ?_
        have L39 : ∀ (n : Nat) (x17 : Int32) (M18 : li_M), (10 - (x17 : Int32).toInt).toNat < n → li_fs (fun i k => i = 181 ∨ i = 192 ∨ (i = 175 ∧ k = 10) ∨ (i = 175 ∧ k = 35) ∨ (i = 175 ∧ k = 9)) M0 M18 → li_J M18 → 1 ≤ (x17 : Int32).toInt → li_T l Z YX12_debate d 39 [(4, .int x17), (0, .ref (Z.2.2 175)), (1, .int p1), (2, .int p2), (3, .int p3)] [] M18 (fun r M' => (∃ x : Int32, r = some (.int x)) ∧ li_fs (fun i k => i = 181 ∨ i = 192 ∨ (i = 175 ∧ k = 10) ∨ (i = 175 ∧ k = 35) ∨ (i = 175 ∧ k = 9)) M0 M' ∧ li_J M') := by
          intro n
          induction n with
          | zero => intro x17 M18 hn; exact absurd hn (Nat.not_lt_zero _)
          | succ n ih39 =>
            intro x17 M18 hn hf hJ hi
            have gx17 := tl_rg x17
            have rM18_9 := J_sl9 (M := M18) hJ
            refine li_iload 0 dX12_debate_39 rfl ?_
            refine li_iload_n 4 dX12_debate_41 rfl ?_
            refine li_iload_n 2 dX12_debate_42 rfl ?_
            refine li_mmin dX12_debate_43 (by omega) w_1701 w_726 w_113 w_727 (Nat.le_of_ble_eq_true rfl) ?_
            refine li_top (fun x19 ex19 => ?_)
            have tx19 := tl_min2 ex19
            refine li_icmp_gt 73 dX12_debate_46 (by decide) (fun c20 => ?_) (fun c20 => ?_)
            · have tc20 : x19.toInt < x17.toInt := tl_lt c20
              refine li_iload 0 dX12_debate_73 rfl ?_
              refine li_iload_n 4 dX12_debate_75 rfl ?_
              refine li_iload_n 2 dX12_debate_76 rfl ?_
              refine li_mmin dX12_debate_77 (by omega) w_1701 w_726 w_113 w_727 (Nat.le_of_ble_eq_true rfl) ?_
              refine li_top (fun x21 ex21 => ?_)
              have tx21 := tl_min2 ex21
              have J88 : ∀ (x23 : Int32) (M24 : li_M), li_fs (fun i k => i = 181 ∨ i = 192 ∨ (i = 175 ∧ k = 10) ∨ (i = 175 ∧ k = 35) ∨ (i = 175 ∧ k = 9)) M0 M24 → li_J M24 → li_T l Z YX12_debate d 88 [(4, .int x17), (0, .ref (Z.2.2 175)), (1, .int p1), (2, .int p2), (3, .int p3)] [.int x23] M24 (fun r M' => (∃ x : Int32, r = some (.int x)) ∧ li_fs (fun i k => i = 181 ∨ i = 192 ∨ (i = 175 ∧ k = 10) ∨ (i = 175 ∧ k = 35) ∨ (i = 175 ∧ k = 9)) M0 M' ∧ li_J M') := by
                intro x23 M24 hf hJ
                have gx23 := tl_rg x23
                have rM24_9 := J_sl9 (M := M24) hJ
                refine li_istore [(5, .int x23), (4, .int x17), (0, .ref (Z.2.2 175)), (1, .int p1), (2, .int p2), (3, .int p3)] dX12_debate_88 (by decide) rfl ?_
                refine li_aload_n 2 dX12_debate_90 rfl ?_
                refine li_iconst 0 dX12_debate_91 (by decide) ?_
                refine li_puti (k := 9) (N := 52) (T := TX12) (C0 := RX12) dX12_debate_92 (by decide) sh_175 rfl rfl (by decide) li_in12 tyX12_ok nmX12 rfl rfl rfl rfl w_1413 ?_
                refine li_nm (fun M25 eM25 => ?_)
                have hf := li_fs_ui hf (Or.inr (Or.inr (Or.inr (Or.inr (⟨rfl, rfl⟩))))) eM25
                have z0 : (0 : Int32).toInt = 0 := rfl
                have hJ := J_pt9 hJ (show 0 ≤ (0 : Int32).toInt ∧ (0 : Int32).toInt ≤ 20 by omega) eM25
                have rM25_9 := J_sl9 (M := M25) hJ
                have mM25_9 : (M25.1 175 9).toInt = 0 := by rw [eM25, li_ui_at, if_pos rfl, if_pos rfl]; rfl
                refine li_aload_n 2 dX12_debate_95 rfl ?_
                refine li_iload 0 dX12_debate_96 rfl ?_
                have J107 : ∀ (x27 : Int32) (M28 : li_M), li_fs (fun i k => i = 181 ∨ i = 192 ∨ (i = 175 ∧ k = 10) ∨ (i = 175 ∧ k = 35) ∨ (i = 175 ∧ k = 9)) M0 M28 → li_J M28 → (M28.1 175 9).toInt = 0 → li_T l Z YX12_debate d 107 [(5, .int x23), (4, .int x17), (0, .ref (Z.2.2 175)), (1, .int p1), (2, .int p2), (3, .int p3)] [.int x27, .ref (Z.2.2 175)] M28 (fun r M' => (∃ x : Int32, r = some (.int x)) ∧ li_fs (fun i k => i = 181 ∨ i = 192 ∨ (i = 175 ∧ k = 10) ∨ (i = 175 ∧ k = 35) ∨ (i = 175 ∧ k = 9)) M0 M' ∧ li_J M') := by
                  intro x27 M28 hf hJ hi
                  have gx27 := tl_rg x27
                  have rM28_9 := J_sl9 (M := M28) hJ
                  refine li_callV (n := 1) (As := [.int x27]) dX12_debate_107 (k_X12_tell (d - 1) (by omega) x27 M28 hJ (by omega)) (by omega) (Nat.le_of_ble_eq_true rfl) w_1783 w_1785 w_77 w_112 w_1786 (by decide +kernel) rfl (by decide) sh_175 rfl rfl (Nat.le_of_ble_eq_true rfl) (fun r M30 h31 => ?_)
                  obtain ⟨rfl, h31, jM30, nM30⟩ := h31
                  have hf := li_fs_trans hf h31 (fun i k => fun h => Or.elim h (fun h => Or.inl h) (fun h => Or.inr (Or.inr (Or.inr (Or.inr h)))))
                  have hJ := jM30
                  have rM30_9 := J_sl9 (M := M30) hJ
                  refine li_iload 0 dX12_debate_110 rfl ?_
                  refine li_if_eq 119 dX12_debate_112 (by decide) (fun c32 => ?_) (fun c32 => ?_)
                  · have tc32 : x23.toInt = 0 := tl_eq c32
                    refine li_iconst 0 dX12_debate_119 (by decide) ?_
                    have z0 : (0 : Int32).toInt = 0 := rfl
                    exact li_iret dX12_debate_120 rfl rfl ⟨⟨_, rfl⟩, hf, hJ⟩
                  · have tc32 : ¬ x23.toInt = 0 := tl_ne c32
                    refine li_iconst 1 dX12_debate_115 (by decide) ?_
                    refine li_goto 120 dX12_debate_116 (by decide) ?_
                    have z1 : (1 : Int32).toInt = 1 := rfl
                    exact li_iret dX12_debate_120 rfl rfl ⟨⟨_, rfl⟩, hf, hJ⟩
                refine li_if_eq 106 dX12_debate_98 (by decide) (fun c26 => ?_) (fun c26 => ?_)
                · have tc26 : x23.toInt = 0 := tl_eq c26
                  refine li_iconst 0 dX12_debate_106 (by decide) ?_
                  refine li_pick [0, 1, 2, 3, 4, 5] [(5, .int x23), (4, .int x17), (0, .ref (Z.2.2 175)), (1, .int p1), (2, .int p2), (3, .int p3)] rfl ?_
                  have z0 : (0 : Int32).toInt = 0 := rfl
                  exact J107 0 M25 hf hJ (by omega)
                · have tc26 : ¬ x23.toInt = 0 := tl_ne c26
                  refine li_iload 1 dX12_debate_101 rfl ?_
                  refine li_goto 107 dX12_debate_103 (by decide) ?_
                  refine li_pick [0, 1, 2, 3, 4, 5] [(5, .int x23), (4, .int x17), (0, .ref (Z.2.2 175)), (1, .int p1), (2, .int p2), (3, .int p3)] rfl ?_
                  exact J107 x17 M25 hf hJ (by omega)
              refine li_icmp_gt 87 dX12_debate_80 (by decide) (fun c22 => ?_) (fun c22 => ?_)
              · have tc22 : x21.toInt < x17.toInt := tl_lt c22
                refine li_iconst 0 dX12_debate_87 (by decide) ?_
                refine li_pick [0, 1, 2, 3, 4] [(4, .int x17), (0, .ref (Z.2.2 175)), (1, .int p1), (2, .int p2), (3, .int p3)] rfl ?_
                have z0 : (0 : Int32).toInt = 0 := rfl
                exact J88 0 M18 hf hJ
              · have tc22 : x17.toInt ≤ x21.toInt := tl_nlt c22
                refine li_iconst 1 dX12_debate_83 (by decide) ?_
                refine li_goto 88 dX12_debate_84 (by decide) ?_
                refine li_pick [0, 1, 2, 3, 4] [(4, .int x17), (0, .ref (Z.2.2 175)), (1, .int p1), (2, .int p2), (3, .int p3)] rfl ?_
                have z1 : (1 : Int32).toInt = 1 := rfl
                exact J88 1 M18 hf hJ
            · have tc20 : x17.toInt ≤ x19.toInt := tl_nlt c20
              refine li_aload_n 1 dX12_debate_49 rfl ?_
              refine li_getr (k := 34) (N := 52) (T := TX12) (C0 := RX12) dX12_debate_50 (by decide) sh_175 rfl rfl (by decide) (by decide) li_in12 w_1438 ?_
              refine li_iload_n 3 dX12_debate_53 rfl ?_
              refine li_iload_n 2 dX12_debate_54 rfl ?_
              refine li_iload 0 dX12_debate_55 rfl ?_
              refine li_isub dX12_debate_57 ?_
              refine li_top (fun x33 ex33 => ?_)
              try (have tx33 : x33.toInt = (p1 : Int32).toInt - (x17 : Int32).toInt := tl_sub ex33 (by omega))
              refine li_iload 0 dX12_debate_58 rfl ?_
              refine li_callS (n := 3) (As := [.int p2, .int x33, .int x17]) dX12_debate_60 (k_X12_place (d - 1) (by omega) p2 x33 x17 M18 hJ (by omega) (by omega) (by omega)) (by omega) (Nat.le_of_ble_eq_true rfl) w_1891 w_1892 w_112 w_1893 (by decide +kernel) rfl rfl (Nat.le_of_ble_eq_true rfl) (fun r M35 h36 => ?_)
              obtain ⟨⟨x34, rfl, qx34⟩, h36, jM35⟩ := h36
              have gx34 := tl_rg x34
              have hf := li_fs_trans hf h36 (fun i k h => False.elim h)
              have hJ := jM35
              have rM35_9 := J_sl9 (M := M35) hJ
              have mM35_9 : (M35.1 175 9).toInt = (M18.1 175 9).toInt := tl_slot (h36.1 175 9 id)
              refine li_zald dX12_debate_63 (by decide) sh_192 (tl_in (by omega)) ?_
              refine li_top (fun x37 ex37 => ?_)
              have gx37 := tl_rg x37
              refine li_if_eq 73 dX12_debate_64 (by decide) (fun c38 => ?_) (fun c38 => ?_)
              · have tc38 : x37.toInt = 0 := tl_eq c38
                refine li_iload 0 dX12_debate_73 rfl ?_
                refine li_iload_n 4 dX12_debate_75 rfl ?_
                refine li_iload_n 2 dX12_debate_76 rfl ?_
                refine li_mmin dX12_debate_77 (by omega) w_1701 w_726 w_113 w_727 (Nat.le_of_ble_eq_true rfl) ?_
                refine li_top (fun x39 ex39 => ?_)
                have tx39 := tl_min2 ex39
                have J88 : ∀ (x41 : Int32) (M42 : li_M), li_fs (fun i k => i = 181 ∨ i = 192 ∨ (i = 175 ∧ k = 10) ∨ (i = 175 ∧ k = 35) ∨ (i = 175 ∧ k = 9)) M0 M42 → li_J M42 → li_T l Z YX12_debate d 88 [(4, .int x17), (0, .ref (Z.2.2 175)), (1, .int p1), (2, .int p2), (3, .int p3)] [.int x41] M42 (fun r M' => (∃ x : Int32, r = some (.int x)) ∧ li_fs (fun i k => i = 181 ∨ i = 192 ∨ (i = 175 ∧ k = 10) ∨ (i = 175 ∧ k = 35) ∨ (i = 175 ∧ k = 9)) M0 M' ∧ li_J M') := by
                  intro x41 M42 hf hJ
                  have gx41 := tl_rg x41
                  have rM42_9 := J_sl9 (M := M42) hJ
                  refine li_istore [(5, .int x41), (4, .int x17), (0, .ref (Z.2.2 175)), (1, .int p1), (2, .int p2), (3, .int p3)] dX12_debate_88 (by decide) rfl ?_
                  refine li_aload_n 2 dX12_debate_90 rfl ?_
                  refine li_iconst 0 dX12_debate_91 (by decide) ?_
                  refine li_puti (k := 9) (N := 52) (T := TX12) (C0 := RX12) dX12_debate_92 (by decide) sh_175 rfl rfl (by decide) li_in12 tyX12_ok nmX12 rfl rfl rfl rfl w_1413 ?_
                  refine li_nm (fun M43 eM43 => ?_)
                  have hf := li_fs_ui hf (Or.inr (Or.inr (Or.inr (Or.inr (⟨rfl, rfl⟩))))) eM43
                  have z0 : (0 : Int32).toInt = 0 := rfl
                  have hJ := J_pt9 hJ (show 0 ≤ (0 : Int32).toInt ∧ (0 : Int32).toInt ≤ 20 by omega) eM43
                  have rM43_9 := J_sl9 (M := M43) hJ
                  have mM43_9 : (M43.1 175 9).toInt = 0 := by rw [eM43, li_ui_at, if_pos rfl, if_pos rfl]; rfl
                  refine li_aload_n 2 dX12_debate_95 rfl ?_
                  refine li_iload 0 dX12_debate_96 rfl ?_
                  have J107 : ∀ (x45 : Int32) (M46 : li_M), li_fs (fun i k => i = 181 ∨ i = 192 ∨ (i = 175 ∧ k = 10) ∨ (i = 175 ∧ k = 35) ∨ (i = 175 ∧ k = 9)) M0 M46 → li_J M46 → (M46.1 175 9).toInt = 0 → li_T l Z YX12_debate d 107 [(5, .int x41), (4, .int x17), (0, .ref (Z.2.2 175)), (1, .int p1), (2, .int p2), (3, .int p3)] [.int x45, .ref (Z.2.2 175)] M46 (fun r M' => (∃ x : Int32, r = some (.int x)) ∧ li_fs (fun i k => i = 181 ∨ i = 192 ∨ (i = 175 ∧ k = 10) ∨ (i = 175 ∧ k = 35) ∨ (i = 175 ∧ k = 9)) M0 M' ∧ li_J M') := by
                    intro x45 M46 hf hJ hi
                    have gx45 := tl_rg x45
                    have rM46_9 := J_sl9 (M := M46) hJ
                    refine li_callV (n := 1) (As := [.int x45]) dX12_debate_107 (k_X12_tell (d - 1) (by omega) x45 M46 hJ (by omega)) (by omega) (Nat.le_of_ble_eq_true rfl) w_1783 w_1785 w_77 w_112 w_1786 (by decide +kernel) rfl (by decide) sh_175 rfl rfl (Nat.le_of_ble_eq_true rfl) (fun r M48 h49 => ?_)
                    obtain ⟨rfl, h49, jM48, nM48⟩ := h49
                    have hf := li_fs_trans hf h49 (fun i k => fun h => Or.elim h (fun h => Or.inl h) (fun h => Or.inr (Or.inr (Or.inr (Or.inr h)))))
                    have hJ := jM48
                    have rM48_9 := J_sl9 (M := M48) hJ
                    refine li_iload 0 dX12_debate_110 rfl ?_
                    refine li_if_eq 119 dX12_debate_112 (by decide) (fun c50 => ?_) (fun c50 => ?_)
                    · have tc50 : x41.toInt = 0 := tl_eq c50
                      refine li_iconst 0 dX12_debate_119 (by decide) ?_
                      have z0 : (0 : Int32).toInt = 0 := rfl
                      exact li_iret dX12_debate_120 rfl rfl ⟨⟨_, rfl⟩, hf, hJ⟩
                    · have tc50 : ¬ x41.toInt = 0 := tl_ne c50
                      refine li_iconst 1 dX12_debate_115 (by decide) ?_
                      refine li_goto 120 dX12_debate_116 (by decide) ?_
                      have z1 : (1 : Int32).toInt = 1 := rfl
                      exact li_iret dX12_debate_120 rfl rfl ⟨⟨_, rfl⟩, hf, hJ⟩
                  refine li_if_eq 106 dX12_debate_98 (by decide) (fun c44 => ?_) (fun c44 => ?_)
                  · have tc44 : x41.toInt = 0 := tl_eq c44
                    refine li_iconst 0 dX12_debate_106 (by decide) ?_
                    refine li_pick [0, 1, 2, 3, 4, 5] [(5, .int x41), (4, .int x17), (0, .ref (Z.2.2 175)), (1, .int p1), (2, .int p2), (3, .int p3)] rfl ?_
                    have z0 : (0 : Int32).toInt = 0 := rfl
                    exact J107 0 M43 hf hJ (by omega)
                  · have tc44 : ¬ x41.toInt = 0 := tl_ne c44
                    refine li_iload 1 dX12_debate_101 rfl ?_
                    refine li_goto 107 dX12_debate_103 (by decide) ?_
                    refine li_pick [0, 1, 2, 3, 4, 5] [(5, .int x41), (4, .int x17), (0, .ref (Z.2.2 175)), (1, .int p1), (2, .int p2), (3, .int p3)] rfl ?_
                    exact J107 x17 M43 hf hJ (by omega)
                refine li_icmp_gt 87 dX12_debate_80 (by decide) (fun c40 => ?_) (fun c40 => ?_)
                · have tc40 : x39.toInt < x17.toInt := tl_lt c40
                  refine li_iconst 0 dX12_debate_87 (by decide) ?_
                  refine li_pick [0, 1, 2, 3, 4] [(4, .int x17), (0, .ref (Z.2.2 175)), (1, .int p1), (2, .int p2), (3, .int p3)] rfl ?_
                  have z0 : (0 : Int32).toInt = 0 := rfl
                  exact J88 0 M35 hf hJ
                · have tc40 : x17.toInt ≤ x39.toInt := tl_nlt c40
                  refine li_iconst 1 dX12_debate_83 (by decide) ?_
                  refine li_goto 88 dX12_debate_84 (by decide) ?_
                  refine li_pick [0, 1, 2, 3, 4] [(4, .int x17), (0, .ref (Z.2.2 175)), (1, .int p1), (2, .int p2), (3, .int p3)] rfl ?_
                  have z1 : (1 : Int32).toInt = 1 := rfl
                  exact J88 1 M35 hf hJ
              · have tc38 : ¬ x37.toInt = 0 := tl_ne c38
                obtain ⟨x51, ex51⟩ : ∃ y : Int32, y = x17 + 1 := ⟨_, rfl⟩
                have z1 : (1 : Int32).toInt = 1 := rfl
                try (have tx51 : x51.toInt = (x17 : Int32).toInt + (1 : Int32).toInt := tl_add ex51 (by omega))
                refine li_iinc 0 [(4, .int x51), (0, .ref (Z.2.2 175)), (1, .int p1), (2, .int p2), (3, .int p3)] x51 dX12_debate_67 rfl (by rw [ex51]; rfl) (by decide) rfl ?_
                refine li_goto 39 dX12_debate_70 (by decide) ?_
                refine li_pick [0, 1, 2, 3, 4] [(4, .int x51), (0, .ref (Z.2.2 175)), (1, .int p1), (2, .int p2), (3, .int p3)] rfl ?_
                exact ih39 x51 M35 (by omega) hf hJ (by omega)
        have z1 : (1 : Int32).toInt = 1 := rfl
        exact L39 _ 1 M15 (Nat.lt_succ_self _) hf hJ (by omega)
      · skip
        refine li_if_ne 31 dX12_debate_26 (by decide) (fun c => absurd rfl c) (fun c => ?_)
        refine li_iconst (-1) dX12_debate_29 (by decide) ?_
        have zm1 : ((-1) : Int32).toInt = -1 := rfl
        exact li_iret dX12_debate_30 rfl rfl ⟨⟨_, rfl⟩, hf, hJ⟩
    · skip
      refine li_if_eq 29 dX12_debate_16 (by decide) (fun c => ?_) (fun c => absurd rfl c)
      refine li_iconst (-1) dX12_debate_29 (by decide) ?_
      have zm1 : ((-1) : Int32).toInt = -1 := rfl
      exact li_iret dX12_debate_30 rfl rfl ⟨⟨_, rfl⟩, hf, hJ⟩
  · skip
    refine li_if_eq 29 dX12_debate_9 (by decide) (fun c => ?_) (fun c => absurd rfl c)
    refine li_iconst (-1) dX12_debate_29 (by decide) ?_
    have zm1 : ((-1) : Int32).toInt = -1 := rfl
    exact li_iret dX12_debate_30 rfl rfl ⟨⟨_, rfl⟩, hf, hJ⟩
set_option maxRecDepth 100000 in
set_option maxHeartbeats 4000000 in
theorem k_X12_enough {l : Launch} {Z : li_Z} (d : Nat) (hd : 3 ≤ d) (p1 p2 : Int32) (M0 : li_M) (hJ : li_J M0) : li_Met l Z YX12_enough d [.ref (Z.2.2 175), .int p1, .int p2] M0 (fun r M' => (∃ x : Int32, r = some (.int x)) ∧ li_fs (fun i k => i = 192 ∨ (i = 175 ∧ k = 10) ∨ (i = 175 ∧ k = 35)) M0 M' ∧ li_J M') := by
  refine li_enter (by decide +kernel) (Nat.le_of_ble_eq_true rfl) ?_
  show li_T l Z YX12_enough d 0 [(0, .ref (Z.2.2 175)), (1, .int p1), (2, .int p2)] [] M0 _
  have hf : li_fs (fun i k => i = 192 ∨ (i = 175 ∧ k = 10) ∨ (i = 175 ∧ k = 35)) M0 M0 := li_fs_refl
  have gp1 := tl_rg p1
  have gp2 := tl_rg p2
  refine li_aload_n 0 dX12_enough_0 rfl ?_
  refine li_iconst 0 dX12_enough_1 (by decide) ?_
  refine li_puti (k := 10) (N := 52) (T := TX12) (C0 := RX12) dX12_enough_2 (by decide) sh_175 rfl rfl (by decide) li_in12 tyX12_ok nmX12 rfl rfl rfl rfl w_1414 ?_
  refine li_nm (fun M1 eM1 => ?_)
  have hf := li_fs_ui hf (Or.inr (Or.inl ⟨rfl, rfl⟩)) eM1
  have z0 : (0 : Int32).toInt = 0 := rfl
  have hJ := hJ.put (k := 10) (by decide) (rg_free rfl) eM1
  refine li_iload_n 1 dX12_enough_5 rfl ?_
  refine li_callS (n := 1) (As := [.int p1]) dX12_enough_6 (k_X12_isLeft (d - 1) (by omega) p1 M1 hJ ) (by omega) (Nat.le_of_ble_eq_true rfl) w_1884 w_1885 w_112 w_1886 (by decide +kernel) rfl rfl (Nat.le_of_ble_eq_true rfl) (fun r M3 h4 => ?_)
  obtain ⟨qx2, h4, jM3⟩ := h4
  have hf := li_fs_trans hf h4 (fun i k h => False.elim h)
  have hJ := jM3
  rcases qx2 with ⟨rfl, qx2⟩ | ⟨rfl, qx2⟩
  · skip
    refine li_if_eq 22 dX12_enough_9 (by decide) (fun c => absurd c (by decide)) (fun c => ?_)
    refine li_iload_n 2 dX12_enough_12 rfl ?_
    refine li_iconst 1 dX12_enough_13 (by decide) ?_
    refine li_bipush 9 dX12_enough_14 (by decide) ?_
    have z1 : (1 : Int32).toInt = 1 := rfl
    have z9 : (9 : Int32).toInt = 9 := rfl
    refine li_callS (n := 3) (As := [.int p2, .int 1, .int 9]) dX12_enough_16 (k_X12_in (d - 1) (by omega) p2 1 9 M3 hJ ) (by omega) (Nat.le_of_ble_eq_true rfl) w_1570 w_1571 w_112 w_1572 (by decide +kernel) rfl rfl (Nat.le_of_ble_eq_true rfl) (fun r M7 h8 => ?_)
    obtain ⟨qx6, h8, jM7⟩ := h8
    have hf := li_fs_trans hf h8 (fun i k h => False.elim h)
    have hJ := jM7
    rcases qx6 with ⟨rfl, qx6⟩ | ⟨rfl, qx6⟩
    · skip
      refine li_if_ne 24 dX12_enough_19 (by decide) (fun c => ?_) (fun c => absurd c (by decide))
      refine li_aload_n 0 dX12_enough_24 rfl ?_
      refine li_iload_n 2 dX12_enough_25 rfl ?_
      refine li_callV (n := 1) (As := [.int p2]) dX12_enough_26 (k_X12_layWins (d - 1) (by omega) p2 M7 hJ (by omega)) (by omega) (Nat.le_of_ble_eq_true rfl) w_1887 w_1889 w_92 w_112 w_1890 (by decide +kernel) rfl (by decide) sh_175 rfl rfl (Nat.le_of_ble_eq_true rfl) (fun r M11 h12 => ?_)
      obtain ⟨rfl, h12, jM11⟩ := h12
      have hf := li_fs_trans hf h12 (fun i k => fun h => Or.elim h (fun h => Or.inl h) (fun h => Or.inr (Or.inr h)))
      have hJ := jM11
      refine li_iconst 0 dX12_enough_29 (by decide) ?_
      refine li_istore_n [(3, .int 0), (0, .ref (Z.2.2 175)), (1, .int p1), (2, .int p2)] dX12_enough_30 (by decide) rfl ?_
      have L31 : ∀ (n : Nat) (x13 : Int32) (M14 : li_M), (61 - (x13 : Int32).toInt).toNat < n → li_fs (fun i k => i = 192 ∨ (i = 175 ∧ k = 10) ∨ (i = 175 ∧ k = 35)) M0 M14 → li_J M14 → 0 ≤ (x13 : Int32).toInt → li_T l Z YX12_enough d 31 [(3, .int x13), (0, .ref (Z.2.2 175)), (1, .int p1), (2, .int p2)] [] M14 (fun r M' => (∃ x : Int32, r = some (.int x)) ∧ li_fs (fun i k => i = 192 ∨ (i = 175 ∧ k = 10) ∨ (i = 175 ∧ k = 35)) M0 M' ∧ li_J M') := by
        intro n
        induction n with
        | zero => intro x13 M14 hn; exact absurd hn (Nat.not_lt_zero _)
        | succ n ih31 =>
          intro x13 M14 hn hf hJ hi
          have gx13 := tl_rg x13
          refine li_iload_n 0 dX12_enough_31 rfl ?_
          refine li_bipush 61 dX12_enough_32 (by decide) ?_
          refine li_icmp_ge 59 dX12_enough_34 (by decide) (fun c15 => ?_) (fun c15 => ?_)
          · have tc15 : 61 ≤ x13.toInt := tl_le c15
            refine li_bipush (-2) dX12_enough_59 (by decide) ?_
            have zm2 : ((-2) : Int32).toInt = -2 := rfl
            exact li_iret dX12_enough_61 rfl rfl ⟨⟨_, rfl⟩, hf, hJ⟩
          · have tc15 : x13.toInt < 61 := tl_nle c15
            refine li_aload_n 1 dX12_enough_37 rfl ?_
            refine li_getr (k := 34) (N := 52) (T := TX12) (C0 := RX12) dX12_enough_38 (by decide) sh_175 rfl rfl (by decide) (by decide) li_in12 w_1438 ?_
            refine li_iload_n 0 dX12_enough_41 rfl ?_
            refine li_iload_n 2 dX12_enough_42 rfl ?_
            refine li_iconst 1 dX12_enough_43 (by decide) ?_
            have z1 : (1 : Int32).toInt = 1 := rfl
            refine li_callS (n := 3) (As := [.int x13, .int p1, .int 1]) dX12_enough_44 (k_X12_place (d - 1) (by omega) x13 p1 1 M14 hJ (by omega) (by omega) (by omega)) (by omega) (Nat.le_of_ble_eq_true rfl) w_1891 w_1892 w_112 w_1893 (by decide +kernel) rfl rfl (Nat.le_of_ble_eq_true rfl) (fun r M17 h18 => ?_)
            obtain ⟨⟨x16, rfl, qx16⟩, h18, jM17⟩ := h18
            have gx16 := tl_rg x16
            have hf := li_fs_trans hf h18 (fun i k h => False.elim h)
            have hJ := jM17
            refine li_zald dX12_enough_47 (by decide) sh_192 (tl_in (by omega)) ?_
            refine li_top (fun x19 ex19 => ?_)
            have gx19 := tl_rg x19
            refine li_if_eq 53 dX12_enough_48 (by decide) (fun c20 => ?_) (fun c20 => ?_)
            · have tc20 : x19.toInt = 0 := tl_eq c20
              obtain ⟨x21, ex21⟩ : ∃ y : Int32, y = x13 + 1 := ⟨_, rfl⟩
              have z1 : (1 : Int32).toInt = 1 := rfl
              try (have tx21 : x21.toInt = (x13 : Int32).toInt + (1 : Int32).toInt := tl_add ex21 (by omega))
              refine li_iinc 0 [(3, .int x21), (0, .ref (Z.2.2 175)), (1, .int p1), (2, .int p2)] x21 dX12_enough_53 rfl (by rw [ex21]; rfl) (by decide) rfl ?_
              refine li_goto 31 dX12_enough_56 (by decide) ?_
              refine li_pick [0, 1, 2, 3] [(3, .int x21), (0, .ref (Z.2.2 175)), (1, .int p1), (2, .int p2)] rfl ?_
              exact ih31 x21 M17 (by omega) hf hJ (by omega)
            · have tc20 : ¬ x19.toInt = 0 := tl_ne c20
              refine li_iload_n 0 dX12_enough_51 rfl ?_
              exact li_iret dX12_enough_52 rfl rfl ⟨⟨_, rfl⟩, hf, hJ⟩
      have z0 : (0 : Int32).toInt = 0 := rfl
      exact L31 _ 0 M11 (Nat.lt_succ_self _) hf hJ (by omega)
    · skip
      refine li_if_ne 24 dX12_enough_19 (by decide) (fun c => absurd rfl c) (fun c => ?_)
      refine li_iconst (-1) dX12_enough_22 (by decide) ?_
      have zm1 : ((-1) : Int32).toInt = -1 := rfl
      exact li_iret dX12_enough_23 rfl rfl ⟨⟨_, rfl⟩, hf, hJ⟩
  · skip
    refine li_if_eq 22 dX12_enough_9 (by decide) (fun c => ?_) (fun c => absurd rfl c)
    refine li_iconst (-1) dX12_enough_22 (by decide) ?_
    have zm1 : ((-1) : Int32).toInt = -1 := rfl
    exact li_iret dX12_enough_23 rfl rfl ⟨⟨_, rfl⟩, hf, hJ⟩
set_option maxRecDepth 100000 in
set_option maxHeartbeats 4000000 in
theorem k_X12_joined {l : Launch} {Z : li_Z} (d : Nat) (hd : 2 ≤ d) (p1 p2 : Int32) (M0 : li_M) (hJ : li_J M0) : li_Met l Z YX12_joined d [.ref (Z.2.2 175), .int p1, .int p2] M0 (fun r M' => (∃ x : Int32, r = some (.int x)) ∧ li_fs (fun i k => False) M0 M' ∧ li_J M') := by
  refine li_enter (by decide +kernel) (Nat.le_of_ble_eq_true rfl) ?_
  show li_T l Z YX12_joined d 0 [(0, .ref (Z.2.2 175)), (1, .int p1), (2, .int p2)] [] M0 _
  have hf : li_fs (fun i k => False) M0 M0 := li_fs_refl
  have gp1 := tl_rg p1
  have gp2 := tl_rg p2
  refine li_iconst 0 dX12_joined_0 (by decide) ?_
  refine li_istore_n [(3, .int 0), (0, .ref (Z.2.2 175)), (1, .int p1), (2, .int p2)] dX12_joined_1 (by decide) rfl ?_
  refine li_iconst 0 dX12_joined_2 (by decide) ?_
  refine li_istore [(4, .int 0), (3, .int 0), (0, .ref (Z.2.2 175)), (1, .int p1), (2, .int p2)] dX12_joined_3 (by decide) rfl ?_
  have L5 : ∀ (n : Nat) (x1 : Int32) (x2 : Int32) (M3 : li_M), (10 - (x1 : Int32).toInt).toNat < n → li_fs (fun i k => False) M0 M3 → li_J M3 → 0 ≤ (x1 : Int32).toInt → li_T l Z YX12_joined d 5 [(4, .int x1), (3, .int x2), (0, .ref (Z.2.2 175)), (1, .int p1), (2, .int p2)] [] M3 (fun r M' => (∃ x : Int32, r = some (.int x)) ∧ li_fs (fun i k => False) M0 M' ∧ li_J M') := by
    intro n
    induction n with
    | zero => intro x1 x2 M3 hn; exact absurd hn (Nat.not_lt_zero _)
    | succ n ih5 =>
      intro x1 x2 M3 hn hf hJ hi
      have gx1 := tl_rg x1
      have gx2 := tl_rg x2
      refine li_iload 0 dX12_joined_5 rfl ?_
      refine li_aload_n 2 dX12_joined_7 rfl ?_
      refine li_geti (k := 38) (N := 52) (T := TX12) (C0 := RX12) dX12_joined_8 (by decide) sh_175 rfl rfl (by decide) li_in12 w_1442 ?_
      refine li_top (fun x4 ex4 => ?_)
      have gx4 : 0 ≤ x4.toInt ∧ x4.toInt ≤ 10 := by rw [ex4]; exact J_sl38 hJ
      have sx4 : x4.toInt = (M0.1 175 38).toInt := tl_slot (ex4.trans (hf.1 175 38 id))
      refine li_icmp_ge 74 dX12_joined_11 (by decide) (fun c5 => ?_) (fun c5 => ?_)
      · have tc5 : x4.toInt ≤ x1.toInt := tl_le c5
        refine li_iload_n 1 dX12_joined_74 rfl ?_
        exact li_iret dX12_joined_75 rfl rfl ⟨⟨_, rfl⟩, hf, hJ⟩
      · have tc5 : x1.toInt < x4.toInt := tl_nle c5
        refine li_iload_n 1 dX12_joined_14 rfl ?_
        refine li_iload_n 3 dX12_joined_15 rfl ?_
        refine li_aload_n 2 dX12_joined_16 rfl ?_
        refine li_getr (k := 36) (N := 52) (T := TX12) (C0 := RX12) dX12_joined_17 (by decide) sh_175 rfl rfl (by decide) (by decide) li_in12 w_1440 ?_
        refine li_iconst 3 dX12_joined_20 (by decide) ?_
        refine li_iload 0 dX12_joined_21 rfl ?_
        refine li_imul dX12_joined_23 ?_
        refine li_top (fun x6 ex6 => ?_)
        have z3 : (3 : Int32).toInt = 3 := rfl
        try (have tx6 : x6.toInt = 3 * (x1 : Int32).toInt := tl_mul ex6 (show -2147483648 ≤ 3 * (x1 : Int32).toInt ∧ 3 * (x1 : Int32).toInt ≤ 2147483647 by omega))
        refine li_iald dX12_joined_24 (by decide) sh_193 (tl_in (by omega)) ?_
        refine li_top (fun x7 ex7 => ?_)
        have gx7 := tl_rg x7
        refine li_callS (n := 2) (As := [.int p1, .int x7]) dX12_joined_25 (k_X12_has (d - 1) (by omega) p1 x7 M3 hJ ) (by omega) (Nat.le_of_ble_eq_true rfl) w_1734 w_1735 w_112 w_1736 (by decide +kernel) rfl rfl (Nat.le_of_ble_eq_true rfl) (fun r M9 h10 => ?_)
        obtain ⟨qx8, h10, jM9⟩ := h10
        have hf := li_fs_trans hf h10 (fun i k h => False.elim h)
        have hJ := jM9
        rcases qx8 with ⟨rfl, qx8⟩ | ⟨rfl, qx8⟩
        · skip
          refine li_if_eq 65 dX12_joined_28 (by decide) (fun c => absurd c (by decide)) (fun c => ?_)
          refine li_iload_n 4 dX12_joined_31 rfl ?_
          refine li_aload_n 2 dX12_joined_32 rfl ?_
          refine li_getr (k := 36) (N := 52) (T := TX12) (C0 := RX12) dX12_joined_33 (by decide) sh_175 rfl rfl (by decide) (by decide) li_in12 w_1440 ?_
          refine li_iconst 3 dX12_joined_36 (by decide) ?_
          refine li_iload 0 dX12_joined_37 rfl ?_
          refine li_imul dX12_joined_39 ?_
          refine li_top (fun x12 ex12 => ?_)
          have z3 : (3 : Int32).toInt = 3 := rfl
          try (have tx12 : x12.toInt = 3 * (x1 : Int32).toInt := tl_mul ex12 (show -2147483648 ≤ 3 * (x1 : Int32).toInt ∧ 3 * (x1 : Int32).toInt ≤ 2147483647 by omega))
          refine li_iconst 1 dX12_joined_40 (by decide) ?_
          refine li_iadd dX12_joined_41 ?_
          refine li_top (fun x13 ex13 => ?_)
          have z1 : (1 : Int32).toInt = 1 := rfl
          try (have tx13 : x13.toInt = (x12 : Int32).toInt + (1 : Int32).toInt := tl_add ex13 (by omega))
          refine li_iald dX12_joined_42 (by decide) sh_193 (tl_in (by omega)) ?_
          refine li_top (fun x14 ex14 => ?_)
          have gx14 := tl_rg x14
          refine li_callS (n := 2) (As := [.int p2, .int x14]) dX12_joined_43 (k_X12_has (d - 1) (by omega) p2 x14 M9 hJ ) (by omega) (Nat.le_of_ble_eq_true rfl) w_1734 w_1735 w_112 w_1736 (by decide +kernel) rfl rfl (Nat.le_of_ble_eq_true rfl) (fun r M16 h17 => ?_)
          obtain ⟨qx15, h17, jM16⟩ := h17
          have hf := li_fs_trans hf h17 (fun i k h => False.elim h)
          have hJ := jM16
          rcases qx15 with ⟨rfl, qx15⟩ | ⟨rfl, qx15⟩
          · skip
            refine li_if_eq 65 dX12_joined_46 (by decide) (fun c => absurd c (by decide)) (fun c => ?_)
            refine li_iconst 1 dX12_joined_49 (by decide) ?_
            refine li_aload_n 2 dX12_joined_50 rfl ?_
            refine li_getr (k := 36) (N := 52) (T := TX12) (C0 := RX12) dX12_joined_51 (by decide) sh_175 rfl rfl (by decide) (by decide) li_in12 w_1440 ?_
            refine li_iconst 3 dX12_joined_54 (by decide) ?_
            refine li_iload 0 dX12_joined_55 rfl ?_
            refine li_imul dX12_joined_57 ?_
            refine li_top (fun x19 ex19 => ?_)
            have z3 : (3 : Int32).toInt = 3 := rfl
            try (have tx19 : x19.toInt = 3 * (x1 : Int32).toInt := tl_mul ex19 (show -2147483648 ≤ 3 * (x1 : Int32).toInt ∧ 3 * (x1 : Int32).toInt ≤ 2147483647 by omega))
            refine li_iconst 2 dX12_joined_58 (by decide) ?_
            refine li_iadd dX12_joined_59 ?_
            refine li_top (fun x20 ex20 => ?_)
            have z2 : (2 : Int32).toInt = 2 := rfl
            try (have tx20 : x20.toInt = (x19 : Int32).toInt + (2 : Int32).toInt := tl_add ex20 (by omega))
            refine li_iald dX12_joined_60 (by decide) sh_193 (tl_in (by omega)) ?_
            refine li_top (fun x21 ex21 => ?_)
            have gx21 := tl_rg x21
            refine li_ishl dX12_joined_61 ?_
            refine li_top (fun x22 ex22 => ?_)
            have z1 : (1 : Int32).toInt = 1 := rfl
            try (have tx22 := tl_shl255 ex22 (by omega))
            refine li_goto 66 dX12_joined_62 (by decide) ?_
            refine li_ior dX12_joined_66 ?_
            refine li_top (fun x23 ex23 => ?_)
            try (have tx23 := tl_or255 ex23 (by omega) (by omega))
            refine li_istore_n [(3, .int x23), (4, .int x1), (0, .ref (Z.2.2 175)), (1, .int p1), (2, .int p2)] dX12_joined_67 (by decide) rfl ?_
            obtain ⟨x24, ex24⟩ : ∃ y : Int32, y = x1 + 1 := ⟨_, rfl⟩
            have z1 : (1 : Int32).toInt = 1 := rfl
            try (have tx24 : x24.toInt = (x1 : Int32).toInt + (1 : Int32).toInt := tl_add ex24 (by omega))
            refine li_iinc 1 [(4, .int x24), (3, .int x23), (0, .ref (Z.2.2 175)), (1, .int p1), (2, .int p2)] x24 dX12_joined_68 rfl (by rw [ex24]; rfl) (by decide) rfl ?_
            refine li_goto 5 dX12_joined_71 (by decide) ?_
            refine li_pick [0, 1, 2, 3, 4] [(4, .int x24), (3, .int x23), (0, .ref (Z.2.2 175)), (1, .int p1), (2, .int p2)] rfl ?_
            exact ih5 x24 x23 M16 (by omega) hf hJ (by omega)
          · skip
            refine li_if_eq 65 dX12_joined_46 (by decide) (fun c => ?_) (fun c => absurd rfl c)
            refine li_iconst 0 dX12_joined_65 (by decide) ?_
            refine li_ior dX12_joined_66 ?_
            refine li_top (fun x26 ex26 => ?_)
            have z0 : (0 : Int32).toInt = 0 := rfl
            try (have tx26 := tl_or255 ex26 (by omega) (by omega))
            refine li_istore_n [(3, .int x26), (4, .int x1), (0, .ref (Z.2.2 175)), (1, .int p1), (2, .int p2)] dX12_joined_67 (by decide) rfl ?_
            obtain ⟨x27, ex27⟩ : ∃ y : Int32, y = x1 + 1 := ⟨_, rfl⟩
            have z1 : (1 : Int32).toInt = 1 := rfl
            try (have tx27 : x27.toInt = (x1 : Int32).toInt + (1 : Int32).toInt := tl_add ex27 (by omega))
            refine li_iinc 1 [(4, .int x27), (3, .int x26), (0, .ref (Z.2.2 175)), (1, .int p1), (2, .int p2)] x27 dX12_joined_68 rfl (by rw [ex27]; rfl) (by decide) rfl ?_
            refine li_goto 5 dX12_joined_71 (by decide) ?_
            refine li_pick [0, 1, 2, 3, 4] [(4, .int x27), (3, .int x26), (0, .ref (Z.2.2 175)), (1, .int p1), (2, .int p2)] rfl ?_
            exact ih5 x27 x26 M16 (by omega) hf hJ (by omega)
        · skip
          refine li_if_eq 65 dX12_joined_28 (by decide) (fun c => ?_) (fun c => absurd rfl c)
          refine li_iconst 0 dX12_joined_65 (by decide) ?_
          refine li_ior dX12_joined_66 ?_
          refine li_top (fun x29 ex29 => ?_)
          have z0 : (0 : Int32).toInt = 0 := rfl
          try (have tx29 := tl_or255 ex29 (by omega) (by omega))
          refine li_istore_n [(3, .int x29), (4, .int x1), (0, .ref (Z.2.2 175)), (1, .int p1), (2, .int p2)] dX12_joined_67 (by decide) rfl ?_
          obtain ⟨x30, ex30⟩ : ∃ y : Int32, y = x1 + 1 := ⟨_, rfl⟩
          have z1 : (1 : Int32).toInt = 1 := rfl
          try (have tx30 : x30.toInt = (x1 : Int32).toInt + (1 : Int32).toInt := tl_add ex30 (by omega))
          refine li_iinc 1 [(4, .int x30), (3, .int x29), (0, .ref (Z.2.2 175)), (1, .int p1), (2, .int p2)] x30 dX12_joined_68 rfl (by rw [ex30]; rfl) (by decide) rfl ?_
          refine li_goto 5 dX12_joined_71 (by decide) ?_
          refine li_pick [0, 1, 2, 3, 4] [(4, .int x30), (3, .int x29), (0, .ref (Z.2.2 175)), (1, .int p1), (2, .int p2)] rfl ?_
          exact ih5 x30 x29 M9 (by omega) hf hJ (by omega)
  have z0 : (0 : Int32).toInt = 0 := rfl
  have z0 : (0 : Int32).toInt = 0 := rfl
  exact L5 _ 0 0 M0 (Nat.lt_succ_self _) hf hJ (by omega)
