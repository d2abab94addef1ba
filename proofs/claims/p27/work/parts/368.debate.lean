theorem w_92 : (Jvm.Cond.selects "ClockForTalkModel" ({ cls := "ClockForTalkModel", name := "layWins", desc := "(I)V" } : Jvm.MethodName) ({ cls := "ClockForTalkModel", name := "layWins", desc := "(I)V" } : Jvm.MethodName)) ∈ li_ws := li_mem 92 (by decide +kernel) (by decide +kernel)
theorem w_1438 : (Jvm.Cond.fieldLink "ClockForTalkModel" (60 : Nat) "ClockForTalkModel" "wins" "[Z") ∈ li_ws := li_mem 1438 (by decide +kernel) (by decide +kernel)
theorem w_1439 : (Jvm.Cond.fieldLink "ClockForTalkModel" (365 : Nat) "ClockForTalkModel" "laidFor" "I") ∈ li_ws := li_mem 1439 (by decide +kernel) (by decide +kernel)
theorem w_1440 : (Jvm.Cond.fieldLink "ClockForTalkModel" (64 : Nat) "ClockForTalkModel" "lines" "[I") ∈ li_ws := li_mem 1440 (by decide +kernel) (by decide +kernel)
theorem w_1441 : (Jvm.Cond.fieldLink "ClockForTalkModel" (67 : Nat) "ClockForTalkModel" "newLines" "[I") ∈ li_ws := li_mem 1441 (by decide +kernel) (by decide +kernel)
theorem w_1442 : (Jvm.Cond.fieldLink "ClockForTalkModel" (377 : Nat) "ClockForTalkModel" "lineMany" "I") ∈ li_ws := li_mem 1442 (by decide +kernel) (by decide +kernel)
theorem w_1446 : (Jvm.Cond.fieldLink "ClockForTalkModel" (76 : Nat) "ClockForTalkModel" "readAt" "[I") ∈ li_ws := li_mem 1446 (by decide +kernel) (by decide +kernel)
theorem w_1447 : (Jvm.Cond.fieldLink "ClockForTalkModel" (392 : Nat) "ClockForTalkModel" "readBits" "I") ∈ li_ws := li_mem 1447 (by decide +kernel) (by decide +kernel)
theorem w_1884 : (Jvm.Cond.methodLink "ClockForTalkModel" (371 : Nat) ({ cls := "ClockForTalkModel", name := "isLeft", desc := "(I)Z" } : Jvm.MethodName)) ∈ li_ws := li_mem 1884 (by decide +kernel) (by decide +kernel)
theorem w_1885 : (Jvm.Cond.static ({ cls := "ClockForTalkModel", name := "isLeft", desc := "(I)Z" } : Jvm.MethodName)) ∈ li_ws := li_mem 1885 (by decide +kernel) (by decide +kernel)
theorem w_1886 : (Jvm.Cond.code ({ cls := "ClockForTalkModel", name := "isLeft", desc := "(I)Z" } : Jvm.MethodName) prog_13_method_85_code (1 : Nat) (Option.some Jvm.ClassFile.FieldType.boolean)) ∈ li_ws := li_mem 1886 (by decide +kernel) (by decide +kernel)
theorem w_1887 : (Jvm.Cond.methodLink "ClockForTalkModel" (374 : Nat) ({ cls := "ClockForTalkModel", name := "layWins", desc := "(I)V" } : Jvm.MethodName)) ∈ li_ws := li_mem 1887 (by decide +kernel) (by decide +kernel)
theorem w_1889 : (Jvm.Cond.instanceMethod ({ cls := "ClockForTalkModel", name := "layWins", desc := "(I)V" } : Jvm.MethodName)) ∈ li_ws := li_mem 1889 (by decide +kernel) (by decide +kernel)
theorem w_1890 : (Jvm.Cond.code ({ cls := "ClockForTalkModel", name := "layWins", desc := "(I)V" } : Jvm.MethodName) prog_13_method_84_code (7 : Nat) (Option.none : Option Jvm.ClassFile.FieldType)) ∈ li_ws := li_mem 1890 (by decide +kernel) (by decide +kernel)
theorem w_1891 : (Jvm.Cond.methodLink "ClockForTalkModel" (368 : Nat) ({ cls := "ClockForTalkModel", name := "place", desc := "(III)I" } : Jvm.MethodName)) ∈ li_ws := li_mem 1891 (by decide +kernel) (by decide +kernel)
theorem w_1892 : (Jvm.Cond.static ({ cls := "ClockForTalkModel", name := "place", desc := "(III)I" } : Jvm.MethodName)) ∈ li_ws := li_mem 1892 (by decide +kernel) (by decide +kernel)
theorem w_1893 : (Jvm.Cond.code ({ cls := "ClockForTalkModel", name := "place", desc := "(III)I" } : Jvm.MethodName) prog_13_method_83_code (3 : Nat) (Option.some Jvm.ClassFile.FieldType.int)) ∈ li_ws := li_mem 1893 (by decide +kernel) (by decide +kernel)
theorem dX12_place_0 : decode cX12_place 0 = .ok (.bipush 61, 2) := by decide +kernel
theorem dX12_place_2 : decode cX12_place 2 = .ok (.iload_n 0, 1) := by decide +kernel
theorem dX12_place_3 : decode cX12_place 3 = .ok (.imul, 1) := by decide +kernel
theorem dX12_place_4 : decode cX12_place 4 = .ok (.iload_n 1, 1) := by decide +kernel
theorem dX12_place_5 : decode cX12_place 5 = .ok (.iadd, 1) := by decide +kernel
theorem dX12_place_6 : decode cX12_place 6 = .ok (.bipush 10, 2) := by decide +kernel
theorem dX12_place_8 : decode cX12_place 8 = .ok (.imul, 1) := by decide +kernel
theorem dX12_place_9 : decode cX12_place 9 = .ok (.iload_n 2, 1) := by decide +kernel
theorem dX12_place_10 : decode cX12_place 10 = .ok (.iadd, 1) := by decide +kernel
theorem dX12_place_11 : decode cX12_place 11 = .ok (.ireturn, 1) := by decide +kernel
abbrev YX12_place : li_Y := (yX12_place, cX12_place, 3, (some .int))
theorem dX12_layWins_0 : decode cX12_layWins 0 = .ok (.aload_n 0, 1) := by decide +kernel
theorem dX12_layWins_1 : decode cX12_layWins 1 = .ok (.getfield 365, 3) := by decide +kernel
theorem dX12_layWins_4 : decode cX12_layWins 4 = .ok (.iload_n 1, 1) := by decide +kernel
theorem dX12_layWins_5 : decode cX12_layWins 5 = .ok (.if_icmp .ne 4, 3) := by decide +kernel
theorem dX12_layWins_8 : decode cX12_layWins 8 = .ok (.return_, 1) := by decide +kernel
theorem dX12_layWins_9 : decode cX12_layWins 9 = .ok (.aload_n 0, 1) := by decide +kernel
theorem dX12_layWins_10 : decode cX12_layWins 10 = .ok (.iload_n 1, 1) := by decide +kernel
theorem dX12_layWins_11 : decode cX12_layWins 11 = .ok (.putfield 365, 3) := by decide +kernel
theorem dX12_layWins_14 : decode cX12_layWins 14 = .ok (.iconst 0, 1) := by decide +kernel
theorem dX12_layWins_15 : decode cX12_layWins 15 = .ok (.istore_n 2, 1) := by decide +kernel
theorem dX12_layWins_16 : decode cX12_layWins 16 = .ok (.iload_n 2, 1) := by decide +kernel
theorem dX12_layWins_17 : decode cX12_layWins 17 = .ok (.bipush 120, 2) := by decide +kernel
theorem dX12_layWins_19 : decode cX12_layWins 19 = .ok (.if_icmp .gt 123, 3) := by decide +kernel
theorem dX12_layWins_22 : decode cX12_layWins 22 = .ok (.iconst 0, 1) := by decide +kernel
theorem dX12_layWins_23 : decode cX12_layWins 23 = .ok (.iload_n 2, 1) := by decide +kernel
theorem dX12_layWins_24 : decode cX12_layWins 24 = .ok (.bipush 61, 2) := by decide +kernel
theorem dX12_layWins_26 : decode cX12_layWins 26 = .ok (.isub, 1) := by decide +kernel
theorem dX12_layWins_27 : decode cX12_layWins 27 = .ok (.iconst 1, 1) := by decide +kernel
theorem dX12_layWins_28 : decode cX12_layWins 28 = .ok (.iadd, 1) := by decide +kernel
theorem dX12_layWins_29 : decode cX12_layWins 29 = .ok (.invokestatic 82, 3) := by decide +kernel
theorem dX12_layWins_32 : decode cX12_layWins 32 = .ok (.istore_n 3, 1) := by decide +kernel
theorem dX12_layWins_33 : decode cX12_layWins 33 = .ok (.iload_n 3, 1) := by decide +kernel
theorem dX12_layWins_34 : decode cX12_layWins 34 = .ok (.iload_n 2, 1) := by decide +kernel
theorem dX12_layWins_35 : decode cX12_layWins 35 = .ok (.bipush 60, 2) := by decide +kernel
theorem dX12_layWins_37 : decode cX12_layWins 37 = .ok (.invokestatic 208, 3) := by decide +kernel
theorem dX12_layWins_40 : decode cX12_layWins 40 = .ok (.if_icmp .gt 96, 3) := by decide +kernel
theorem dX12_layWins_43 : decode cX12_layWins 43 = .ok (.iconst 1, 1) := by decide +kernel
theorem dX12_layWins_44 : decode cX12_layWins 44 = .ok (.istore 4, 2) := by decide +kernel
theorem dX12_layWins_46 : decode cX12_layWins 46 = .ok (.iload 4, 2) := by decide +kernel
theorem dX12_layWins_48 : decode cX12_layWins 48 = .ok (.bipush 9, 2) := by decide +kernel
theorem dX12_layWins_50 : decode cX12_layWins 50 = .ok (.if_icmp .gt 80, 3) := by decide +kernel
theorem dX12_layWins_53 : decode cX12_layWins 53 = .ok (.iconst 0, 1) := by decide +kernel
theorem dX12_layWins_54 : decode cX12_layWins 54 = .ok (.istore 5, 2) := by decide +kernel
theorem dX12_layWins_56 : decode cX12_layWins 56 = .ok (.iload 4, 2) := by decide +kernel
theorem dX12_layWins_58 : decode cX12_layWins 58 = .ok (.istore 6, 2) := by decide +kernel
theorem dX12_layWins_60 : decode cX12_layWins 60 = .ok (.iload 6, 2) := by decide +kernel
theorem dX12_layWins_62 : decode cX12_layWins 62 = .ok (.iload_n 1, 1) := by decide +kernel
theorem dX12_layWins_63 : decode cX12_layWins 63 = .ok (.iload_n 3, 1) := by decide +kernel
theorem dX12_layWins_64 : decode cX12_layWins 64 = .ok (.invokestatic 208, 3) := by decide +kernel
theorem dX12_layWins_67 : decode cX12_layWins 67 = .ok (.if_icmp .gt 41, 3) := by decide +kernel
theorem dX12_layWins_70 : decode cX12_layWins 70 = .ok (.iload 5, 2) := by decide +kernel
theorem dX12_layWins_72 : decode cX12_layWins 72 = .ok (.ifCond .ne 23, 3) := by decide +kernel
theorem dX12_layWins_75 : decode cX12_layWins 75 = .ok (.aload_n 0, 1) := by decide +kernel
theorem dX12_layWins_76 : decode cX12_layWins 76 = .ok (.getfield 60, 3) := by decide +kernel
theorem dX12_layWins_79 : decode cX12_layWins 79 = .ok (.iload_n 2, 1) := by decide +kernel
theorem dX12_layWins_80 : decode cX12_layWins 80 = .ok (.iload_n 3, 1) := by decide +kernel
theorem dX12_layWins_81 : decode cX12_layWins 81 = .ok (.isub, 1) := by decide +kernel
theorem dX12_layWins_82 : decode cX12_layWins 82 = .ok (.iload_n 3, 1) := by decide +kernel
theorem dX12_layWins_83 : decode cX12_layWins 83 = .ok (.iload 6, 2) := by decide +kernel
theorem dX12_layWins_85 : decode cX12_layWins 85 = .ok (.isub, 1) := by decide +kernel
theorem dX12_layWins_86 : decode cX12_layWins 86 = .ok (.iload 6, 2) := by decide +kernel
theorem dX12_layWins_88 : decode cX12_layWins 88 = .ok (.invokestatic 368, 3) := by decide +kernel
theorem dX12_layWins_91 : decode cX12_layWins 91 = .ok (.baload, 1) := by decide +kernel
theorem dX12_layWins_92 : decode cX12_layWins 92 = .ok (.ifCond .ne 7, 3) := by decide +kernel
theorem dX12_layWins_95 : decode cX12_layWins 95 = .ok (.iconst 1, 1) := by decide +kernel
theorem dX12_layWins_96 : decode cX12_layWins 96 = .ok (.goto 4, 3) := by decide +kernel
theorem dX12_layWins_99 : decode cX12_layWins 99 = .ok (.iconst 0, 1) := by decide +kernel
theorem dX12_layWins_100 : decode cX12_layWins 100 = .ok (.istore 5, 2) := by decide +kernel
theorem dX12_layWins_102 : decode cX12_layWins 102 = .ok (.iinc 6 1, 3) := by decide +kernel
theorem dX12_layWins_105 : decode cX12_layWins 105 = .ok (.goto (-45), 3) := by decide +kernel
theorem dX12_layWins_108 : decode cX12_layWins 108 = .ok (.aload_n 0, 1) := by decide +kernel
theorem dX12_layWins_109 : decode cX12_layWins 109 = .ok (.getfield 60, 3) := by decide +kernel
theorem dX12_layWins_112 : decode cX12_layWins 112 = .ok (.iload_n 3, 1) := by decide +kernel
theorem dX12_layWins_113 : decode cX12_layWins 113 = .ok (.iload_n 2, 1) := by decide +kernel
theorem dX12_layWins_114 : decode cX12_layWins 114 = .ok (.iload_n 3, 1) := by decide +kernel
theorem dX12_layWins_115 : decode cX12_layWins 115 = .ok (.isub, 1) := by decide +kernel
theorem dX12_layWins_116 : decode cX12_layWins 116 = .ok (.iload 4, 2) := by decide +kernel
theorem dX12_layWins_118 : decode cX12_layWins 118 = .ok (.invokestatic 368, 3) := by decide +kernel
theorem dX12_layWins_121 : decode cX12_layWins 121 = .ok (.iload 5, 2) := by decide +kernel
theorem dX12_layWins_123 : decode cX12_layWins 123 = .ok (.bastore, 1) := by decide +kernel
theorem dX12_layWins_124 : decode cX12_layWins 124 = .ok (.iinc 4 1, 3) := by decide +kernel
theorem dX12_layWins_127 : decode cX12_layWins 127 = .ok (.goto (-81), 3) := by decide +kernel
theorem dX12_layWins_130 : decode cX12_layWins 130 = .ok (.iinc 3 1, 3) := by decide +kernel
theorem dX12_layWins_133 : decode cX12_layWins 133 = .ok (.goto (-100), 3) := by decide +kernel
theorem dX12_layWins_136 : decode cX12_layWins 136 = .ok (.iinc 2 1, 3) := by decide +kernel
theorem dX12_layWins_139 : decode cX12_layWins 139 = .ok (.goto (-123), 3) := by decide +kernel
theorem dX12_layWins_142 : decode cX12_layWins 142 = .ok (.return_, 1) := by decide +kernel
abbrev YX12_layWins : li_Y := (yX12_layWins, cX12_layWins, 7, none)
theorem dX12_debate_0 : decode cX12_debate 0 = .ok (.aload_n 0, 1) := by decide +kernel
theorem dX12_debate_1 : decode cX12_debate 1 = .ok (.iconst 0, 1) := by decide +kernel
theorem dX12_debate_2 : decode cX12_debate 2 = .ok (.putfield 103, 3) := by decide +kernel
theorem dX12_debate_5 : decode cX12_debate 5 = .ok (.iload_n 1, 1) := by decide +kernel
theorem dX12_debate_6 : decode cX12_debate 6 = .ok (.invokestatic 371, 3) := by decide +kernel
theorem dX12_debate_9 : decode cX12_debate 9 = .ok (.ifCond .eq 20, 3) := by decide +kernel
theorem dX12_debate_12 : decode cX12_debate 12 = .ok (.iload_n 2, 1) := by decide +kernel
theorem dX12_debate_13 : decode cX12_debate 13 = .ok (.invokestatic 371, 3) := by decide +kernel
theorem dX12_debate_16 : decode cX12_debate 16 = .ok (.ifCond .eq 13, 3) := by decide +kernel
theorem dX12_debate_19 : decode cX12_debate 19 = .ok (.iload_n 3, 1) := by decide +kernel
theorem dX12_debate_20 : decode cX12_debate 20 = .ok (.iconst 1, 1) := by decide +kernel
theorem dX12_debate_21 : decode cX12_debate 21 = .ok (.bipush 9, 2) := by decide +kernel
theorem dX12_debate_23 : decode cX12_debate 23 = .ok (.invokestatic 113, 3) := by decide +kernel
theorem dX12_debate_26 : decode cX12_debate 26 = .ok (.ifCond .ne 5, 3) := by decide +kernel
theorem dX12_debate_29 : decode cX12_debate 29 = .ok (.iconst (-1), 1) := by decide +kernel
theorem dX12_debate_30 : decode cX12_debate 30 = .ok (.ireturn, 1) := by decide +kernel
theorem dX12_debate_31 : decode cX12_debate 31 = .ok (.aload_n 0, 1) := by decide +kernel
theorem dX12_debate_32 : decode cX12_debate 32 = .ok (.iload_n 3, 1) := by decide +kernel
theorem dX12_debate_33 : decode cX12_debate 33 = .ok (.invokevirtual 374, 3) := by decide +kernel
theorem dX12_debate_36 : decode cX12_debate 36 = .ok (.iconst 1, 1) := by decide +kernel
theorem dX12_debate_37 : decode cX12_debate 37 = .ok (.istore 4, 2) := by decide +kernel
theorem dX12_debate_39 : decode cX12_debate 39 = .ok (.iload 4, 2) := by decide +kernel
theorem dX12_debate_41 : decode cX12_debate 41 = .ok (.iload_n 3, 1) := by decide +kernel
theorem dX12_debate_42 : decode cX12_debate 42 = .ok (.iload_n 1, 1) := by decide +kernel
theorem dX12_debate_43 : decode cX12_debate 43 = .ok (.invokestatic 208, 3) := by decide +kernel
theorem dX12_debate_46 : decode cX12_debate 46 = .ok (.if_icmp .gt 27, 3) := by decide +kernel
theorem dX12_debate_49 : decode cX12_debate 49 = .ok (.aload_n 0, 1) := by decide +kernel
theorem dX12_debate_50 : decode cX12_debate 50 = .ok (.getfield 60, 3) := by decide +kernel
theorem dX12_debate_53 : decode cX12_debate 53 = .ok (.iload_n 2, 1) := by decide +kernel
theorem dX12_debate_54 : decode cX12_debate 54 = .ok (.iload_n 1, 1) := by decide +kernel
theorem dX12_debate_55 : decode cX12_debate 55 = .ok (.iload 4, 2) := by decide +kernel
theorem dX12_debate_57 : decode cX12_debate 57 = .ok (.isub, 1) := by decide +kernel
theorem dX12_debate_58 : decode cX12_debate 58 = .ok (.iload 4, 2) := by decide +kernel
theorem dX12_debate_60 : decode cX12_debate 60 = .ok (.invokestatic 368, 3) := by decide +kernel
theorem dX12_debate_63 : decode cX12_debate 63 = .ok (.baload, 1) := by decide +kernel
theorem dX12_debate_64 : decode cX12_debate 64 = .ok (.ifCond .eq 9, 3) := by decide +kernel
theorem dX12_debate_67 : decode cX12_debate 67 = .ok (.iinc 4 1, 3) := by decide +kernel
theorem dX12_debate_70 : decode cX12_debate 70 = .ok (.goto (-31), 3) := by decide +kernel
theorem dX12_debate_73 : decode cX12_debate 73 = .ok (.iload 4, 2) := by decide +kernel
theorem dX12_debate_75 : decode cX12_debate 75 = .ok (.iload_n 3, 1) := by decide +kernel
theorem dX12_debate_76 : decode cX12_debate 76 = .ok (.iload_n 1, 1) := by decide +kernel
theorem dX12_debate_77 : decode cX12_debate 77 = .ok (.invokestatic 208, 3) := by decide +kernel
theorem dX12_debate_80 : decode cX12_debate 80 = .ok (.if_icmp .gt 7, 3) := by decide +kernel
theorem dX12_debate_83 : decode cX12_debate 83 = .ok (.iconst 1, 1) := by decide +kernel
theorem dX12_debate_84 : decode cX12_debate 84 = .ok (.goto 4, 3) := by decide +kernel
theorem dX12_debate_87 : decode cX12_debate 87 = .ok (.iconst 0, 1) := by decide +kernel
theorem dX12_debate_88 : decode cX12_debate 88 = .ok (.istore 5, 2) := by decide +kernel
theorem dX12_debate_90 : decode cX12_debate 90 = .ok (.aload_n 0, 1) := by decide +kernel
theorem dX12_debate_91 : decode cX12_debate 91 = .ok (.iconst 0, 1) := by decide +kernel
theorem dX12_debate_92 : decode cX12_debate 92 = .ok (.putfield 107, 3) := by decide +kernel
theorem dX12_debate_95 : decode cX12_debate 95 = .ok (.aload_n 0, 1) := by decide +kernel
theorem dX12_debate_96 : decode cX12_debate 96 = .ok (.iload 5, 2) := by decide +kernel
theorem dX12_debate_98 : decode cX12_debate 98 = .ok (.ifCond .eq 8, 3) := by decide +kernel
theorem dX12_debate_101 : decode cX12_debate 101 = .ok (.iload 4, 2) := by decide +kernel
theorem dX12_debate_103 : decode cX12_debate 103 = .ok (.goto 4, 3) := by decide +kernel
theorem dX12_debate_106 : decode cX12_debate 106 = .ok (.iconst 0, 1) := by decide +kernel
theorem dX12_debate_107 : decode cX12_debate 107 = .ok (.invokevirtual 308, 3) := by decide +kernel
theorem dX12_debate_110 : decode cX12_debate 110 = .ok (.iload 5, 2) := by decide +kernel
theorem dX12_debate_112 : decode cX12_debate 112 = .ok (.ifCond .eq 7, 3) := by decide +kernel
theorem dX12_debate_115 : decode cX12_debate 115 = .ok (.iconst 1, 1) := by decide +kernel
theorem dX12_debate_116 : decode cX12_debate 116 = .ok (.goto 4, 3) := by decide +kernel
theorem dX12_debate_119 : decode cX12_debate 119 = .ok (.iconst 0, 1) := by decide +kernel
theorem dX12_debate_120 : decode cX12_debate 120 = .ok (.ireturn, 1) := by decide +kernel
abbrev YX12_debate : li_Y := (yX12_debate, cX12_debate, 6, (some .int))
theorem dX12_enough_0 : decode cX12_enough 0 = .ok (.aload_n 0, 1) := by decide +kernel
theorem dX12_enough_1 : decode cX12_enough 1 = .ok (.iconst 0, 1) := by decide +kernel
theorem dX12_enough_2 : decode cX12_enough 2 = .ok (.putfield 103, 3) := by decide +kernel
theorem dX12_enough_5 : decode cX12_enough 5 = .ok (.iload_n 1, 1) := by decide +kernel
theorem dX12_enough_6 : decode cX12_enough 6 = .ok (.invokestatic 371, 3) := by decide +kernel
theorem dX12_enough_9 : decode cX12_enough 9 = .ok (.ifCond .eq 13, 3) := by decide +kernel
theorem dX12_enough_12 : decode cX12_enough 12 = .ok (.iload_n 2, 1) := by decide +kernel
theorem dX12_enough_13 : decode cX12_enough 13 = .ok (.iconst 1, 1) := by decide +kernel
theorem dX12_enough_14 : decode cX12_enough 14 = .ok (.bipush 9, 2) := by decide +kernel
theorem dX12_enough_16 : decode cX12_enough 16 = .ok (.invokestatic 113, 3) := by decide +kernel
theorem dX12_enough_19 : decode cX12_enough 19 = .ok (.ifCond .ne 5, 3) := by decide +kernel
theorem dX12_enough_22 : decode cX12_enough 22 = .ok (.iconst (-1), 1) := by decide +kernel
theorem dX12_enough_23 : decode cX12_enough 23 = .ok (.ireturn, 1) := by decide +kernel
theorem dX12_enough_24 : decode cX12_enough 24 = .ok (.aload_n 0, 1) := by decide +kernel
theorem dX12_enough_25 : decode cX12_enough 25 = .ok (.iload_n 2, 1) := by decide +kernel
theorem dX12_enough_26 : decode cX12_enough 26 = .ok (.invokevirtual 374, 3) := by decide +kernel
theorem dX12_enough_29 : decode cX12_enough 29 = .ok (.iconst 0, 1) := by decide +kernel
theorem dX12_enough_30 : decode cX12_enough 30 = .ok (.istore_n 3, 1) := by decide +kernel
theorem dX12_enough_31 : decode cX12_enough 31 = .ok (.iload_n 3, 1) := by decide +kernel
theorem dX12_enough_32 : decode cX12_enough 32 = .ok (.bipush 61, 2) := by decide +kernel
theorem dX12_enough_34 : decode cX12_enough 34 = .ok (.if_icmp .ge 25, 3) := by decide +kernel
theorem dX12_enough_37 : decode cX12_enough 37 = .ok (.aload_n 0, 1) := by decide +kernel
theorem dX12_enough_38 : decode cX12_enough 38 = .ok (.getfield 60, 3) := by decide +kernel
theorem dX12_enough_41 : decode cX12_enough 41 = .ok (.iload_n 3, 1) := by decide +kernel
theorem dX12_enough_42 : decode cX12_enough 42 = .ok (.iload_n 1, 1) := by decide +kernel
theorem dX12_enough_43 : decode cX12_enough 43 = .ok (.iconst 1, 1) := by decide +kernel
theorem dX12_enough_44 : decode cX12_enough 44 = .ok (.invokestatic 368, 3) := by decide +kernel
theorem dX12_enough_47 : decode cX12_enough 47 = .ok (.baload, 1) := by decide +kernel
theorem dX12_enough_48 : decode cX12_enough 48 = .ok (.ifCond .eq 5, 3) := by decide +kernel
theorem dX12_enough_51 : decode cX12_enough 51 = .ok (.iload_n 3, 1) := by decide +kernel
theorem dX12_enough_52 : decode cX12_enough 52 = .ok (.ireturn, 1) := by decide +kernel
theorem dX12_enough_53 : decode cX12_enough 53 = .ok (.iinc 3 1, 3) := by decide +kernel
theorem dX12_enough_56 : decode cX12_enough 56 = .ok (.goto (-25), 3) := by decide +kernel
theorem dX12_enough_59 : decode cX12_enough 59 = .ok (.bipush (-2), 2) := by decide +kernel
theorem dX12_enough_61 : decode cX12_enough 61 = .ok (.ireturn, 1) := by decide +kernel
abbrev YX12_enough : li_Y := (yX12_enough, cX12_enough, 4, (some .int))
theorem dX12_joined_0 : decode cX12_joined 0 = .ok (.iconst 0, 1) := by decide +kernel
theorem dX12_joined_1 : decode cX12_joined 1 = .ok (.istore_n 3, 1) := by decide +kernel
theorem dX12_joined_2 : decode cX12_joined 2 = .ok (.iconst 0, 1) := by decide +kernel
theorem dX12_joined_3 : decode cX12_joined 3 = .ok (.istore 4, 2) := by decide +kernel
theorem dX12_joined_5 : decode cX12_joined 5 = .ok (.iload 4, 2) := by decide +kernel
theorem dX12_joined_7 : decode cX12_joined 7 = .ok (.aload_n 0, 1) := by decide +kernel
theorem dX12_joined_8 : decode cX12_joined 8 = .ok (.getfield 377, 3) := by decide +kernel
theorem dX12_joined_11 : decode cX12_joined 11 = .ok (.if_icmp .ge 63, 3) := by decide +kernel
theorem dX12_joined_14 : decode cX12_joined 14 = .ok (.iload_n 3, 1) := by decide +kernel
theorem dX12_joined_15 : decode cX12_joined 15 = .ok (.iload_n 1, 1) := by decide +kernel
theorem dX12_joined_16 : decode cX12_joined 16 = .ok (.aload_n 0, 1) := by decide +kernel
theorem dX12_joined_17 : decode cX12_joined 17 = .ok (.getfield 64, 3) := by decide +kernel
theorem dX12_joined_20 : decode cX12_joined 20 = .ok (.iconst 3, 1) := by decide +kernel
theorem dX12_joined_21 : decode cX12_joined 21 = .ok (.iload 4, 2) := by decide +kernel
theorem dX12_joined_23 : decode cX12_joined 23 = .ok (.imul, 1) := by decide +kernel
theorem dX12_joined_24 : decode cX12_joined 24 = .ok (.iaload, 1) := by decide +kernel
theorem dX12_joined_25 : decode cX12_joined 25 = .ok (.invokestatic 251, 3) := by decide +kernel
theorem dX12_joined_28 : decode cX12_joined 28 = .ok (.ifCond .eq 37, 3) := by decide +kernel
theorem dX12_joined_31 : decode cX12_joined 31 = .ok (.iload_n 2, 1) := by decide +kernel
theorem dX12_joined_32 : decode cX12_joined 32 = .ok (.aload_n 0, 1) := by decide +kernel
theorem dX12_joined_33 : decode cX12_joined 33 = .ok (.getfield 64, 3) := by decide +kernel
theorem dX12_joined_36 : decode cX12_joined 36 = .ok (.iconst 3, 1) := by decide +kernel
theorem dX12_joined_37 : decode cX12_joined 37 = .ok (.iload 4, 2) := by decide +kernel
theorem dX12_joined_39 : decode cX12_joined 39 = .ok (.imul, 1) := by decide +kernel
theorem dX12_joined_40 : decode cX12_joined 40 = .ok (.iconst 1, 1) := by decide +kernel
theorem dX12_joined_41 : decode cX12_joined 41 = .ok (.iadd, 1) := by decide +kernel
theorem dX12_joined_42 : decode cX12_joined 42 = .ok (.iaload, 1) := by decide +kernel
theorem dX12_joined_43 : decode cX12_joined 43 = .ok (.invokestatic 251, 3) := by decide +kernel
theorem dX12_joined_46 : decode cX12_joined 46 = .ok (.ifCond .eq 19, 3) := by decide +kernel
theorem dX12_joined_49 : decode cX12_joined 49 = .ok (.iconst 1, 1) := by decide +kernel
theorem dX12_joined_50 : decode cX12_joined 50 = .ok (.aload_n 0, 1) := by decide +kernel
theorem dX12_joined_51 : decode cX12_joined 51 = .ok (.getfield 64, 3) := by decide +kernel
theorem dX12_joined_54 : decode cX12_joined 54 = .ok (.iconst 3, 1) := by decide +kernel
theorem dX12_joined_55 : decode cX12_joined 55 = .ok (.iload 4, 2) := by decide +kernel
theorem dX12_joined_57 : decode cX12_joined 57 = .ok (.imul, 1) := by decide +kernel
theorem dX12_joined_58 : decode cX12_joined 58 = .ok (.iconst 2, 1) := by decide +kernel
theorem dX12_joined_59 : decode cX12_joined 59 = .ok (.iadd, 1) := by decide +kernel
theorem dX12_joined_60 : decode cX12_joined 60 = .ok (.iaload, 1) := by decide +kernel
theorem dX12_joined_61 : decode cX12_joined 61 = .ok (.ishl, 1) := by decide +kernel
theorem dX12_joined_62 : decode cX12_joined 62 = .ok (.goto 4, 3) := by decide +kernel
theorem dX12_joined_65 : decode cX12_joined 65 = .ok (.iconst 0, 1) := by decide +kernel
theorem dX12_joined_66 : decode cX12_joined 66 = .ok (.ior, 1) := by decide +kernel
theorem dX12_joined_67 : decode cX12_joined 67 = .ok (.istore_n 3, 1) := by decide +kernel
theorem dX12_joined_68 : decode cX12_joined 68 = .ok (.iinc 4 1, 3) := by decide +kernel
theorem dX12_joined_71 : decode cX12_joined 71 = .ok (.goto (-66), 3) := by decide +kernel
theorem dX12_joined_74 : decode cX12_joined 74 = .ok (.iload_n 3, 1) := by decide +kernel
theorem dX12_joined_75 : decode cX12_joined 75 = .ok (.ireturn, 1) := by decide +kernel
abbrev YX12_joined : li_Y := (yX12_joined, cX12_joined, 5, (some .int))
theorem dX12_grammar_0 : decode cX12_grammar 0 = .ok (.aload_n 0, 1) := by decide +kernel
theorem dX12_grammar_1 : decode cX12_grammar 1 = .ok (.iconst 0, 1) := by decide +kernel
theorem dX12_grammar_2 : decode cX12_grammar 2 = .ok (.putfield 103, 3) := by decide +kernel
theorem dX12_grammar_5 : decode cX12_grammar 5 = .ok (.aload_n 0, 1) := by decide +kernel
theorem dX12_grammar_6 : decode cX12_grammar 6 = .ok (.aload_n 0, 1) := by decide +kernel
theorem dX12_grammar_7 : decode cX12_grammar 7 = .ok (.getfield 22, 3) := by decide +kernel
theorem dX12_grammar_10 : decode cX12_grammar 10 = .ok (.aload_n 0, 1) := by decide +kernel
theorem dX12_grammar_11 : decode cX12_grammar 11 = .ok (.getfield 124, 3) := by decide +kernel
theorem dX12_grammar_14 : decode cX12_grammar 14 = .ok (.bipush 80, 2) := by decide +kernel
theorem dX12_grammar_16 : decode cX12_grammar 16 = .ok (.invokevirtual 162, 3) := by decide +kernel
theorem dX12_grammar_19 : decode cX12_grammar 19 = .ok (.aload_n 0, 1) := by decide +kernel
theorem dX12_grammar_20 : decode cX12_grammar 20 = .ok (.iconst 0, 1) := by decide +kernel
theorem dX12_grammar_21 : decode cX12_grammar 21 = .ok (.putfield 124, 3) := by decide +kernel
theorem dX12_grammar_24 : decode cX12_grammar 24 = .ok (.iconst 0, 1) := by decide +kernel
theorem dX12_grammar_25 : decode cX12_grammar 25 = .ok (.istore_n 1, 1) := by decide +kernel
theorem dX12_grammar_26 : decode cX12_grammar 26 = .ok (.aload_n 0, 1) := by decide +kernel
theorem dX12_grammar_27 : decode cX12_grammar 27 = .ok (.getfield 130, 3) := by decide +kernel
theorem dX12_grammar_30 : decode cX12_grammar 30 = .ok (.ifCond .le 7, 3) := by decide +kernel
theorem dX12_grammar_33 : decode cX12_grammar 33 = .ok (.iconst 1, 1) := by decide +kernel
theorem dX12_grammar_34 : decode cX12_grammar 34 = .ok (.goto 4, 3) := by decide +kernel
theorem dX12_grammar_37 : decode cX12_grammar 37 = .ok (.iconst 0, 1) := by decide +kernel
theorem dX12_grammar_38 : decode cX12_grammar 38 = .ok (.istore_n 2, 1) := by decide +kernel
theorem dX12_grammar_39 : decode cX12_grammar 39 = .ok (.iload_n 2, 1) := by decide +kernel
theorem dX12_grammar_40 : decode cX12_grammar 40 = .ok (.ifCond .eq 101, 3) := by decide +kernel
theorem dX12_grammar_43 : decode cX12_grammar 43 = .ok (.aload_n 0, 1) := by decide +kernel
theorem dX12_grammar_44 : decode cX12_grammar 44 = .ok (.invokevirtual 142, 3) := by decide +kernel
theorem dX12_grammar_47 : decode cX12_grammar 47 = .ok (.ifCond .eq 94, 3) := by decide +kernel
theorem dX12_grammar_50 : decode cX12_grammar 50 = .ok (.iload_n 1, 1) := by decide +kernel
theorem dX12_grammar_51 : decode cX12_grammar 51 = .ok (.bipush 10, 2) := by decide +kernel
theorem dX12_grammar_53 : decode cX12_grammar 53 = .ok (.if_icmp .ne 14, 3) := by decide +kernel
theorem dX12_grammar_56 : decode cX12_grammar 56 = .ok (.aload_n 0, 1) := by decide +kernel
theorem dX12_grammar_57 : decode cX12_grammar 57 = .ok (.aload_n 0, 1) := by decide +kernel
theorem dX12_grammar_58 : decode cX12_grammar 58 = .ok (.getfield 136, 3) := by decide +kernel
theorem dX12_grammar_61 : decode cX12_grammar 61 = .ok (.invokevirtual 154, 3) := by decide +kernel
theorem dX12_grammar_64 : decode cX12_grammar 64 = .ok (.goto 64, 3) := by decide +kernel
theorem dX12_grammar_67 : decode cX12_grammar 67 = .ok (.aload_n 0, 1) := by decide +kernel
theorem dX12_grammar_68 : decode cX12_grammar 68 = .ok (.getfield 67, 3) := by decide +kernel
theorem dX12_grammar_71 : decode cX12_grammar 71 = .ok (.iconst 3, 1) := by decide +kernel
theorem dX12_grammar_72 : decode cX12_grammar 72 = .ok (.iload_n 1, 1) := by decide +kernel
theorem dX12_grammar_73 : decode cX12_grammar 73 = .ok (.imul, 1) := by decide +kernel
theorem dX12_grammar_74 : decode cX12_grammar 74 = .ok (.aload_n 0, 1) := by decide +kernel
theorem dX12_grammar_75 : decode cX12_grammar 75 = .ok (.bipush 97, 2) := by decide +kernel
theorem dX12_grammar_77 : decode cX12_grammar 77 = .ok (.bipush 7, 2) := by decide +kernel
theorem dX12_grammar_79 : decode cX12_grammar 79 = .ok (.iconst (-1), 1) := by decide +kernel
theorem dX12_grammar_80 : decode cX12_grammar 80 = .ok (.invokevirtual 158, 3) := by decide +kernel
theorem dX12_grammar_83 : decode cX12_grammar 83 = .ok (.iastore, 1) := by decide +kernel
theorem dX12_grammar_84 : decode cX12_grammar 84 = .ok (.aload_n 0, 1) := by decide +kernel
theorem dX12_grammar_85 : decode cX12_grammar 85 = .ok (.getfield 67, 3) := by decide +kernel
theorem dX12_grammar_88 : decode cX12_grammar 88 = .ok (.iconst 3, 1) := by decide +kernel
theorem dX12_grammar_89 : decode cX12_grammar 89 = .ok (.iload_n 1, 1) := by decide +kernel
theorem dX12_grammar_90 : decode cX12_grammar 90 = .ok (.imul, 1) := by decide +kernel
theorem dX12_grammar_91 : decode cX12_grammar 91 = .ok (.iconst 1, 1) := by decide +kernel
theorem dX12_grammar_92 : decode cX12_grammar 92 = .ok (.iadd, 1) := by decide +kernel
theorem dX12_grammar_93 : decode cX12_grammar 93 = .ok (.aload_n 0, 1) := by decide +kernel
theorem dX12_grammar_94 : decode cX12_grammar 94 = .ok (.bipush 97, 2) := by decide +kernel
theorem dX12_grammar_96 : decode cX12_grammar 96 = .ok (.bipush 7, 2) := by decide +kernel
theorem dX12_grammar_98 : decode cX12_grammar 98 = .ok (.iconst (-1), 1) := by decide +kernel
theorem dX12_grammar_99 : decode cX12_grammar 99 = .ok (.invokevirtual 158, 3) := by decide +kernel
theorem dX12_grammar_102 : decode cX12_grammar 102 = .ok (.iastore, 1) := by decide +kernel
theorem dX12_grammar_103 : decode cX12_grammar 103 = .ok (.aload_n 0, 1) := by decide +kernel
theorem dX12_grammar_104 : decode cX12_grammar 104 = .ok (.bipush 62, 2) := by decide +kernel
theorem dX12_grammar_106 : decode cX12_grammar 106 = .ok (.invokevirtual 170, 3) := by decide +kernel
theorem dX12_grammar_109 : decode cX12_grammar 109 = .ok (.aload_n 0, 1) := by decide +kernel
theorem dX12_grammar_110 : decode cX12_grammar 110 = .ok (.getfield 67, 3) := by decide +kernel
theorem dX12_grammar_113 : decode cX12_grammar 113 = .ok (.iconst 3, 1) := by decide +kernel
theorem dX12_grammar_114 : decode cX12_grammar 114 = .ok (.iload_n 1, 1) := by decide +kernel
theorem dX12_grammar_115 : decode cX12_grammar 115 = .ok (.imul, 1) := by decide +kernel
theorem dX12_grammar_116 : decode cX12_grammar 116 = .ok (.iconst 2, 1) := by decide +kernel
theorem dX12_grammar_117 : decode cX12_grammar 117 = .ok (.iadd, 1) := by decide +kernel
theorem dX12_grammar_118 : decode cX12_grammar 118 = .ok (.aload_n 0, 1) := by decide +kernel
theorem dX12_grammar_119 : decode cX12_grammar 119 = .ok (.bipush 97, 2) := by decide +kernel
theorem dX12_grammar_121 : decode cX12_grammar 121 = .ok (.bipush 7, 2) := by decide +kernel
theorem dX12_grammar_123 : decode cX12_grammar 123 = .ok (.iconst (-1), 1) := by decide +kernel
theorem dX12_grammar_124 : decode cX12_grammar 124 = .ok (.invokevirtual 158, 3) := by decide +kernel
theorem dX12_grammar_127 : decode cX12_grammar 127 = .ok (.iastore, 1) := by decide +kernel
theorem dX12_grammar_128 : decode cX12_grammar 128 = .ok (.iinc 1 1, 3) := by decide +kernel
theorem dX12_grammar_131 : decode cX12_grammar 131 = .ok (.aload_n 0, 1) := by decide +kernel
theorem dX12_grammar_132 : decode cX12_grammar 132 = .ok (.bipush 59, 2) := by decide +kernel
theorem dX12_grammar_134 : decode cX12_grammar 134 = .ok (.invokevirtual 150, 3) := by decide +kernel
theorem dX12_grammar_137 : decode cX12_grammar 137 = .ok (.istore_n 2, 1) := by decide +kernel
theorem dX12_grammar_138 : decode cX12_grammar 138 = .ok (.goto (-99), 3) := by decide +kernel
theorem dX12_grammar_141 : decode cX12_grammar 141 = .ok (.aload_n 0, 1) := by decide +kernel
theorem dX12_grammar_142 : decode cX12_grammar 142 = .ok (.getfield 136, 3) := by decide +kernel
theorem dX12_grammar_145 : decode cX12_grammar 145 = .ok (.aload_n 0, 1) := by decide +kernel
theorem dX12_grammar_146 : decode cX12_grammar 146 = .ok (.getfield 130, 3) := by decide +kernel
theorem dX12_grammar_149 : decode cX12_grammar 149 = .ok (.if_icmp .ge 11, 3) := by decide +kernel
theorem dX12_grammar_152 : decode cX12_grammar 152 = .ok (.aload_n 0, 1) := by decide +kernel
theorem dX12_grammar_153 : decode cX12_grammar 153 = .ok (.aload_n 0, 1) := by decide +kernel
theorem dX12_grammar_154 : decode cX12_grammar 154 = .ok (.getfield 136, 3) := by decide +kernel
theorem dX12_grammar_157 : decode cX12_grammar 157 = .ok (.invokevirtual 154, 3) := by decide +kernel
theorem dX12_grammar_160 : decode cX12_grammar 160 = .ok (.aload_n 0, 1) := by decide +kernel
theorem dX12_grammar_161 : decode cX12_grammar 161 = .ok (.invokevirtual 142, 3) := by decide +kernel
theorem dX12_grammar_164 : decode cX12_grammar 164 = .ok (.ifCond .ne 10, 3) := by decide +kernel
theorem dX12_grammar_167 : decode cX12_grammar 167 = .ok (.iconst (-1), 1) := by decide +kernel
theorem dX12_grammar_168 : decode cX12_grammar 168 = .ok (.aload_n 0, 1) := by decide +kernel
theorem dX12_grammar_169 : decode cX12_grammar 169 = .ok (.getfield 139, 3) := by decide +kernel
theorem dX12_grammar_172 : decode cX12_grammar 172 = .ok (.isub, 1) := by decide +kernel
theorem dX12_grammar_173 : decode cX12_grammar 173 = .ok (.ireturn, 1) := by decide +kernel
theorem dX12_grammar_174 : decode cX12_grammar 174 = .ok (.iconst 0, 1) := by decide +kernel
theorem dX12_grammar_175 : decode cX12_grammar 175 = .ok (.istore_n 3, 1) := by decide +kernel
theorem dX12_grammar_176 : decode cX12_grammar 176 = .ok (.iload_n 3, 1) := by decide +kernel
theorem dX12_grammar_177 : decode cX12_grammar 177 = .ok (.iconst 3, 1) := by decide +kernel
theorem dX12_grammar_178 : decode cX12_grammar 178 = .ok (.iload_n 1, 1) := by decide +kernel
theorem dX12_grammar_179 : decode cX12_grammar 179 = .ok (.imul, 1) := by decide +kernel
theorem dX12_grammar_180 : decode cX12_grammar 180 = .ok (.if_icmp .ge 21, 3) := by decide +kernel
theorem dX12_grammar_183 : decode cX12_grammar 183 = .ok (.aload_n 0, 1) := by decide +kernel
theorem dX12_grammar_184 : decode cX12_grammar 184 = .ok (.getfield 64, 3) := by decide +kernel
theorem dX12_grammar_187 : decode cX12_grammar 187 = .ok (.iload_n 3, 1) := by decide +kernel
theorem dX12_grammar_188 : decode cX12_grammar 188 = .ok (.aload_n 0, 1) := by decide +kernel
theorem dX12_grammar_189 : decode cX12_grammar 189 = .ok (.getfield 67, 3) := by decide +kernel
theorem dX12_grammar_192 : decode cX12_grammar 192 = .ok (.iload_n 3, 1) := by decide +kernel
theorem dX12_grammar_193 : decode cX12_grammar 193 = .ok (.iaload, 1) := by decide +kernel
theorem dX12_grammar_194 : decode cX12_grammar 194 = .ok (.iastore, 1) := by decide +kernel
theorem dX12_grammar_195 : decode cX12_grammar 195 = .ok (.iinc 3 1, 3) := by decide +kernel
theorem dX12_grammar_198 : decode cX12_grammar 198 = .ok (.goto (-22), 3) := by decide +kernel
theorem dX12_grammar_201 : decode cX12_grammar 201 = .ok (.aload_n 0, 1) := by decide +kernel
theorem dX12_grammar_202 : decode cX12_grammar 202 = .ok (.iload_n 1, 1) := by decide +kernel
theorem dX12_grammar_203 : decode cX12_grammar 203 = .ok (.putfield 377, 3) := by decide +kernel
theorem dX12_grammar_206 : decode cX12_grammar 206 = .ok (.iload_n 1, 1) := by decide +kernel
theorem dX12_grammar_207 : decode cX12_grammar 207 = .ok (.ireturn, 1) := by decide +kernel
abbrev YX12_grammar : li_Y := (yX12_grammar, cX12_grammar, 4, (some .int))
theorem dX12_read_0 : decode cX12_read 0 = .ok (.aload_n 0, 1) := by decide +kernel
theorem dX12_read_1 : decode cX12_read 1 = .ok (.iconst 0, 1) := by decide +kernel
theorem dX12_read_2 : decode cX12_read 2 = .ok (.putfield 103, 3) := by decide +kernel
theorem dX12_read_5 : decode cX12_read 5 = .ok (.aload_n 0, 1) := by decide +kernel
theorem dX12_read_6 : decode cX12_read 6 = .ok (.iload_n 1, 1) := by decide +kernel
theorem dX12_read_7 : decode cX12_read 7 = .ok (.invokevirtual 117, 3) := by decide +kernel
theorem dX12_read_10 : decode cX12_read 10 = .ok (.ifCond .eq 14, 3) := by decide +kernel
theorem dX12_read_13 : decode cX12_read 13 = .ok (.iload_n 2, 1) := by decide +kernel
theorem dX12_read_14 : decode cX12_read 14 = .ok (.iconst 0, 1) := by decide +kernel
theorem dX12_read_15 : decode cX12_read 15 = .ok (.sipush 9999, 3) := by decide +kernel
theorem dX12_read_18 : decode cX12_read 18 = .ok (.invokestatic 113, 3) := by decide +kernel
theorem dX12_read_21 : decode cX12_read 21 = .ok (.ifCond .ne 5, 3) := by decide +kernel
theorem dX12_read_24 : decode cX12_read 24 = .ok (.iconst (-1), 1) := by decide +kernel
theorem dX12_read_25 : decode cX12_read 25 = .ok (.ireturn, 1) := by decide +kernel
theorem dX12_read_26 : decode cX12_read 26 = .ok (.aload_n 0, 1) := by decide +kernel
theorem dX12_read_27 : decode cX12_read 27 = .ok (.getfield 76, 3) := by decide +kernel
theorem dX12_read_30 : decode cX12_read 30 = .ok (.iload_n 1, 1) := by decide +kernel
theorem dX12_read_31 : decode cX12_read 31 = .ok (.iload_n 2, 1) := by decide +kernel
theorem dX12_read_32 : decode cX12_read 32 = .ok (.iastore, 1) := by decide +kernel
theorem dX12_read_33 : decode cX12_read 33 = .ok (.aload_n 0, 1) := by decide +kernel
theorem dX12_read_34 : decode cX12_read 34 = .ok (.dup, 1) := by decide +kernel
theorem dX12_read_35 : decode cX12_read 35 = .ok (.getfield 392, 3) := by decide +kernel
theorem dX12_read_38 : decode cX12_read 38 = .ok (.iconst 1, 1) := by decide +kernel
theorem dX12_read_39 : decode cX12_read 39 = .ok (.iload_n 1, 1) := by decide +kernel
theorem dX12_read_40 : decode cX12_read 40 = .ok (.ishl, 1) := by decide +kernel
theorem dX12_read_41 : decode cX12_read 41 = .ok (.ior, 1) := by decide +kernel
theorem dX12_read_42 : decode cX12_read 42 = .ok (.putfield 392, 3) := by decide +kernel
theorem dX12_read_45 : decode cX12_read 45 = .ok (.aload_n 0, 1) := by decide +kernel
theorem dX12_read_46 : decode cX12_read 46 = .ok (.getfield 392, 3) := by decide +kernel
theorem dX12_read_49 : decode cX12_read 49 = .ok (.invokestatic 226, 3) := by decide +kernel
theorem dX12_read_52 : decode cX12_read 52 = .ok (.ireturn, 1) := by decide +kernel
abbrev YX12_read : li_Y := (yX12_read, cX12_read, 3, (some .int))
theorem dX12_forget_0 : decode cX12_forget 0 = .ok (.aload_n 0, 1) := by decide +kernel
theorem dX12_forget_1 : decode cX12_forget 1 = .ok (.iconst 0, 1) := by decide +kernel
theorem dX12_forget_2 : decode cX12_forget 2 = .ok (.putfield 103, 3) := by decide +kernel
theorem dX12_forget_5 : decode cX12_forget 5 = .ok (.aload_n 0, 1) := by decide +kernel
theorem dX12_forget_6 : decode cX12_forget 6 = .ok (.getfield 392, 3) := by decide +kernel
theorem dX12_forget_9 : decode cX12_forget 9 = .ok (.invokestatic 226, 3) := by decide +kernel
theorem dX12_forget_12 : decode cX12_forget 12 = .ok (.istore_n 1, 1) := by decide +kernel
theorem dX12_forget_13 : decode cX12_forget 13 = .ok (.aload_n 0, 1) := by decide +kernel
theorem dX12_forget_14 : decode cX12_forget 14 = .ok (.iconst 0, 1) := by decide +kernel
theorem dX12_forget_15 : decode cX12_forget 15 = .ok (.putfield 392, 3) := by decide +kernel
theorem dX12_forget_18 : decode cX12_forget 18 = .ok (.iload_n 1, 1) := by decide +kernel
theorem dX12_forget_19 : decode cX12_forget 19 = .ok (.ireturn, 1) := by decide +kernel
abbrev YX12_forget : li_Y := (yX12_forget, cX12_forget, 2, (some .int))
set_option maxRecDepth 100000 in
set_option maxHeartbeats 4000000 in
theorem k_X12_joined {l : Launch} {Z : li_Z} (d : Nat) (hd : 2 ≤ d) (p1 p2 : Int32) (M0 : li_M) (hJ : li_J M0) : li_Met l Z YX12_joined d [.ref (Z.2.2 175), .int p1, .int p2] M0 (fun r M' => (∃ x : Int32, r = some (.int x)) ∧ li_fs (fun i k => False) M0 M' ∧ li_J M') := by
  refine li_enter (by decide +kernel) (Nat.le_of_ble_eq_true rfl) ?_
  show li_T l Z YX12_joined d 0 [(0, .ref (Z.2.2 175)), (1, .int p1), (2, .int p2)] [] M0 _
  have hf : li_fs (fun i k => False) M0 M0 := li_fs_refl
  have gp1 := tl_rg p1
  have gp2 := tl_rg p2
  refine li_iconst 0 dX12_joined_0 (by decide) ?_
  refine li_istore_n [(3, .int 0), (0, .ref (Z.2.2 175)), (1, .int p1), (2, .int p2)] dX12_joined_1 (by decide) rfl ?_
  refine li_iconst 0 dX12_joined_2 (by decide) ?_
  refine li_istore [(4, .int 0), (3, .int 0), (0, .ref (Z.2.2 175)), (1, .int p1), (2, .int p2)] dX12_joined_3 (by decide) rfl ?_
  have L5 : ∀ (n : Nat) (x1 : Int32) (x2 : Int32) (M3 : li_M), (10 - (x1 : Int32).toInt).toNat < n → li_fs (fun i k => False) M0 M3 → li_J M3 → 0 ≤ (x1 : Int32).toInt → li_T l Z YX12_joined d 5 [(4, .int x1), (3, .int x2), (0, .ref (Z.2.2 175)), (1, .int p1), (2, .int p2)] [] M3 (fun r M' => (∃ x : Int32, r = some (.int x)) ∧ li_fs (fun i k => False) M0 M' ∧ li_J M') := by
    intro n
    induction n with
    | zero => intro x1 x2 M3 hn; exact absurd hn (Nat.not_lt_zero _)
    | succ n ih5 =>
      intro x1 x2 M3 hn hf hJ hi
      have gx1 := tl_rg x1
      have gx2 := tl_rg x2
      refine li_iload 0 dX12_joined_5 rfl ?_
      refine li_aload_n 2 dX12_joined_7 rfl ?_
      refine li_geti (k := 38) (N := 52) (T := TX12) (C0 := RX12) dX12_joined_8 (by decide) sh_175 rfl rfl (by decide) li_in12 w_1442 ?_
      refine li_top (fun x4 ex4 => ?_)
      have gx4 : 0 ≤ x4.toInt ∧ x4.toInt ≤ 10 := by rw [ex4]; exact J_sl38 hJ
      have sx4 : x4.toInt = (M0.1 175 38).toInt := tl_slot (ex4.trans (hf.1 175 38 id))
      refine li_icmp_ge 74 dX12_joined_11 (by decide) (fun c5 => ?_) (fun c5 => ?_)
      · have tc5 : x4.toInt ≤ x1.toInt := tl_le c5
        refine li_iload_n 1 dX12_joined_74 rfl ?_
        exact li_iret dX12_joined_75 rfl rfl ⟨⟨_, rfl⟩, hf, hJ⟩
      · have tc5 : x1.toInt < x4.toInt := tl_nle c5
        refine li_iload_n 1 dX12_joined_14 rfl ?_
        refine li_iload_n 3 dX12_joined_15 rfl ?_
        refine li_aload_n 2 dX12_joined_16 rfl ?_
        refine li_getr (k := 36) (N := 52) (T := TX12) (C0 := RX12) dX12_joined_17 (by decide) sh_175 rfl rfl (by decide) (by decide) li_in12 w_1440 ?_
        refine li_iconst 3 dX12_joined_20 (by decide) ?_
        refine li_iload 0 dX12_joined_21 rfl ?_
        refine li_imul dX12_joined_23 ?_
        refine li_top (fun x6 ex6 => ?_)
        have z3 : (3 : Int32).toInt = 3 := rfl
        try (have tx6 : x6.toInt = 3 * (x1 : Int32).toInt := tl_mul ex6 (show -2147483648 ≤ 3 * (x1 : Int32).toInt ∧ 3 * (x1 : Int32).toInt ≤ 2147483647 by omega))
        refine li_iald dX12_joined_24 (by decide) sh_193 (tl_in (by omega)) ?_
        refine li_top (fun x7 ex7 => ?_)
        have gx7 := tl_rg x7
        refine li_callS (n := 2) (As := [.int p1, .int x7]) dX12_joined_25 (k_X12_has (d - 1) (by omega) p1 x7 M3 hJ ) (by omega) (Nat.le_of_ble_eq_true rfl) w_1734 w_1735 w_112 w_1736 (by decide +kernel) rfl rfl (Nat.le_of_ble_eq_true rfl) (fun r M9 h10 => ?_)
        obtain ⟨qx8, h10, jM9⟩ := h10
        have hf := li_fs_trans hf h10 (fun i k h => False.elim h)
        have hJ := jM9
        rcases qx8 with ⟨rfl, qx8⟩ | ⟨rfl, qx8⟩
        · skip
          refine li_if_eq 65 dX12_joined_28 (by decide) (fun c => absurd c (by decide)) (fun c => ?_)
          refine li_iload_n 4 dX12_joined_31 rfl ?_
          refine li_aload_n 2 dX12_joined_32 rfl ?_
          refine li_getr (k := 36) (N := 52) (T := TX12) (C0 := RX12) dX12_joined_33 (by decide) sh_175 rfl rfl (by decide) (by decide) li_in12 w_1440 ?_
          refine li_iconst 3 dX12_joined_36 (by decide) ?_
          refine li_iload 0 dX12_joined_37 rfl ?_
          refine li_imul dX12_joined_39 ?_
          refine li_top (fun x12 ex12 => ?_)
          have z3 : (3 : Int32).toInt = 3 := rfl
          try (have tx12 : x12.toInt = 3 * (x1 : Int32).toInt := tl_mul ex12 (show -2147483648 ≤ 3 * (x1 : Int32).toInt ∧ 3 * (x1 : Int32).toInt ≤ 2147483647 by omega))
          refine li_iconst 1 dX12_joined_40 (by decide) ?_
          refine li_iadd dX12_joined_41 ?_
          refine li_top (fun x13 ex13 => ?_)
          have z1 : (1 : Int32).toInt = 1 := rfl
          try (have tx13 : x13.toInt = (x12 : Int32).toInt + (1 : Int32).toInt := tl_add ex13 (by omega))
          refine li_iald dX12_joined_42 (by decide) sh_193 (tl_in (by omega)) ?_
          refine li_top (fun x14 ex14 => ?_)
          have gx14 := tl_rg x14
          refine li_callS (n := 2) (As := [.int p2, .int x14]) dX12_joined_43 (k_X12_has (d - 1) (by omega) p2 x14 M9 hJ ) (by omega) (Nat.le_of_ble_eq_true rfl) w_1734 w_1735 w_112 w_1736 (by decide +kernel) rfl rfl (Nat.le_of_ble_eq_true rfl) (fun r M16 h17 => ?_)
          obtain ⟨qx15, h17, jM16⟩ := h17
          have hf := li_fs_trans hf h17 (fun i k h => False.elim h)
          have hJ := jM16
          rcases qx15 with ⟨rfl, qx15⟩ | ⟨rfl, qx15⟩
          · skip
            refine li_if_eq 65 dX12_joined_46 (by decide) (fun c => absurd c (by decide)) (fun c => ?_)
            refine li_iconst 1 dX12_joined_49 (by decide) ?_
            refine li_aload_n 2 dX12_joined_50 rfl ?_
            refine li_getr (k := 36) (N := 52) (T := TX12) (C0 := RX12) dX12_joined_51 (by decide) sh_175 rfl rfl (by decide) (by decide) li_in12 w_1440 ?_
            refine li_iconst 3 dX12_joined_54 (by decide) ?_
            refine li_iload 0 dX12_joined_55 rfl ?_
            refine li_imul dX12_joined_57 ?_
            refine li_top (fun x19 ex19 => ?_)
            have z3 : (3 : Int32).toInt = 3 := rfl
            try (have tx19 : x19.toInt = 3 * (x1 : Int32).toInt := tl_mul ex19 (show -2147483648 ≤ 3 * (x1 : Int32).toInt ∧ 3 * (x1 : Int32).toInt ≤ 2147483647 by omega))
            refine li_iconst 2 dX12_joined_58 (by decide) ?_
            refine li_iadd dX12_joined_59 ?_
            refine li_top (fun x20 ex20 => ?_)
            have z2 : (2 : Int32).toInt = 2 := rfl
            try (have tx20 : x20.toInt = (x19 : Int32).toInt + (2 : Int32).toInt := tl_add ex20 (by omega))
            refine li_iald dX12_joined_60 (by decide) sh_193 (tl_in (by omega)) ?_
            refine li_top (fun x21 ex21 => ?_)
            have gx21 := tl_rg x21
            refine li_ishl dX12_joined_61 ?_
            refine li_top (fun x22 ex22 => ?_)
            have z1 : (1 : Int32).toInt = 1 := rfl
            try (have tx22 := tl_shl255 ex22 (by omega))
            refine li_goto 66 dX12_joined_62 (by decide) ?_
            refine li_ior dX12_joined_66 ?_
            refine li_top (fun x23 ex23 => ?_)
            try (have tx23 := tl_or255 ex23 (by omega) (by omega))
            refine li_istore_n [(3, .int x23), (4, .int x1), (0, .ref (Z.2.2 175)), (1, .int p1), (2, .int p2)] dX12_joined_67 (by decide) rfl ?_
            obtain ⟨x24, ex24⟩ : ∃ y : Int32, y = x1 + 1 := ⟨_, rfl⟩
            have z1 : (1 : Int32).toInt = 1 := rfl
            try (have tx24 : x24.toInt = (x1 : Int32).toInt + (1 : Int32).toInt := tl_add ex24 (by omega))
            refine li_iinc 1 [(4, .int x24), (3, .int x23), (0, .ref (Z.2.2 175)), (1, .int p1), (2, .int p2)] x24 dX12_joined_68 rfl (by rw [ex24]; rfl) (by decide) rfl ?_
            refine li_goto 5 dX12_joined_71 (by decide) ?_
            refine li_pick [0, 1, 2, 3, 4] [(4, .int x24), (3, .int x23), (0, .ref (Z.2.2 175)), (1, .int p1), (2, .int p2)] rfl ?_
            exact ih5 x24 x23 M16 (by omega) hf hJ (by omega)
          · skip
            refine li_if_eq 65 dX12_joined_46 (by decide) (fun c => ?_) (fun c => absurd rfl c)
            refine li_iconst 0 dX12_joined_65 (by decide) ?_
            refine li_ior dX12_joined_66 ?_
            refine li_top (fun x26 ex26 => ?_)
            have z0 : (0 : Int32).toInt = 0 := rfl
            try (have tx26 := tl_or255 ex26 (by omega) (by omega))
            refine li_istore_n [(3, .int x26), (4, .int x1), (0, .ref (Z.2.2 175)), (1, .int p1), (2, .int p2)] dX12_joined_67 (by decide) rfl ?_
            obtain ⟨x27, ex27⟩ : ∃ y : Int32, y = x1 + 1 := ⟨_, rfl⟩
            have z1 : (1 : Int32).toInt = 1 := rfl
            try (have tx27 : x27.toInt = (x1 : Int32).toInt + (1 : Int32).toInt := tl_add ex27 (by omega))
            refine li_iinc 1 [(4, .int x27), (3, .int x26), (0, .ref (Z.2.2 175)), (1, .int p1), (2, .int p2)] x27 dX12_joined_68 rfl (by rw [ex27]; rfl) (by decide) rfl ?_
            refine li_goto 5 dX12_joined_71 (by decide) ?_
            refine li_pick [0, 1, 2, 3, 4] [(4, .int x27), (3, .int x26), (0, .ref (Z.2.2 175)), (1, .int p1), (2, .int p2)] rfl ?_
            exact ih5 x27 x26 M16 (by omega) hf hJ (by omega)
        · skip
          refine li_if_eq 65 dX12_joined_28 (by decide) (fun c => ?_) (fun c => absurd rfl c)
          refine li_iconst 0 dX12_joined_65 (by decide) ?_
          refine li_ior dX12_joined_66 ?_
          refine li_top (fun x29 ex29 => ?_)
          have z0 : (0 : Int32).toInt = 0 := rfl
          try (have tx29 := tl_or255 ex29 (by omega) (by omega))
          refine li_istore_n [(3, .int x29), (4, .int x1), (0, .ref (Z.2.2 175)), (1, .int p1), (2, .int p2)] dX12_joined_67 (by decide) rfl ?_
          obtain ⟨x30, ex30⟩ : ∃ y : Int32, y = x1 + 1 := ⟨_, rfl⟩
          have z1 : (1 : Int32).toInt = 1 := rfl
          try (have tx30 : x30.toInt = (x1 : Int32).toInt + (1 : Int32).toInt := tl_add ex30 (by omega))
          refine li_iinc 1 [(4, .int x30), (3, .int x29), (0, .ref (Z.2.2 175)), (1, .int p1), (2, .int p2)] x30 dX12_joined_68 rfl (by rw [ex30]; rfl) (by decide) rfl ?_
          refine li_goto 5 dX12_joined_71 (by decide) ?_
          refine li_pick [0, 1, 2, 3, 4] [(4, .int x30), (3, .int x29), (0, .ref (Z.2.2 175)), (1, .int p1), (2, .int p2)] rfl ?_
          exact ih5 x30 x29 M9 (by omega) hf hJ (by omega)
  have z0 : (0 : Int32).toInt = 0 := rfl
  have z0 : (0 : Int32).toInt = 0 := rfl
  exact L5 _ 0 0 M0 (Nat.lt_succ_self _) hf hJ (by omega)
set_option maxRecDepth 100000 in
set_option maxHeartbeats 4000000 in
theorem k_X12_grammar {l : Launch} {Z : li_Z} (d : Nat) (hd : 4 ≤ d) (M0 : li_M) (hJ : li_J M0) : li_Met l Z YX12_grammar d [.ref (Z.2.2 175)] M0 (fun r M' => (∃ x : Int32, r = some (.int x)) ∧ li_fs (fun i k => i = 193 ∨ i = 194 ∨ i = 1000 ∨ (i = 175 ∧ k = 10) ∨ (i = 175 ∧ k = 12) ∨ (i = 175 ∧ k = 13) ∨ (i = 175 ∧ k = 14) ∨ (i = 175 ∧ k = 15) ∨ (i = 175 ∧ k = 38) ∨ (i = 175 ∧ k = 7)) M0 M' ∧ li_J M') := by
  refine li_enter (by decide +kernel) (Nat.le_of_ble_eq_true rfl) ?_
  show li_T l Z YX12_grammar d 0 [(0, .ref (Z.2.2 175))] [] M0 _
  have hf : li_fs (fun i k => i = 193 ∨ i = 194 ∨ i = 1000 ∨ (i = 175 ∧ k = 10) ∨ (i = 175 ∧ k = 12) ∨ (i = 175 ∧ k = 13) ∨ (i = 175 ∧ k = 14) ∨ (i = 175 ∧ k = 15) ∨ (i = 175 ∧ k = 38) ∨ (i = 175 ∧ k = 7)) M0 M0 := li_fs_refl
  have rM0_15 := J_sl15 (M := M0) hJ
  refine li_aload_n 0 dX12_grammar_0 rfl ?_
  refine li_iconst 0 dX12_grammar_1 (by decide) ?_
  refine li_puti (k := 10) (N := 52) (T := TX12) (C0 := RX12) dX12_grammar_2 (by decide) sh_175 rfl rfl (by decide) li_in12 tyX12_ok nmX12 rfl rfl rfl rfl w_1414 ?_
  refine li_nm (fun M1 eM1 => ?_)
  have hf := li_fs_ui hf (Or.inr (Or.inr (Or.inr (Or.inl ⟨rfl, rfl⟩)))) eM1
  have z0 : (0 : Int32).toInt = 0 := rfl
  have hJ := hJ.put (k := 10) (by decide) (rg_free rfl) eM1
  have rM1_15 := J_sl15 (M := M1) hJ
  have mM1_15 : (M1.1 175 15).toInt = (M0.1 175 15).toInt := by rw [eM1, li_ui_at, if_pos rfl, if_neg (by decide)]
  refine li_aload_n 0 dX12_grammar_5 rfl ?_
  refine li_aload_n 0 dX12_grammar_6 rfl ?_
  refine li_getr (k := 6) (N := 52) (T := TX12) (C0 := RX12) dX12_grammar_7 (by decide) sh_175 rfl rfl (by decide) (by decide) li_in12 w_1410 ?_
  refine li_aload_n 0 dX12_grammar_10 rfl ?_
  refine li_geti (k := 7) (N := 52) (T := TX12) (C0 := RX12) dX12_grammar_11 (by decide) sh_175 rfl rfl (by decide) li_in12 w_1411 ?_
  refine li_top (fun x2 ex2 => ?_)
  have gx2 : 0 ≤ x2.toInt ∧ x2.toInt ≤ 80 := by rw [ex2]; exact J_sl7 hJ
  have mx2 : x2.toInt = (M1.1 175 7).toInt := tl_slot ex2
  refine li_bipush 80 dX12_grammar_14 (by decide) ?_
  have z80 : (80 : Int32).toInt = 80 := rfl
  refine li_callV (n := 3) (As := [.ref (Z.2.2 180), .int x2, .int 80]) dX12_grammar_16 (k_X12_begin (d - 1) (by unfold li_rq; omega) x2 80 M1 hJ (show 0 ≤ (x2 : Int32).toInt ∧ (x2 : Int32).toInt ≤ (li_qn 180 : Int) by have := li_qn_fix; omega) (by omega)) (by omega) (Nat.le_of_ble_eq_true rfl) w_1577 w_1579 w_42 w_112 w_1580 (by decide +kernel) rfl (by decide) sh_175 rfl rfl (Nat.le_of_ble_eq_true rfl) (fun r M4 h5 => ?_)
  obtain ⟨rfl, h5, jM4, nM4⟩ := h5
  have hf := li_fs_trans hf h5 (fun i k => fun h => Or.elim h (fun h => Or.inr (Or.inr (Or.inr (Or.inr (Or.inl h))))) (fun h => Or.elim h (fun h => Or.inr (Or.inr (Or.inr (Or.inr (Or.inr (Or.inl h)))))) (fun h => Or.elim h (fun h => Or.inr (Or.inr (Or.inr (Or.inr (Or.inr (Or.inr (Or.inl h))))))) (fun h => Or.elim h (fun h => Or.inr (Or.inr (Or.inr (Or.inr (Or.inr (Or.inr (Or.inr (Or.inl h)))))))) (fun h => Or.inr (Or.inr (Or.inl h)))))))
  have hJ := jM4
  have rM4_15 := J_sl15 (M := M4) hJ
  refine li_aload_n 0 dX12_grammar_19 rfl ?_
  refine li_iconst 0 dX12_grammar_20 (by decide) ?_
  refine li_puti (k := 7) (N := 52) (T := TX12) (C0 := RX12) dX12_grammar_21 (by decide) sh_175 rfl rfl (by decide) li_in12 tyX12_ok nmX12 rfl rfl rfl rfl w_1411 ?_
  refine li_nm (fun M6 eM6 => ?_)
  have hf := li_fs_ui hf (Or.inr (Or.inr (Or.inr (Or.inr (Or.inr (Or.inr (Or.inr (Or.inr (Or.inr (⟨rfl, rfl⟩)))))))))) eM6
  have z0 : (0 : Int32).toInt = 0 := rfl
  have hJ := J_pt7 hJ (show 0 ≤ (0 : Int32).toInt ∧ (0 : Int32).toInt ≤ 80 by omega) eM6
  have rM6_15 := J_sl15 (M := M6) hJ
  have mM6_15 : (M6.1 175 15).toInt = (M4.1 175 15).toInt := by rw [eM6, li_ui_at, if_pos rfl, if_neg (by decide)]
  refine li_iconst 0 dX12_grammar_24 (by decide) ?_
  refine li_istore_n [(1, .int 0), (0, .ref (Z.2.2 175))] dX12_grammar_25 (by decide) rfl ?_
  refine li_aload_n 1 dX12_grammar_26 rfl ?_
  refine li_geti (k := 12) (N := 52) (T := TX12) (C0 := RX12) dX12_grammar_27 (by decide) sh_175 rfl rfl (by decide) li_in12 w_1416 ?_
  refine li_top (fun x7 ex7 => ?_)
  have gx7 : 0 ≤ x7.toInt ∧ x7.toInt ≤ 80 := by rw [ex7]; exact J_sl12 hJ
  have mx7 : x7.toInt = (M6.1 175 12).toInt := tl_slot ex7
  have J38 : ∀ (x9 : Int32) (M10 : li_M), li_fs (fun i k => i = 193 ∨ i = 194 ∨ i = 1000 ∨ (i = 175 ∧ k = 10) ∨ (i = 175 ∧ k = 12) ∨ (i = 175 ∧ k = 13) ∨ (i = 175 ∧ k = 14) ∨ (i = 175 ∧ k = 15) ∨ (i = 175 ∧ k = 38) ∨ (i = 175 ∧ k = 7)) M0 M10 → li_J M10 → li_T l Z YX12_grammar d 38 [(1, .int 0), (0, .ref (Z.2.2 175))] [.int x9] M10 (fun r M' => (∃ x : Int32, r = some (.int x)) ∧ li_fs (fun i k => i = 193 ∨ i = 194 ∨ i = 1000 ∨ (i = 175 ∧ k = 10) ∨ (i = 175 ∧ k = 12) ∨ (i = 175 ∧ k = 13) ∨ (i = 175 ∧ k = 14) ∨ (i = 175 ∧ k = 15) ∨ (i = 175 ∧ k = 38) ∨ (i = 175 ∧ k = 7)) M0 M' ∧ li_J M') := by
    intro x9 M10 hf hJ
    have gx9 := tl_rg x9
    have rM10_15 := J_sl15 (M := M10) hJ
    refine li_istore_n [(2, .int x9), (1, .int 0), (0, .ref (Z.2.2 175))] dX12_grammar_38 (by decide) rfl ?_
    have J141 : ∀ (x11 : Int32) (x12 : Int32) (M13 : li_M), li_fs (fun i k => i = 193 ∨ i = 194 ∨ i = 1000 ∨ (i = 175 ∧ k = 10) ∨ (i = 175 ∧ k = 12) ∨ (i = 175 ∧ k = 13) ∨ (i = 175 ∧ k = 14) ∨ (i = 175 ∧ k = 15) ∨ (i = 175 ∧ k = 38) ∨ (i = 175 ∧ k = 7)) M0 M13 → li_J M13 → 0 ≤ (x12 : Int32).toInt ∧ (x12 : Int32).toInt ≤ 11 ∧ (x12 : Int32).toInt ≤ 11 + (M13.1 175 15).toInt → li_T l Z YX12_grammar d 141 [(2, .int x11), (1, .int x12), (0, .ref (Z.2.2 175))] [] M13 (fun r M' => (∃ x : Int32, r = some (.int x)) ∧ li_fs (fun i k => i = 193 ∨ i = 194 ∨ i = 1000 ∨ (i = 175 ∧ k = 10) ∨ (i = 175 ∧ k = 12) ∨ (i = 175 ∧ k = 13) ∨ (i = 175 ∧ k = 14) ∨ (i = 175 ∧ k = 15) ∨ (i = 175 ∧ k = 38) ∨ (i = 175 ∧ k = 7)) M0 M' ∧ li_J M') := by
      intro x11 x12 M13 hf hJ hi
      have gx11 := tl_rg x11
      have gx12 := tl_rg x12
      have rM13_15 := J_sl15 (M := M13) hJ
      refine li_aload_n 2 dX12_grammar_141 rfl ?_
      refine li_geti (k := 14) (N := 52) (T := TX12) (C0 := RX12) dX12_grammar_142 (by decide) sh_175 rfl rfl (by decide) li_in12 w_1418 ?_
      refine li_top (fun x14 ex14 => ?_)
      have gx14 : 0 ≤ x14.toInt ∧ x14.toInt ≤ 81 := by rw [ex14]; exact J_sl14 hJ
      have mx14 : x14.toInt = (M13.1 175 14).toInt := tl_slot ex14
      refine li_aload_n 2 dX12_grammar_145 rfl ?_
      refine li_geti (k := 12) (N := 52) (T := TX12) (C0 := RX12) dX12_grammar_146 (by decide) sh_175 rfl rfl (by decide) li_in12 w_1416 ?_
      refine li_top (fun x15 ex15 => ?_)
      have gx15 : 0 ≤ x15.toInt ∧ x15.toInt ≤ 80 := by rw [ex15]; exact J_sl12 hJ
      have mx15 : x15.toInt = (M13.1 175 12).toInt := tl_slot ex15
      have J160 : ∀  (M17 : li_M), li_fs (fun i k => i = 193 ∨ i = 194 ∨ i = 1000 ∨ (i = 175 ∧ k = 10) ∨ (i = 175 ∧ k = 12) ∨ (i = 175 ∧ k = 13) ∨ (i = 175 ∧ k = 14) ∨ (i = 175 ∧ k = 15) ∨ (i = 175 ∧ k = 38) ∨ (i = 175 ∧ k = 7)) M0 M17 → li_J M17 → (x12 : Int32).toInt ≤ 11 + (M17.1 175 15).toInt → li_T l Z YX12_grammar d 160 [(2, .int x11), (1, .int x12), (0, .ref (Z.2.2 175))] [] M17 (fun r M' => (∃ x : Int32, r = some (.int x)) ∧ li_fs (fun i k => i = 193 ∨ i = 194 ∨ i = 1000 ∨ (i = 175 ∧ k = 10) ∨ (i = 175 ∧ k = 12) ∨ (i = 175 ∧ k = 13) ∨ (i = 175 ∧ k = 14) ∨ (i = 175 ∧ k = 15) ∨ (i = 175 ∧ k = 38) ∨ (i = 175 ∧ k = 7)) M0 M' ∧ li_J M') := by
        intro  M17 hf hJ hi
        have rM17_15 := J_sl15 (M := M17) hJ
        refine li_aload_n 2 dX12_grammar_160 rfl ?_
        refine li_callV (n := 0) (As := []) dX12_grammar_161 (k_X12_fineW (d - 1) (by omega)  M17 hJ ) (by omega) (Nat.le_of_ble_eq_true rfl) w_1581 w_1583 w_43 w_112 w_1584 (by decide +kernel) rfl (by decide) sh_175 rfl rfl (Nat.le_of_ble_eq_true rfl) (fun r M19 h20 => ?_)
        obtain ⟨qx18, h20, jM19⟩ := h20
        have hf := li_fs_trans hf h20 (fun i k h => False.elim h)
        have hJ := jM19
        have rM19_15 := J_sl15 (M := M19) hJ
        have mM19_15 : (M19.1 175 15).toInt = (M17.1 175 15).toInt := tl_slot (h20.1 175 15 id)
        rcases qx18 with ⟨rfl, qx18⟩ | ⟨rfl, qx18⟩
        · skip
          refine li_if_ne 174 dX12_grammar_164 (by decide) (fun c => ?_) (fun c => absurd c (by decide))
          refine li_iconst 0 dX12_grammar_174 (by decide) ?_
          refine li_istore_n [(3, .int 0), (2, .int x11), (1, .int x12), (0, .ref (Z.2.2 175))] dX12_grammar_175 (by decide) rfl ?_
          have L176 : ∀ (n : Nat) (x22 : Int32) (M23 : li_M), (30 - (x22 : Int32).toInt).toNat < n → li_fs (fun i k => i = 193 ∨ i = 194 ∨ i = 1000 ∨ (i = 175 ∧ k = 10) ∨ (i = 175 ∧ k = 12) ∨ (i = 175 ∧ k = 13) ∨ (i = 175 ∧ k = 14) ∨ (i = 175 ∧ k = 15) ∨ (i = 175 ∧ k = 38) ∨ (i = 175 ∧ k = 7)) M0 M23 → li_J M23 → 0 ≤ (x22 : Int32).toInt → li_T l Z YX12_grammar d 176 [(3, .int x22), (2, .int x11), (1, .int x12), (0, .ref (Z.2.2 175))] [] M23 (fun r M' => (∃ x : Int32, r = some (.int x)) ∧ li_fs (fun i k => i = 193 ∨ i = 194 ∨ i = 1000 ∨ (i = 175 ∧ k = 10) ∨ (i = 175 ∧ k = 12) ∨ (i = 175 ∧ k = 13) ∨ (i = 175 ∧ k = 14) ∨ (i = 175 ∧ k = 15) ∨ (i = 175 ∧ k = 38) ∨ (i = 175 ∧ k = 7)) M0 M' ∧ li_J M') := by
            intro n
            induction n with
            | zero => intro x22 M23 hn; exact absurd hn (Nat.not_lt_zero _)
            | succ n ih176 =>
              intro x22 M23 hn hf hJ hi
              have gx22 := tl_rg x22
              have rM23_15 := J_sl15 (M := M23) hJ
              refine li_iload_n 0 dX12_grammar_176 rfl ?_
              refine li_iconst 3 dX12_grammar_177 (by decide) ?_
              refine li_iload_n 2 dX12_grammar_178 rfl ?_
              refine li_imul dX12_grammar_179 ?_
              refine li_top (fun x24 ex24 => ?_)
              have z3 : (3 : Int32).toInt = 3 := rfl
              try (have tx24 : x24.toInt = 3 * (x12 : Int32).toInt := tl_mul ex24 (show -2147483648 ≤ 3 * (x12 : Int32).toInt ∧ 3 * (x12 : Int32).toInt ≤ 2147483647 by omega))
              refine li_icmp_ge 201 dX12_grammar_180 (by decide) (fun c25 => ?_) (fun c25 => ?_)
              · have tc25 : x24.toInt ≤ x22.toInt := tl_le c25
                refine li_aload_n 3 dX12_grammar_201 rfl ?_
                refine li_iload_n 2 dX12_grammar_202 rfl ?_
                refine li_puti (k := 38) (N := 52) (T := TX12) (C0 := RX12) dX12_grammar_203 (by decide) sh_175 rfl rfl (by decide) li_in12 tyX12_ok nmX12 rfl rfl rfl rfl w_1442 ?_
                refine li_nm (fun M26 eM26 => ?_)
                have hf := li_fs_ui hf (Or.inr (Or.inr (Or.inr (Or.inr (Or.inr (Or.inr (Or.inr (Or.inr (Or.inl ⟨rfl, rfl⟩))))))))) eM26
                have hJ := J_pt38 hJ (show 0 ≤ (x12 : Int32).toInt ∧ (x12 : Int32).toInt ≤ 10 by omega) eM26
                have rM26_15 := J_sl15 (M := M26) hJ
                have mM26_15 : (M26.1 175 15).toInt = (M23.1 175 15).toInt := by rw [eM26, li_ui_at, if_pos rfl, if_neg (by decide)]
                refine li_iload_n 2 dX12_grammar_206 rfl ?_
                exact li_iret dX12_grammar_207 rfl rfl ⟨⟨_, rfl⟩, hf, hJ⟩
              · have tc25 : x22.toInt < x24.toInt := tl_nle c25
                refine li_aload_n 3 dX12_grammar_183 rfl ?_
                refine li_getr (k := 36) (N := 52) (T := TX12) (C0 := RX12) dX12_grammar_184 (by decide) sh_175 rfl rfl (by decide) (by decide) li_in12 w_1440 ?_
                refine li_iload_n 0 dX12_grammar_187 rfl ?_
                refine li_aload_n 3 dX12_grammar_188 rfl ?_
                refine li_getr (k := 37) (N := 52) (T := TX12) (C0 := RX12) dX12_grammar_189 (by decide) sh_175 rfl rfl (by decide) (by decide) li_in12 w_1441 ?_
                refine li_iload_n 0 dX12_grammar_192 rfl ?_
                refine li_iald dX12_grammar_193 (by decide) sh_194 (tl_in (by omega)) ?_
                refine li_top (fun x27 ex27 => ?_)
                have gx27 := tl_rg x27
                refine li_iast dX12_grammar_194 (by decide) sh_193 (tl_in (by omega)) ?_
                refine li_nm (fun M28 eM28 => ?_)
                have hf := li_fs_ui hf (Or.inl rfl) eM28
                have hJ := hJ.st (by decide) (li_el_free (by unfold li_led; omega) (by decide) (by decide) (by unfold li_rq; omega)) eM28
                have rM28_15 := J_sl15 (M := M28) hJ
                have mM28_15 : (M28.1 175 15).toInt = (M23.1 175 15).toInt := by rw [eM28, li_ui_at, if_neg (by decide)]
                obtain ⟨x29, ex29⟩ : ∃ y : Int32, y = x22 + 1 := ⟨_, rfl⟩
                have z1 : (1 : Int32).toInt = 1 := rfl
                try (have tx29 : x29.toInt = (x22 : Int32).toInt + (1 : Int32).toInt := tl_add ex29 (by omega))
                refine li_iinc 0 [(3, .int x29), (2, .int x11), (1, .int x12), (0, .ref (Z.2.2 175))] x29 dX12_grammar_195 rfl (by rw [ex29]; rfl) (by decide) rfl ?_
                refine li_goto 176 dX12_grammar_198 (by decide) ?_
                refine li_pick [0, 1, 2, 3] [(3, .int x29), (2, .int x11), (1, .int x12), (0, .ref (Z.2.2 175))] rfl ?_
                exact ih176 x29 M28 (by omega) hf hJ (by omega)
          have z0 : (0 : Int32).toInt = 0 := rfl
          exact L176 _ 0 M19 (Nat.lt_succ_self _) hf hJ (by omega)
        · skip
          refine li_if_ne 174 dX12_grammar_164 (by decide) (fun c => absurd rfl c) (fun c => ?_)
          refine li_iconst (-1) dX12_grammar_167 (by decide) ?_
          refine li_aload_n 2 dX12_grammar_168 rfl ?_
          refine li_geti (k := 15) (N := 52) (T := TX12) (C0 := RX12) dX12_grammar_169 (by decide) sh_175 rfl rfl (by decide) li_in12 w_1419 ?_
          refine li_top (fun x31 ex31 => ?_)
          have gx31 : -1 ≤ x31.toInt ∧ x31.toInt ≤ 81 := by rw [ex31]; exact J_sl15 hJ
          have mx31 : x31.toInt = (M19.1 175 15).toInt := tl_slot ex31
          refine li_isub dX12_grammar_172 ?_
          refine li_top (fun x32 ex32 => ?_)
          have zm1 : ((-1) : Int32).toInt = -1 := rfl
          try (have tx32 : x32.toInt = ((-1) : Int32).toInt - (x31 : Int32).toInt := tl_sub ex32 (by omega))
          exact li_iret dX12_grammar_173 rfl rfl ⟨⟨_, rfl⟩, hf, hJ⟩
      refine li_icmp_ge 160 dX12_grammar_149 (by decide) (fun c16 => ?_) (fun c16 => ?_)
      · have tc16 : x15.toInt ≤ x14.toInt := tl_le c16
        refine li_pick [0, 1, 2] [(2, .int x11), (1, .int x12), (0, .ref (Z.2.2 175))] rfl ?_
        exact J160  M13 hf hJ (by omega)
      · have tc16 : x14.toInt < x15.toInt := tl_nle c16
        refine li_aload_n 2 dX12_grammar_152 rfl ?_
        refine li_aload_n 2 dX12_grammar_153 rfl ?_
        refine li_geti (k := 14) (N := 52) (T := TX12) (C0 := RX12) dX12_grammar_154 (by decide) sh_175 rfl rfl (by decide) li_in12 w_1418 ?_
        refine li_top (fun x33 ex33 => ?_)
        have gx33 : 0 ≤ x33.toInt ∧ x33.toInt ≤ 81 := by rw [ex33]; exact J_sl14 hJ
        have mx33 : x33.toInt = (M13.1 175 14).toInt := tl_slot ex33
        refine li_callV (n := 1) (As := [.int x33]) dX12_grammar_157 (k_X12_faultW (d - 1) (by omega) x33 M13 hJ (by omega)) (by omega) (Nat.le_of_ble_eq_true rfl) w_1585 w_1587 w_44 w_112 w_1588 (by decide +kernel) rfl (by decide) sh_175 rfl rfl (Nat.le_of_ble_eq_true rfl) (fun r M35 h36 => ?_)
        obtain ⟨rfl, h36, jM35, nM35⟩ := h36
        have hf := li_fs_trans hf h36 (fun i k => fun h => Or.inr (Or.inr (Or.inr (Or.inr (Or.inr (Or.inr (Or.inr (Or.inl h))))))))
        have hJ := jM35
        have rM35_15 := J_sl15 (M := M35) hJ
        refine li_pick [0, 1, 2] [(2, .int x11), (1, .int x12), (0, .ref (Z.2.2 175))] rfl ?_
        exact J160  M35 hf hJ (by omega)
    have L39 : ∀ (n : Nat) (x37 : Int32) (x38 : Int32) (M39 : li_M), (12 - (x38 : Int32).toInt).toNat < n → li_fs (fun i k => i = 193 ∨ i = 194 ∨ i = 1000 ∨ (i = 175 ∧ k = 10) ∨ (i = 175 ∧ k = 12) ∨ (i = 175 ∧ k = 13) ∨ (i = 175 ∧ k = 14) ∨ (i = 175 ∧ k = 15) ∨ (i = 175 ∧ k = 38) ∨ (i = 175 ∧ k = 7)) M0 M39 → li_J M39 → 0 ≤ (x38 : Int32).toInt ∧ (x38 : Int32).toInt ≤ 11 ∧ (x38 : Int32).toInt ≤ 11 + (M39.1 175 15).toInt → li_T l Z YX12_grammar d 39 [(2, .int x37), (1, .int x38), (0, .ref (Z.2.2 175))] [] M39 (fun r M' => (∃ x : Int32, r = some (.int x)) ∧ li_fs (fun i k => i = 193 ∨ i = 194 ∨ i = 1000 ∨ (i = 175 ∧ k = 10) ∨ (i = 175 ∧ k = 12) ∨ (i = 175 ∧ k = 13) ∨ (i = 175 ∧ k = 14) ∨ (i = 175 ∧ k = 15) ∨ (i = 175 ∧ k = 38) ∨ (i = 175 ∧ k = 7)) M0 M' ∧ li_J M') := by
      intro n
      induction n with
      | zero => intro x37 x38 M39 hn; exact absurd hn (Nat.not_lt_zero _)
      | succ n ih39 =>
        intro x37 x38 M39 hn hf hJ hi
        have gx37 := tl_rg x37
        have gx38 := tl_rg x38
        have rM39_15 := J_sl15 (M := M39) hJ
        refine li_iload_n 0 dX12_grammar_39 rfl ?_
        refine li_if_eq 141 dX12_grammar_40 (by decide) (fun c40 => ?_) (fun c40 => ?_)
        · have tc40 : x37.toInt = 0 := tl_eq c40
          refine li_pick [0, 1, 2] [(2, .int x37), (1, .int x38), (0, .ref (Z.2.2 175))] rfl ?_
          exact J141 x37 x38 M39 hf hJ (by omega)
        · have tc40 : ¬ x37.toInt = 0 := tl_ne c40
          refine li_aload_n 2 dX12_grammar_43 rfl ?_
          refine li_callV (n := 0) (As := []) dX12_grammar_44 (k_X12_fineW (d - 1) (by omega)  M39 hJ ) (by omega) (Nat.le_of_ble_eq_true rfl) w_1581 w_1583 w_43 w_112 w_1584 (by decide +kernel) rfl (by decide) sh_175 rfl rfl (Nat.le_of_ble_eq_true rfl) (fun r M42 h43 => ?_)
          obtain ⟨qx41, h43, jM42⟩ := h43
          have hf := li_fs_trans hf h43 (fun i k h => False.elim h)
          have hJ := jM42
          have rM42_15 := J_sl15 (M := M42) hJ
          have mM42_15 : (M42.1 175 15).toInt = (M39.1 175 15).toInt := tl_slot (h43.1 175 15 id)
          rcases qx41 with ⟨rfl, qx41⟩ | ⟨rfl, qx41⟩
          · skip
            refine li_if_eq 141 dX12_grammar_47 (by decide) (fun c => absurd c (by decide)) (fun c => ?_)
            refine li_iload_n 1 dX12_grammar_50 rfl ?_
            refine li_bipush 10 dX12_grammar_51 (by decide) ?_
            have J128 : ∀  (M46 : li_M), li_fs (fun i k => i = 193 ∨ i = 194 ∨ i = 1000 ∨ (i = 175 ∧ k = 10) ∨ (i = 175 ∧ k = 12) ∨ (i = 175 ∧ k = 13) ∨ (i = 175 ∧ k = 14) ∨ (i = 175 ∧ k = 15) ∨ (i = 175 ∧ k = 38) ∨ (i = 175 ∧ k = 7)) M0 M46 → li_J M46 → (x38 : Int32).toInt ≤ 10 ∧ (x38 : Int32).toInt ≤ 10 + (M46.1 175 15).toInt → li_T l Z YX12_grammar d 128 [(2, .int x37), (1, .int x38), (0, .ref (Z.2.2 175))] [] M46 (fun r M' => (∃ x : Int32, r = some (.int x)) ∧ li_fs (fun i k => i = 193 ∨ i = 194 ∨ i = 1000 ∨ (i = 175 ∧ k = 10) ∨ (i = 175 ∧ k = 12) ∨ (i = 175 ∧ k = 13) ∨ (i = 175 ∧ k = 14) ∨ (i = 175 ∧ k = 15) ∨ (i = 175 ∧ k = 38) ∨ (i = 175 ∧ k = 7)) M0 M' ∧ li_J M') := by
              intro  M46 hf hJ hi
              have rM46_15 := J_sl15 (M := M46) hJ
              obtain ⟨x47, ex47⟩ : ∃ y : Int32, y = x38 + 1 := ⟨_, rfl⟩
              have z1 : (1 : Int32).toInt = 1 := rfl
              try (have tx47 : x47.toInt = (x38 : Int32).toInt + (1 : Int32).toInt := tl_add ex47 (by omega))
              refine li_iinc 1 [(1, .int x47), (2, .int x37), (0, .ref (Z.2.2 175))] x47 dX12_grammar_128 rfl (by rw [ex47]; rfl) (by decide) rfl ?_
              refine li_aload_n 2 dX12_grammar_131 rfl ?_
              refine li_bipush 59 dX12_grammar_132 (by decide) ?_
              have z59 : (59 : Int32).toInt = 59 := rfl
              refine li_callV (n := 1) (As := [.int 59]) dX12_grammar_134 (k_X12_passesW (d - 1) (by omega) 59 M46 hJ (by omega)) (by omega) (Nat.le_of_ble_eq_true rfl) w_1605 w_1607 w_49 w_112 w_1608 (by decide +kernel) rfl (by decide) sh_175 rfl rfl (Nat.le_of_ble_eq_true rfl) (fun r M49 h50 => ?_)
              obtain ⟨qx48, h50, jM49⟩ := h50
              have hf := li_fs_trans hf h50 (fun i k => fun h => Or.inr (Or.inr (Or.inr (Or.inr (Or.inr (Or.inr (Or.inl h)))))))
              have hJ := jM49
              have rM49_15 := J_sl15 (M := M49) hJ
              have mM49_15 : (M49.1 175 15).toInt = (M46.1 175 15).toInt := tl_slot (h50.1 175 15 (show ¬ ((175 = 175 ∧ 15 = 14)) by decide))
              rcases qx48 with ⟨rfl, qx48⟩ | ⟨rfl, qx48⟩
              · skip
                refine li_istore_n [(2, .int 1), (1, .int x47), (0, .ref (Z.2.2 175))] dX12_grammar_137 (by decide) rfl ?_
                refine li_goto 39 dX12_grammar_138 (by decide) ?_
                refine li_pick [0, 1, 2] [(2, .int 1), (1, .int x47), (0, .ref (Z.2.2 175))] rfl ?_
                have z1 : (1 : Int32).toInt = 1 := rfl
                exact ih39 1 x47 M49 (by omega) hf hJ (by omega)
              · skip
                refine li_istore_n [(2, .int 0), (1, .int x47), (0, .ref (Z.2.2 175))] dX12_grammar_137 (by decide) rfl ?_
                refine li_goto 39 dX12_grammar_138 (by decide) ?_
                refine li_pick [0, 1, 2] [(2, .int 0), (1, .int x47), (0, .ref (Z.2.2 175))] rfl ?_
                have z0 : (0 : Int32).toInt = 0 := rfl
                exact ih39 0 x47 M49 (by omega) hf hJ (by omega)
            refine li_icmp_ne 67 dX12_grammar_53 (by decide) (fun c45 => ?_) (fun c45 => ?_)
            · have tc45 : ¬ x38.toInt = 10 := tl_ne c45
              refine li_aload_n 2 dX12_grammar_67 rfl ?_
              refine li_getr (k := 37) (N := 52) (T := TX12) (C0 := RX12) dX12_grammar_68 (by decide) sh_175 rfl rfl (by decide) (by decide) li_in12 w_1441 ?_
              refine li_iconst 3 dX12_grammar_71 (by decide) ?_
              refine li_iload_n 1 dX12_grammar_72 rfl ?_
              refine li_imul dX12_grammar_73 ?_
              refine li_top (fun x51 ex51 => ?_)
              have z3 : (3 : Int32).toInt = 3 := rfl
              try (have tx51 : x51.toInt = 3 * (x38 : Int32).toInt := tl_mul ex51 (show -2147483648 ≤ 3 * (x38 : Int32).toInt ∧ 3 * (x38 : Int32).toInt ≤ 2147483647 by omega))
              refine li_aload_n 2 dX12_grammar_74 rfl ?_
              refine li_bipush 97 dX12_grammar_75 (by decide) ?_
              refine li_bipush 7 dX12_grammar_77 (by decide) ?_
              refine li_iconst (-1) dX12_grammar_79 (by decide) ?_
              have z97 : (97 : Int32).toInt = 97 := rfl
              have z7 : (7 : Int32).toInt = 7 := rfl
              have zm1 : ((-1) : Int32).toInt = -1 := rfl
              refine li_callV (n := 3) (As := [.int 97, .int 7, .int (-1)]) dX12_grammar_80 (k_X12_oneOfW (d - 1) (by omega) 97 7 (-1) M42 hJ (by omega) (by omega)) (by omega) (Nat.le_of_ble_eq_true rfl) w_1593 w_1595 w_46 w_112 w_1596 (by decide +kernel) rfl (by decide) sh_175 rfl rfl (Nat.le_of_ble_eq_true rfl) (fun r M53 h54 => ?_)
              obtain ⟨⟨x52, rfl, qx52⟩, h54, jM53⟩ := h54
              have gx52 := tl_rg x52
              have hf := li_fs_trans hf h54 (fun i k => fun h => Or.elim h (fun h => Or.inr (Or.inr (Or.inr (Or.inr (Or.inr (Or.inr (Or.inl h))))))) (fun h => Or.inr (Or.inr (Or.inr (Or.inr (Or.inr (Or.inr (Or.inr (Or.inl h)))))))))
              have hJ := jM53
              have rM53_15 := J_sl15 (M := M53) hJ
              refine li_iast dX12_grammar_83 (by decide) sh_194 (tl_in (by omega)) ?_
              refine li_nm (fun M55 eM55 => ?_)
              have hf := li_fs_ui hf (Or.inr (Or.inl rfl)) eM55
              have hJ := hJ.st (by decide) (li_el_free (by unfold li_led; omega) (by decide) (by decide) (by unfold li_rq; omega)) eM55
              have rM55_15 := J_sl15 (M := M55) hJ
              have mM55_15 : (M55.1 175 15).toInt = (M53.1 175 15).toInt := by rw [eM55, li_ui_at, if_neg (by decide)]
              refine li_aload_n 2 dX12_grammar_84 rfl ?_
              refine li_getr (k := 37) (N := 52) (T := TX12) (C0 := RX12) dX12_grammar_85 (by decide) sh_175 rfl rfl (by decide) (by decide) li_in12 w_1441 ?_
              refine li_iconst 3 dX12_grammar_88 (by decide) ?_
              refine li_iload_n 1 dX12_grammar_89 rfl ?_
              refine li_imul dX12_grammar_90 ?_
              refine li_top (fun x56 ex56 => ?_)
              have z3 : (3 : Int32).toInt = 3 := rfl
              try (have tx56 : x56.toInt = 3 * (x38 : Int32).toInt := tl_mul ex56 (show -2147483648 ≤ 3 * (x38 : Int32).toInt ∧ 3 * (x38 : Int32).toInt ≤ 2147483647 by omega))
              refine li_iconst 1 dX12_grammar_91 (by decide) ?_
              refine li_iadd dX12_grammar_92 ?_
              refine li_top (fun x57 ex57 => ?_)
              have z1 : (1 : Int32).toInt = 1 := rfl
              try (have tx57 : x57.toInt = (x56 : Int32).toInt + (1 : Int32).toInt := tl_add ex57 (by omega))
              refine li_aload_n 2 dX12_grammar_93 rfl ?_
              refine li_bipush 97 dX12_grammar_94 (by decide) ?_
              refine li_bipush 7 dX12_grammar_96 (by decide) ?_
              refine li_iconst (-1) dX12_grammar_98 (by decide) ?_
              have z97 : (97 : Int32).toInt = 97 := rfl
              have z7 : (7 : Int32).toInt = 7 := rfl
              have zm1 : ((-1) : Int32).toInt = -1 := rfl
              refine li_callV (n := 3) (As := [.int 97, .int 7, .int (-1)]) dX12_grammar_99 (k_X12_oneOfW (d - 1) (by omega) 97 7 (-1) M55 hJ (by omega) (by omega)) (by omega) (Nat.le_of_ble_eq_true rfl) w_1593 w_1595 w_46 w_112 w_1596 (by decide +kernel) rfl (by decide) sh_175 rfl rfl (Nat.le_of_ble_eq_true rfl) (fun r M59 h60 => ?_)
              obtain ⟨⟨x58, rfl, qx58⟩, h60, jM59⟩ := h60
              have gx58 := tl_rg x58
              have hf := li_fs_trans hf h60 (fun i k => fun h => Or.elim h (fun h => Or.inr (Or.inr (Or.inr (Or.inr (Or.inr (Or.inr (Or.inl h))))))) (fun h => Or.inr (Or.inr (Or.inr (Or.inr (Or.inr (Or.inr (Or.inr (Or.inl h)))))))))
              have hJ := jM59
              have rM59_15 := J_sl15 (M := M59) hJ
              refine li_iast dX12_grammar_102 (by decide) sh_194 (tl_in (by omega)) ?_
              refine li_nm (fun M61 eM61 => ?_)
              have hf := li_fs_ui hf (Or.inr (Or.inl rfl)) eM61
              have hJ := hJ.st (by decide) (li_el_free (by unfold li_led; omega) (by decide) (by decide) (by unfold li_rq; omega)) eM61
              have rM61_15 := J_sl15 (M := M61) hJ
              have mM61_15 : (M61.1 175 15).toInt = (M59.1 175 15).toInt := by rw [eM61, li_ui_at, if_neg (by decide)]
              refine li_aload_n 2 dX12_grammar_103 rfl ?_
              refine li_bipush 62 dX12_grammar_104 (by decide) ?_
              have z62 : (62 : Int32).toInt = 62 := rfl
              refine li_callV (n := 1) (As := [.int 62]) dX12_grammar_106 (k_X12_needW (d - 1) (by omega) 62 M61 hJ (by omega)) (by omega) (Nat.le_of_ble_eq_true rfl) w_1601 w_1603 w_48 w_112 w_1604 (by decide +kernel) rfl (by decide) sh_175 rfl rfl (Nat.le_of_ble_eq_true rfl) (fun r M63 h64 => ?_)
              obtain ⟨rfl, h64, jM63, nM63⟩ := h64
              have hf := li_fs_trans hf h64 (fun i k => fun h => Or.elim h (fun h => Or.inr (Or.inr (Or.inr (Or.inr (Or.inr (Or.inr (Or.inl h))))))) (fun h => Or.inr (Or.inr (Or.inr (Or.inr (Or.inr (Or.inr (Or.inr (Or.inl h)))))))))
              have hJ := jM63
              have rM63_15 := J_sl15 (M := M63) hJ
              refine li_aload_n 2 dX12_grammar_109 rfl ?_
              refine li_getr (k := 37) (N := 52) (T := TX12) (C0 := RX12) dX12_grammar_110 (by decide) sh_175 rfl rfl (by decide) (by decide) li_in12 w_1441 ?_
              refine li_iconst 3 dX12_grammar_113 (by decide) ?_
              refine li_iload_n 1 dX12_grammar_114 rfl ?_
              refine li_imul dX12_grammar_115 ?_
              refine li_top (fun x65 ex65 => ?_)
              have z3 : (3 : Int32).toInt = 3 := rfl
              try (have tx65 : x65.toInt = 3 * (x38 : Int32).toInt := tl_mul ex65 (show -2147483648 ≤ 3 * (x38 : Int32).toInt ∧ 3 * (x38 : Int32).toInt ≤ 2147483647 by omega))
              refine li_iconst 2 dX12_grammar_116 (by decide) ?_
              refine li_iadd dX12_grammar_117 ?_
              refine li_top (fun x66 ex66 => ?_)
              have z2 : (2 : Int32).toInt = 2 := rfl
              try (have tx66 : x66.toInt = (x65 : Int32).toInt + (2 : Int32).toInt := tl_add ex66 (by omega))
              refine li_aload_n 2 dX12_grammar_118 rfl ?_
              refine li_bipush 97 dX12_grammar_119 (by decide) ?_
              refine li_bipush 7 dX12_grammar_121 (by decide) ?_
              refine li_iconst (-1) dX12_grammar_123 (by decide) ?_
              have z97 : (97 : Int32).toInt = 97 := rfl
              have z7 : (7 : Int32).toInt = 7 := rfl
              have zm1 : ((-1) : Int32).toInt = -1 := rfl
              refine li_callV (n := 3) (As := [.int 97, .int 7, .int (-1)]) dX12_grammar_124 (k_X12_oneOfW (d - 1) (by omega) 97 7 (-1) M63 hJ (by omega) (by omega)) (by omega) (Nat.le_of_ble_eq_true rfl) w_1593 w_1595 w_46 w_112 w_1596 (by decide +kernel) rfl (by decide) sh_175 rfl rfl (Nat.le_of_ble_eq_true rfl) (fun r M68 h69 => ?_)
              obtain ⟨⟨x67, rfl, qx67⟩, h69, jM68⟩ := h69
              have gx67 := tl_rg x67
              have hf := li_fs_trans hf h69 (fun i k => fun h => Or.elim h (fun h => Or.inr (Or.inr (Or.inr (Or.inr (Or.inr (Or.inr (Or.inl h))))))) (fun h => Or.inr (Or.inr (Or.inr (Or.inr (Or.inr (Or.inr (Or.inr (Or.inl h)))))))))
              have hJ := jM68
              have rM68_15 := J_sl15 (M := M68) hJ
              refine li_iast dX12_grammar_127 (by decide) sh_194 (tl_in (by omega)) ?_
              refine li_nm (fun M70 eM70 => ?_)
              have hf := li_fs_ui hf (Or.inr (Or.inl rfl)) eM70
              have hJ := hJ.st (by decide) (li_el_free (by unfold li_led; omega) (by decide) (by decide) (by unfold li_rq; omega)) eM70
              have rM70_15 := J_sl15 (M := M70) hJ
              have mM70_15 : (M70.1 175 15).toInt = (M68.1 175 15).toInt := by rw [eM70, li_ui_at, if_neg (by decide)]
              refine li_pick [0, 1, 2] [(2, .int x37), (1, .int x38), (0, .ref (Z.2.2 175))] rfl ?_
              exact J128  M70 hf hJ (by omega)
            · have tc45 : x38.toInt = 10 := tl_eq c45
              refine li_aload_n 2 dX12_grammar_56 rfl ?_
              refine li_aload_n 2 dX12_grammar_57 rfl ?_
              refine li_geti (k := 14) (N := 52) (T := TX12) (C0 := RX12) dX12_grammar_58 (by decide) sh_175 rfl rfl (by decide) li_in12 w_1418 ?_
              refine li_top (fun x71 ex71 => ?_)
              have gx71 : 0 ≤ x71.toInt ∧ x71.toInt ≤ 81 := by rw [ex71]; exact J_sl14 hJ
              have mx71 : x71.toInt = (M42.1 175 14).toInt := tl_slot ex71
              refine li_callV (n := 1) (As := [.int x71]) dX12_grammar_61 (k_X12_faultW (d - 1) (by omega) x71 M42 hJ (by omega)) (by omega) (Nat.le_of_ble_eq_true rfl) w_1585 w_1587 w_44 w_112 w_1588 (by decide +kernel) rfl (by decide) sh_175 rfl rfl (Nat.le_of_ble_eq_true rfl) (fun r M73 h74 => ?_)
              obtain ⟨rfl, h74, jM73, nM73⟩ := h74
              have hf := li_fs_trans hf h74 (fun i k => fun h => Or.inr (Or.inr (Or.inr (Or.inr (Or.inr (Or.inr (Or.inr (Or.inl h))))))))
              have hJ := jM73
              have rM73_15 := J_sl15 (M := M73) hJ
              refine li_goto 128 dX12_grammar_64 (by decide) ?_
              refine li_pick [0, 1, 2] [(2, .int x37), (1, .int x38), (0, .ref (Z.2.2 175))] rfl ?_
              exact J128  M73 hf hJ (by omega)
          · skip
            refine li_if_eq 141 dX12_grammar_47 (by decide) (fun c => ?_) (fun c => absurd rfl c)
            refine li_pick [0, 1, 2] [(2, .int x37), (1, .int x38), (0, .ref (Z.2.2 175))] rfl ?_
            exact J141 x37 x38 M42 hf hJ (by omega)
    have z0 : (0 : Int32).toInt = 0 := rfl
    exact L39 _ x9 0 M10 (Nat.lt_succ_self _) hf hJ (by omega)
  refine li_if_le 37 dX12_grammar_30 (by decide) (fun c8 => ?_) (fun c8 => ?_)
  · have tc8 : x7.toInt ≤ 0 := tl_le c8
    refine li_iconst 0 dX12_grammar_37 (by decide) ?_
    refine li_pick [0, 1] [(1, .int 0), (0, .ref (Z.2.2 175))] rfl ?_
    have z0 : (0 : Int32).toInt = 0 := rfl
    exact J38 0 M6 hf hJ
  · have tc8 : 0 < x7.toInt := tl_nle c8
    refine li_iconst 1 dX12_grammar_33 (by decide) ?_
    refine li_goto 38 dX12_grammar_34 (by decide) ?_
    refine li_pick [0, 1] [(1, .int 0), (0, .ref (Z.2.2 175))] rfl ?_
    have z1 : (1 : Int32).toInt = 1 := rfl
    exact J38 1 M6 hf hJ
set_option maxRecDepth 100000 in
set_option maxHeartbeats 4000000 in
theorem k_X12_read {l : Launch} {Z : li_Z} (d : Nat) (hd : 3 ≤ d) (p1 p2 : Int32) (M0 : li_M) (hJ : li_J M0) : li_Met l Z YX12_read d [.ref (Z.2.2 175), .int p1, .int p2] M0 (fun r M' => (∃ x : Int32, r = some (.int x)) ∧ li_fs (fun i k => i = 197 ∨ (i = 175 ∧ k = 10) ∨ (i = 175 ∧ k = 43)) M0 M' ∧ li_J M') := by
  refine li_enter (by decide +kernel) (Nat.le_of_ble_eq_true rfl) ?_
  show li_T l Z YX12_read d 0 [(0, .ref (Z.2.2 175)), (1, .int p1), (2, .int p2)] [] M0 _
  have hf : li_fs (fun i k => i = 197 ∨ (i = 175 ∧ k = 10) ∨ (i = 175 ∧ k = 43)) M0 M0 := li_fs_refl
  have gp1 := tl_rg p1
  have gp2 := tl_rg p2
  have rM0_1 := J_sl1 (M := M0) hJ
  refine li_aload_n 0 dX12_read_0 rfl ?_
  refine li_iconst 0 dX12_read_1 (by decide) ?_
  refine li_puti (k := 10) (N := 52) (T := TX12) (C0 := RX12) dX12_read_2 (by decide) sh_175 rfl rfl (by decide) li_in12 tyX12_ok nmX12 rfl rfl rfl rfl w_1414 ?_
  refine li_nm (fun M1 eM1 => ?_)
  have hf := li_fs_ui hf (Or.inr (Or.inl ⟨rfl, rfl⟩)) eM1
  have z0 : (0 : Int32).toInt = 0 := rfl
  have hJ := hJ.put (k := 10) (by decide) (rg_free rfl) eM1
  have rM1_1 := J_sl1 (M := M1) hJ
  have mM1_1 : (M1.1 175 1).toInt = (M0.1 175 1).toInt := by rw [eM1, li_ui_at, if_pos rfl, if_neg (by decide)]
  refine li_aload_n 0 dX12_read_5 rfl ?_
  refine li_iload_n 1 dX12_read_6 rfl ?_
  refine li_callV (n := 1) (As := [.int p1]) dX12_read_7 (k_X12_isOne (d - 1) (by omega) p1 M1 hJ ) (by omega) (Nat.le_of_ble_eq_true rfl) w_1648 w_1650 w_56 w_112 w_1651 (by decide +kernel) rfl (by decide) sh_175 rfl rfl (Nat.le_of_ble_eq_true rfl) (fun r M3 h4 => ?_)
  obtain ⟨qx2, h4, jM3⟩ := h4
  have hf := li_fs_trans hf h4 (fun i k h => False.elim h)
  have hJ := jM3
  have rM3_1 := J_sl1 (M := M3) hJ
  have mM3_1 : (M3.1 175 1).toInt = (M1.1 175 1).toInt := tl_slot (h4.1 175 1 id)
  rcases qx2 with ⟨rfl, qx2⟩ | ⟨rfl, qx2⟩
  · skip
    refine li_if_eq 24 dX12_read_10 (by decide) (fun c => absurd c (by decide)) (fun c => ?_)
    refine li_iload_n 2 dX12_read_13 rfl ?_
    refine li_iconst 0 dX12_read_14 (by decide) ?_
    refine li_sipush 9999 dX12_read_15 (by decide) ?_
    have z0 : (0 : Int32).toInt = 0 := rfl
    have z9999 : (9999 : Int32).toInt = 9999 := rfl
    refine li_callS (n := 3) (As := [.int p2, .int 0, .int 9999]) dX12_read_18 (k_X12_in (d - 1) (by omega) p2 0 9999 M3 hJ ) (by omega) (Nat.le_of_ble_eq_true rfl) w_1570 w_1571 w_112 w_1572 (by decide +kernel) rfl rfl (Nat.le_of_ble_eq_true rfl) (fun r M7 h8 => ?_)
    obtain ⟨qx6, h8, jM7⟩ := h8
    have hf := li_fs_trans hf h8 (fun i k h => False.elim h)
    have hJ := jM7
    have rM7_1 := J_sl1 (M := M7) hJ
    have mM7_1 : (M7.1 175 1).toInt = (M3.1 175 1).toInt := tl_slot (h8.1 175 1 id)
    rcases qx6 with ⟨rfl, qx6⟩ | ⟨rfl, qx6⟩
    · skip
      refine li_if_ne 26 dX12_read_21 (by decide) (fun c => ?_) (fun c => absurd c (by decide))
      refine li_aload_n 0 dX12_read_26 rfl ?_
      refine li_getr (k := 42) (N := 52) (T := TX12) (C0 := RX12) dX12_read_27 (by decide) sh_175 rfl rfl (by decide) (by decide) li_in12 w_1446 ?_
      refine li_iload_n 1 dX12_read_30 rfl ?_
      refine li_iload_n 2 dX12_read_31 rfl ?_
      refine li_iast dX12_read_32 (by decide) sh_197 (tl_in (by omega)) ?_
      refine li_nm (fun M10 eM10 => ?_)
      have hf := li_fs_ui hf (Or.inl rfl) eM10
      have hJ := hJ.st (by decide) (li_el_free (by unfold li_led; omega) (by decide) (by decide) (by unfold li_rq; omega)) eM10
      have rM10_1 := J_sl1 (M := M10) hJ
      have mM10_1 : (M10.1 175 1).toInt = (M7.1 175 1).toInt := by rw [eM10, li_ui_at, if_neg (by decide)]
      refine li_aload_n 0 dX12_read_33 rfl ?_
      refine li_dup dX12_read_34 rfl ?_
      refine li_geti (k := 43) (N := 52) (T := TX12) (C0 := RX12) dX12_read_35 (by decide) sh_175 rfl rfl (by decide) li_in12 w_1447 ?_
      refine li_top (fun x11 ex11 => ?_)
      have gx11 := tl_rg x11
      have mx11 : x11.toInt = (M10.1 175 43).toInt := tl_slot ex11
      refine li_iconst 1 dX12_read_38 (by decide) ?_
      refine li_iload_n 1 dX12_read_39 rfl ?_
      refine li_ishl dX12_read_40 ?_
      refine li_top (fun x12 ex12 => ?_)
      have z1 : (1 : Int32).toInt = 1 := rfl
      try (have tx12 := tl_shl255 ex12 (by omega))
      refine li_ior dX12_read_41 ?_
      refine li_top (fun x13 ex13 => ?_)
      try (have tx13 := tl_or255 ex13 (by omega) (by omega))
      refine li_puti (k := 43) (N := 52) (T := TX12) (C0 := RX12) dX12_read_42 (by decide) sh_175 rfl rfl (by decide) li_in12 tyX12_ok nmX12 rfl rfl rfl rfl w_1447 ?_
      refine li_nm (fun M14 eM14 => ?_)
      have hf := li_fs_ui hf (Or.inr (Or.inr (⟨rfl, rfl⟩))) eM14
      have hJ := hJ.put (k := 43) (by decide) (rg_free rfl) eM14
      have rM14_1 := J_sl1 (M := M14) hJ
      have mM14_1 : (M14.1 175 1).toInt = (M10.1 175 1).toInt := by rw [eM14, li_ui_at, if_pos rfl, if_neg (by decide)]
      refine li_aload_n 0 dX12_read_45 rfl ?_
      refine li_geti (k := 43) (N := 52) (T := TX12) (C0 := RX12) dX12_read_46 (by decide) sh_175 rfl rfl (by decide) li_in12 w_1447 ?_
      refine li_top (fun x15 ex15 => ?_)
      have gx15 := tl_rg x15
      have mx15 : x15.toInt = (M14.1 175 43).toInt := tl_slot ex15
      refine li_callS (n := 1) (As := [.int x15]) dX12_read_49 (k_J6_bitCount_0f7a4 (d - 1) (by omega) x15 M14) (by omega) (Nat.le_of_ble_eq_true rfl) w_1696 w_822 w_123 w_823 (by decide +kernel) rfl rfl (Nat.le_of_ble_eq_true rfl) (fun r M17 h18 => ?_)
      obtain ⟨⟨x16, rfl⟩, h18⟩ := h18
      have eM17 : M17 = M14 := li_fr_none h18
      have hf : li_fs (fun i k => i = 197 ∨ (i = 175 ∧ k = 10) ∨ (i = 175 ∧ k = 43)) M0 M17 := by rw [eM17]; exact hf
      have hJ : li_J M17 := by rw [eM17]; exact hJ
      have rM17_1 := J_sl1 (M := M17) hJ
      have mM17_1 : (M17.1 175 1).toInt = (M14.1 175 1).toInt := by rw [eM17]
      have gx16 := tl_rg x16
      exact li_iret dX12_read_52 rfl rfl ⟨⟨_, rfl⟩, hf, hJ⟩
    · skip
      refine li_if_ne 26 dX12_read_21 (by decide) (fun c => absurd rfl c) (fun c => ?_)
      refine li_iconst (-1) dX12_read_24 (by decide) ?_
      have zm1 : ((-1) : Int32).toInt = -1 := rfl
      exact li_iret dX12_read_25 rfl rfl ⟨⟨_, rfl⟩, hf, hJ⟩
  · skip
    refine li_if_eq 24 dX12_read_10 (by decide) (fun c => ?_) (fun c => absurd rfl c)
    refine li_iconst (-1) dX12_read_24 (by decide) ?_
    have zm1 : ((-1) : Int32).toInt = -1 := rfl
    exact li_iret dX12_read_25 rfl rfl ⟨⟨_, rfl⟩, hf, hJ⟩
set_option maxRecDepth 100000 in
set_option maxHeartbeats 4000000 in
theorem k_X12_forget {l : Launch} {Z : li_Z} (d : Nat) (hd : 2 ≤ d) (M0 : li_M) (hJ : li_J M0) : li_Met l Z YX12_forget d [.ref (Z.2.2 175)] M0 (fun r M' => (∃ x : Int32, r = some (.int x)) ∧ li_fs (fun i k => (i = 175 ∧ k = 10) ∨ (i = 175 ∧ k = 43)) M0 M' ∧ li_J M') := by
  refine li_enter (by decide +kernel) (Nat.le_of_ble_eq_true rfl) ?_
  show li_T l Z YX12_forget d 0 [(0, .ref (Z.2.2 175))] [] M0 _
  have hf : li_fs (fun i k => (i = 175 ∧ k = 10) ∨ (i = 175 ∧ k = 43)) M0 M0 := li_fs_refl
  refine li_aload_n 0 dX12_forget_0 rfl ?_
  refine li_iconst 0 dX12_forget_1 (by decide) ?_
  refine li_puti (k := 10) (N := 52) (T := TX12) (C0 := RX12) dX12_forget_2 (by decide) sh_175 rfl rfl (by decide) li_in12 tyX12_ok nmX12 rfl rfl rfl rfl w_1414 ?_
  refine li_nm (fun M1 eM1 => ?_)
  have hf := li_fs_ui hf (Or.inl ⟨rfl, rfl⟩) eM1
  have z0 : (0 : Int32).toInt = 0 := rfl
  have hJ := hJ.put (k := 10) (by decide) (rg_free rfl) eM1
  refine li_aload_n 0 dX12_forget_5 rfl ?_
  refine li_geti (k := 43) (N := 52) (T := TX12) (C0 := RX12) dX12_forget_6 (by decide) sh_175 rfl rfl (by decide) li_in12 w_1447 ?_
  refine li_top (fun x2 ex2 => ?_)
  have gx2 := tl_rg x2
  have mx2 : x2.toInt = (M1.1 175 43).toInt := tl_slot ex2
  refine li_callS (n := 1) (As := [.int x2]) dX12_forget_9 (k_J6_bitCount_0f7a4 (d - 1) (by omega) x2 M1) (by omega) (Nat.le_of_ble_eq_true rfl) w_1696 w_822 w_123 w_823 (by decide +kernel) rfl rfl (Nat.le_of_ble_eq_true rfl) (fun r M4 h5 => ?_)
  obtain ⟨⟨x3, rfl⟩, h5⟩ := h5
  have eM4 : M4 = M1 := li_fr_none h5
  have hf : li_fs (fun i k => (i = 175 ∧ k = 10) ∨ (i = 175 ∧ k = 43)) M0 M4 := by rw [eM4]; exact hf
  have hJ : li_J M4 := by rw [eM4]; exact hJ
  have gx3 := tl_rg x3
  refine li_istore_n [(1, .int x3), (0, .ref (Z.2.2 175))] dX12_forget_12 (by decide) rfl ?_
  refine li_aload_n 1 dX12_forget_13 rfl ?_
  refine li_iconst 0 dX12_forget_14 (by decide) ?_
  refine li_puti (k := 43) (N := 52) (T := TX12) (C0 := RX12) dX12_forget_15 (by decide) sh_175 rfl rfl (by decide) li_in12 tyX12_ok nmX12 rfl rfl rfl rfl w_1447 ?_
  refine li_nm (fun M6 eM6 => ?_)
  have hf := li_fs_ui hf (Or.inr (⟨rfl, rfl⟩)) eM6
  have z0 : (0 : Int32).toInt = 0 := rfl
  have hJ := hJ.put (k := 43) (by decide) (rg_free rfl) eM6
  refine li_iload_n 0 dX12_forget_18 rfl ?_
  exact li_iret dX12_forget_19 rfl rfl ⟨⟨_, rfl⟩, hf, hJ⟩
