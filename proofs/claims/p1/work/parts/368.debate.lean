theorem w_92 : (Jvm.Cond.selects "ClockForTalkModel" ({ cls := "ClockForTalkModel", name := "layWins", desc := "(I)V" } : Jvm.MethodName) ({ cls := "ClockForTalkModel", name := "layWins", desc := "(I)V" } : Jvm.MethodName)) ∈ li_ws := li_mem 92 (by decide +kernel) (by decide +kernel)
theorem w_1438 : (Jvm.Cond.fieldLink "ClockForTalkModel" (60 : Nat) "ClockForTalkModel" "wins" "[Z") ∈ li_ws := li_mem 1438 (by decide +kernel) (by decide +kernel)
theorem w_1439 : (Jvm.Cond.fieldLink "ClockForTalkModel" (365 : Nat) "ClockForTalkModel" "laidFor" "I") ∈ li_ws := li_mem 1439 (by decide +kernel) (by decide +kernel)
theorem w_1440 : (Jvm.Cond.fieldLink "ClockForTalkModel" (64 : Nat) "ClockForTalkModel" "lines" "[I") ∈ li_ws := li_mem 1440 (by decide +kernel) (by decide +kernel)
theorem w_1441 : (Jvm.Cond.fieldLink "ClockForTalkModel" (67 : Nat) "ClockForTalkModel" "newLines" "[I") ∈ li_ws := li_mem 1441 (by decide +kernel) (by decide +kernel)
theorem w_1442 : (Jvm.Cond.fieldLink "ClockForTalkModel" (377 : Nat) "ClockForTalkModel" "lineMany" "I") ∈ li_ws := li_mem 1442 (by decide +kernel) (by decide +kernel)
theorem w_1446 : (Jvm.Cond.fieldLink "ClockForTalkModel" (76 : Nat) "ClockForTalkModel" "readAt" "[I") ∈ li_ws := li_mem 1446 (by decide +kernel) (by decide +kernel)
theorem w_1447 : (Jvm.Cond.fieldLink "ClockForTalkModel" (392 : Nat) "ClockForTalkModel" "readBits" "I") ∈ li_ws := li_mem 1447 (by decide +kernel) (by decide +kernel)
theorem w_1888 : (Jvm.Cond.methodLink "ClockForTalkModel" (371 : Nat) ({ cls := "ClockForTalkModel", name := "isLeft", desc := "(I)Z" } : Jvm.MethodName)) ∈ li_ws := li_mem 1888 (by decide +kernel) (by decide +kernel)
theorem w_1889 : (Jvm.Cond.static ({ cls := "ClockForTalkModel", name := "isLeft", desc := "(I)Z" } : Jvm.MethodName)) ∈ li_ws := li_mem 1889 (by decide +kernel) (by decide +kernel)
theorem w_1890 : (Jvm.Cond.code ({ cls := "ClockForTalkModel", name := "isLeft", desc := "(I)Z" } : Jvm.MethodName) prog_13_method_85_code (1 : Nat) (Option.some Jvm.ClassFile.FieldType.boolean)) ∈ li_ws := li_mem 1890 (by decide +kernel) (by decide +kernel)
theorem w_1891 : (Jvm.Cond.methodLink "ClockForTalkModel" (374 : Nat) ({ cls := "ClockForTalkModel", name := "layWins", desc := "(I)V" } : Jvm.MethodName)) ∈ li_ws := li_mem 1891 (by decide +kernel) (by decide +kernel)
theorem w_1893 : (Jvm.Cond.instanceMethod ({ cls := "ClockForTalkModel", name := "layWins", desc := "(I)V" } : Jvm.MethodName)) ∈ li_ws := li_mem 1893 (by decide +kernel) (by decide +kernel)
theorem w_1894 : (Jvm.Cond.code ({ cls := "ClockForTalkModel", name := "layWins", desc := "(I)V" } : Jvm.MethodName) prog_13_method_84_code (7 : Nat) (Option.none : Option Jvm.ClassFile.FieldType)) ∈ li_ws := li_mem 1894 (by decide +kernel) (by decide +kernel)
theorem w_1895 : (Jvm.Cond.methodLink "ClockForTalkModel" (368 : Nat) ({ cls := "ClockForTalkModel", name := "place", desc := "(III)I" } : Jvm.MethodName)) ∈ li_ws := li_mem 1895 (by decide +kernel) (by decide +kernel)
theorem w_1896 : (Jvm.Cond.static ({ cls := "ClockForTalkModel", name := "place", desc := "(III)I" } : Jvm.MethodName)) ∈ li_ws := li_mem 1896 (by decide +kernel) (by decide +kernel)
theorem w_1897 : (Jvm.Cond.code ({ cls := "ClockForTalkModel", name := "place", desc := "(III)I" } : Jvm.MethodName) prog_13_method_83_code (3 : Nat) (Option.some Jvm.ClassFile.FieldType.int)) ∈ li_ws := li_mem 1897 (by decide +kernel) (by decide +kernel)
theorem dX12_place_0 : decode cX12_place 0 = .ok (.bipush 61, 2) := by decide +kernel
theorem dX12_place_2 : decode cX12_place 2 = .ok (.iload_n 0, 1) := by decide +kernel
theorem dX12_place_3 : decode cX12_place 3 = .ok (.imul, 1) := by decide +kernel
theorem dX12_place_4 : decode cX12_place 4 = .ok (.iload_n 1, 1) := by decide +kernel
theorem dX12_place_5 : decode cX12_place 5 = .ok (.iadd, 1) := by decide +kernel
theorem dX12_place_6 : decode cX12_place 6 = .ok (.bipush 10, 2) := by decide +kernel
theorem dX12_place_8 : decode cX12_place 8 = .ok (.imul, 1) := by decide +kernel
theorem dX12_place_9 : decode cX12_place 9 = .ok (.iload_n 2, 1) := by decide +kernel
theorem dX12_place_10 : decode cX12_place 10 = .ok (.iadd, 1) := by decide +kernel
theorem dX12_place_11 : decode cX12_place 11 = .ok (.ireturn, 1) := by decide +kernel
abbrev YX12_place : li_Y := (yX12_place, cX12_place, 3, (some .int))
theorem dX12_layWins_0 : decode cX12_layWins 0 = .ok (.aload_n 0, 1) := by decide +kernel
theorem dX12_layWins_1 : decode cX12_layWins 1 = .ok (.getfield 365, 3) := by decide +kernel
theorem dX12_layWins_4 : decode cX12_layWins 4 = .ok (.iload_n 1, 1) := by decide +kernel
theorem dX12_layWins_5 : decode cX12_layWins 5 = .ok (.if_icmp .ne 4, 3) := by decide +kernel
theorem dX12_layWins_8 : decode cX12_layWins 8 = .ok (.return_, 1) := by decide +kernel
theorem dX12_layWins_9 : decode cX12_layWins 9 = .ok (.aload_n 0, 1) := by decide +kernel
theorem dX12_layWins_10 : decode cX12_layWins 10 = .ok (.iload_n 1, 1) := by decide +kernel
theorem dX12_layWins_11 : decode cX12_layWins 11 = .ok (.putfield 365, 3) := by decide +kernel
theorem dX12_layWins_14 : decode cX12_layWins 14 = .ok (.iconst 0, 1) := by decide +kernel
theorem dX12_layWins_15 : decode cX12_layWins 15 = .ok (.istore_n 2, 1) := by decide +kernel
theorem dX12_layWins_16 : decode cX12_layWins 16 = .ok (.iload_n 2, 1) := by decide +kernel
theorem dX12_layWins_17 : decode cX12_layWins 17 = .ok (.bipush 120, 2) := by decide +kernel
theorem dX12_layWins_19 : decode cX12_layWins 19 = .ok (.if_icmp .gt 123, 3) := by decide +kernel
theorem dX12_layWins_22 : decode cX12_layWins 22 = .ok (.iconst 0, 1) := by decide +kernel
theorem dX12_layWins_23 : decode cX12_layWins 23 = .ok (.iload_n 2, 1) := by decide +kernel
theorem dX12_layWins_24 : decode cX12_layWins 24 = .ok (.bipush 61, 2) := by decide +kernel
theorem dX12_layWins_26 : decode cX12_layWins 26 = .ok (.isub, 1) := by decide +kernel
theorem dX12_layWins_27 : decode cX12_layWins 27 = .ok (.iconst 1, 1) := by decide +kernel
theorem dX12_layWins_28 : decode cX12_layWins 28 = .ok (.iadd, 1) := by decide +kernel
theorem dX12_layWins_29 : decode cX12_layWins 29 = .ok (.invokestatic 82, 3) := by decide +kernel
theorem dX12_layWins_32 : decode cX12_layWins 32 = .ok (.istore_n 3, 1) := by decide +kernel
theorem dX12_layWins_33 : decode cX12_layWins 33 = .ok (.iload_n 3, 1) := by decide +kernel
theorem dX12_layWins_34 : decode cX12_layWins 34 = .ok (.iload_n 2, 1) := by decide +kernel
theorem dX12_layWins_35 : decode cX12_layWins 35 = .ok (.bipush 60, 2) := by decide +kernel
theorem dX12_layWins_37 : decode cX12_layWins 37 = .ok (.invokestatic 208, 3) := by decide +kernel
theorem dX12_layWins_40 : decode cX12_layWins 40 = .ok (.if_icmp .gt 96, 3) := by decide +kernel
theorem dX12_layWins_43 : decode cX12_layWins 43 = .ok (.iconst 1, 1) := by decide +kernel
theorem dX12_layWins_44 : decode cX12_layWins 44 = .ok (.istore 4, 2) := by decide +kernel
theorem dX12_layWins_46 : decode cX12_layWins 46 = .ok (.iload 4, 2) := by decide +kernel
theorem dX12_layWins_48 : decode cX12_layWins 48 = .ok (.bipush 9, 2) := by decide +kernel
theorem dX12_layWins_50 : decode cX12_layWins 50 = .ok (.if_icmp .gt 80, 3) := by decide +kernel
theorem dX12_layWins_53 : decode cX12_layWins 53 = .ok (.iconst 0, 1) := by decide +kernel
theorem dX12_layWins_54 : decode cX12_layWins 54 = .ok (.istore 5, 2) := by decide +kernel
theorem dX12_layWins_56 : decode cX12_layWins 56 = .ok (.iload 4, 2) := by decide +kernel
theorem dX12_layWins_58 : decode cX12_layWins 58 = .ok (.istore 6, 2) := by decide +kernel
theorem dX12_layWins_60 : decode cX12_layWins 60 = .ok (.iload 6, 2) := by decide +kernel
theorem dX12_layWins_62 : decode cX12_layWins 62 = .ok (.iload_n 1, 1) := by decide +kernel
theorem dX12_layWins_63 : decode cX12_layWins 63 = .ok (.iload_n 3, 1) := by decide +kernel
theorem dX12_layWins_64 : decode cX12_layWins 64 = .ok (.invokestatic 208, 3) := by decide +kernel
theorem dX12_layWins_67 : decode cX12_layWins 67 = .ok (.if_icmp .gt 41, 3) := by decide +kernel
theorem dX12_layWins_70 : decode cX12_layWins 70 = .ok (.iload 5, 2) := by decide +kernel
theorem dX12_layWins_72 : decode cX12_layWins 72 = .ok (.ifCond .ne 23, 3) := by decide +kernel
theorem dX12_layWins_75 : decode cX12_layWins 75 = .ok (.aload_n 0, 1) := by decide +kernel
theorem dX12_layWins_76 : decode cX12_layWins 76 = .ok (.getfield 60, 3) := by decide +kernel
theorem dX12_layWins_79 : decode cX12_layWins 79 = .ok (.iload_n 2, 1) := by decide +kernel
theorem dX12_layWins_80 : decode cX12_layWins 80 = .ok (.iload_n 3, 1) := by decide +kernel
theorem dX12_layWins_81 : decode cX12_layWins 81 = .ok (.isub, 1) := by decide +kernel
theorem dX12_layWins_82 : decode cX12_layWins 82 = .ok (.iload_n 3, 1) := by decide +kernel
theorem dX12_layWins_83 : decode cX12_layWins 83 = .ok (.iload 6, 2) := by decide +kernel
theorem dX12_layWins_85 : decode cX12_layWins 85 = .ok (.isub, 1) := by decide +kernel
theorem dX12_layWins_86 : decode cX12_layWins 86 = .ok (.iload 6, 2) := by decide +kernel
theorem dX12_layWins_88 : decode cX12_layWins 88 = .ok (.invokestatic 368, 3) := by decide +kernel
theorem dX12_layWins_91 : decode cX12_layWins 91 = .ok (.baload, 1) := by decide +kernel
theorem dX12_layWins_92 : decode cX12_layWins 92 = .ok (.ifCond .ne 7, 3) := by decide +kernel
theorem dX12_layWins_95 : decode cX12_layWins 95 = .ok (.iconst 1, 1) := by decide +kernel
theorem dX12_layWins_96 : decode cX12_layWins 96 = .ok (.goto 4, 3) := by decide +kernel
theorem dX12_layWins_99 : decode cX12_layWins 99 = .ok (.iconst 0, 1) := by decide +kernel
theorem dX12_layWins_100 : decode cX12_layWins 100 = .ok (.istore 5, 2) := by decide +kernel
theorem dX12_layWins_102 : decode cX12_layWins 102 = .ok (.iinc 6 1, 3) := by decide +kernel
theorem dX12_layWins_105 : decode cX12_layWins 105 = .ok (.goto (-45), 3) := by decide +kernel
theorem dX12_layWins_108 : decode cX12_layWins 108 = .ok (.aload_n 0, 1) := by decide +kernel
theorem dX12_layWins_109 : decode cX12_layWins 109 = .ok (.getfield 60, 3) := by decide +kernel
theorem dX12_layWins_112 : decode cX12_layWins 112 = .ok (.iload_n 3, 1) := by decide +kernel
theorem dX12_layWins_113 : decode cX12_layWins 113 = .ok (.iload_n 2, 1) := by decide +kernel
theorem dX12_layWins_114 : decode cX12_layWins 114 = .ok (.iload_n 3, 1) := by decide +kernel
theorem dX12_layWins_115 : decode cX12_layWins 115 = .ok (.isub, 1) := by decide +kernel
theorem dX12_layWins_116 : decode cX12_layWins 116 = .ok (.iload 4, 2) := by decide +kernel
theorem dX12_layWins_118 : decode cX12_layWins 118 = .ok (.invokestatic 368, 3) := by decide +kernel
theorem dX12_layWins_121 : decode cX12_layWins 121 = .ok (.iload 5, 2) := by decide +kernel
theorem dX12_layWins_123 : decode cX12_layWins 123 = .ok (.bastore, 1) := by decide +kernel
theorem dX12_layWins_124 : decode cX12_layWins 124 = .ok (.iinc 4 1, 3) := by decide +kernel
theorem dX12_layWins_127 : decode cX12_layWins 127 = .ok (.goto (-81), 3) := by decide +kernel
theorem dX12_layWins_130 : decode cX12_layWins 130 = .ok (.iinc 3 1, 3) := by decide +kernel
theorem dX12_layWins_133 : decode cX12_layWins 133 = .ok (.goto (-100), 3) := by decide +kernel
theorem dX12_layWins_136 : decode cX12_layWins 136 = .ok (.iinc 2 1, 3) := by decide +kernel
theorem dX12_layWins_139 : decode cX12_layWins 139 = .ok (.goto (-123), 3) := by decide +kernel
theorem dX12_layWins_142 : decode cX12_layWins 142 = .ok (.return_, 1) := by decide +kernel
abbrev YX12_layWins : li_Y := (yX12_layWins, cX12_layWins, 7, none)
theorem dX12_debate_0 : decode cX12_debate 0 = .ok (.aload_n 0, 1) := by decide +kernel
theorem dX12_debate_1 : decode cX12_debate 1 = .ok (.iconst 0, 1) := by decide +kernel
theorem dX12_debate_2 : decode cX12_debate 2 = .ok (.putfield 103, 3) := by decide +kernel
theorem dX12_debate_5 : decode cX12_debate 5 = .ok (.iload_n 1, 1) := by decide +kernel
theorem dX12_debate_6 : decode cX12_debate 6 = .ok (.invokestatic 371, 3) := by decide +kernel
theorem dX12_debate_9 : decode cX12_debate 9 = .ok (.ifCond .eq 20, 3) := by decide +kernel
theorem dX12_debate_12 : decode cX12_debate 12 = .ok (.iload_n 2, 1) := by decide +kernel
theorem dX12_debate_13 : decode cX12_debate 13 = .ok (.invokestatic 371, 3) := by decide +kernel
theorem dX12_debate_16 : decode cX12_debate 16 = .ok (.ifCond .eq 13, 3) := by decide +kernel
theorem dX12_debate_19 : decode cX12_debate 19 = .ok (.iload_n 3, 1) := by decide +kernel
theorem dX12_debate_20 : decode cX12_debate 20 = .ok (.iconst 1, 1) := by decide +kernel
theorem dX12_debate_21 : decode cX12_debate 21 = .ok (.bipush 9, 2) := by decide +kernel
theorem dX12_debate_23 : decode cX12_debate 23 = .ok (.invokestatic 113, 3) := by decide +kernel
theorem dX12_debate_26 : decode cX12_debate 26 = .ok (.ifCond .ne 5, 3) := by decide +kernel
theorem dX12_debate_29 : decode cX12_debate 29 = .ok (.iconst (-1), 1) := by decide +kernel
theorem dX12_debate_30 : decode cX12_debate 30 = .ok (.ireturn, 1) := by decide +kernel
theorem dX12_debate_31 : decode cX12_debate 31 = .ok (.aload_n 0, 1) := by decide +kernel
theorem dX12_debate_32 : decode cX12_debate 32 = .ok (.iload_n 3, 1) := by decide +kernel
theorem dX12_debate_33 : decode cX12_debate 33 = .ok (.invokevirtual 374, 3) := by decide +kernel
theorem dX12_debate_36 : decode cX12_debate 36 = .ok (.iconst 1, 1) := by decide +kernel
theorem dX12_debate_37 : decode cX12_debate 37 = .ok (.istore 4, 2) := by decide +kernel
theorem dX12_debate_39 : decode cX12_debate 39 = .ok (.iload 4, 2) := by decide +kernel
theorem dX12_debate_41 : decode cX12_debate 41 = .ok (.iload_n 3, 1) := by decide +kernel
theorem dX12_debate_42 : decode cX12_debate 42 = .ok (.iload_n 1, 1) := by decide +kernel
theorem dX12_debate_43 : decode cX12_debate 43 = .ok (.invokestatic 208, 3) := by decide +kernel
theorem dX12_debate_46 : decode cX12_debate 46 = .ok (.if_icmp .gt 27, 3) := by decide +kernel
theorem dX12_debate_49 : decode cX12_debate 49 = .ok (.aload_n 0, 1) := by decide +kernel
theorem dX12_debate_50 : decode cX12_debate 50 = .ok (.getfield 60, 3) := by decide +kernel
theorem dX12_debate_53 : decode cX12_debate 53 = .ok (.iload_n 2, 1) := by decide +kernel
theorem dX12_debate_54 : decode cX12_debate 54 = .ok (.iload_n 1, 1) := by decide +kernel
theorem dX12_debate_55 : decode cX12_debate 55 = .ok (.iload 4, 2) := by decide +kernel
theorem dX12_debate_57 : decode cX12_debate 57 = .ok (.isub, 1) := by decide +kernel
theorem dX12_debate_58 : decode cX12_debate 58 = .ok (.iload 4, 2) := by decide +kernel
theorem dX12_debate_60 : decode cX12_debate 60 = .ok (.invokestatic 368, 3) := by decide +kernel
theorem dX12_debate_63 : decode cX12_debate 63 = .ok (.baload, 1) := by decide +kernel
theorem dX12_debate_64 : decode cX12_debate 64 = .ok (.ifCond .eq 9, 3) := by decide +kernel
theorem dX12_debate_67 : decode cX12_debate 67 = .ok (.iinc 4 1, 3) := by decide +kernel
theorem dX12_debate_70 : decode cX12_debate 70 = .ok (.goto (-31), 3) := by decide +kernel
theorem dX12_debate_73 : decode cX12_debate 73 = .ok (.iload 4, 2) := by decide +kernel
theorem dX12_debate_75 : decode cX12_debate 75 = .ok (.iload_n 3, 1) := by decide +kernel
theorem dX12_debate_76 : decode cX12_debate 76 = .ok (.iload_n 1, 1) := by decide +kernel
theorem dX12_debate_77 : decode cX12_debate 77 = .ok (.invokestatic 208, 3) := by decide +kernel
theorem dX12_debate_80 : decode cX12_debate 80 = .ok (.if_icmp .gt 7, 3) := by decide +kernel
theorem dX12_debate_83 : decode cX12_debate 83 = .ok (.iconst 1, 1) := by decide +kernel
theorem dX12_debate_84 : decode cX12_debate 84 = .ok (.goto 4, 3) := by decide +kernel
theorem dX12_debate_87 : decode cX12_debate 87 = .ok (.iconst 0, 1) := by decide +kernel
theorem dX12_debate_88 : decode cX12_debate 88 = .ok (.istore 5, 2) := by decide +kernel
theorem dX12_debate_90 : decode cX12_debate 90 = .ok (.aload_n 0, 1) := by decide +kernel
theorem dX12_debate_91 : decode cX12_debate 91 = .ok (.iconst 0, 1) := by decide +kernel
theorem dX12_debate_92 : decode cX12_debate 92 = .ok (.putfield 107, 3) := by decide +kernel
theorem dX12_debate_95 : decode cX12_debate 95 = .ok (.aload_n 0, 1) := by decide +kernel
theorem dX12_debate_96 : decode cX12_debate 96 = .ok (.iload 5, 2) := by decide +kernel
theorem dX12_debate_98 : decode cX12_debate 98 = .ok (.ifCond .eq 8, 3) := by decide +kernel
theorem dX12_debate_101 : decode cX12_debate 101 = .ok (.iload 4, 2) := by decide +kernel
theorem dX12_debate_103 : decode cX12_debate 103 = .ok (.goto 4, 3) := by decide +kernel
theorem dX12_debate_106 : decode cX12_debate 106 = .ok (.iconst 0, 1) := by decide +kernel
theorem dX12_debate_107 : decode cX12_debate 107 = .ok (.invokevirtual 308, 3) := by decide +kernel
theorem dX12_debate_110 : decode cX12_debate 110 = .ok (.iload 5, 2) := by decide +kernel
theorem dX12_debate_112 : decode cX12_debate 112 = .ok (.ifCond .eq 7, 3) := by decide +kernel
theorem dX12_debate_115 : decode cX12_debate 115 = .ok (.iconst 1, 1) := by decide +kernel
theorem dX12_debate_116 : decode cX12_debate 116 = .ok (.goto 4, 3) := by decide +kernel
theorem dX12_debate_119 : decode cX12_debate 119 = .ok (.iconst 0, 1) := by decide +kernel
theorem dX12_debate_120 : decode cX12_debate 120 = .ok (.ireturn, 1) := by decide +kernel
abbrev YX12_debate : li_Y := (yX12_debate, cX12_debate, 6, (some .int))
theorem dX12_enough_0 : decode cX12_enough 0 = .ok (.aload_n 0, 1) := by decide +kernel
theorem dX12_enough_1 : decode cX12_enough 1 = .ok (.iconst 0, 1) := by decide +kernel
theorem dX12_enough_2 : decode cX12_enough 2 = .ok (.putfield 103, 3) := by decide +kernel
theorem dX12_enough_5 : decode cX12_enough 5 = .ok (.iload_n 1, 1) := by decide +kernel
theorem dX12_enough_6 : decode cX12_enough 6 = .ok (.invokestatic 371, 3) := by decide +kernel
theorem dX12_enough_9 : decode cX12_enough 9 = .ok (.ifCond .eq 13, 3) := by decide +kernel
theorem dX12_enough_12 : decode cX12_enough 12 = .ok (.iload_n 2, 1) := by decide +kernel
theorem dX12_enough_13 : decode cX12_enough 13 = .ok (.iconst 1, 1) := by decide +kernel
theorem dX12_enough_14 : decode cX12_enough 14 = .ok (.bipush 9, 2) := by decide +kernel
theorem dX12_enough_16 : decode cX12_enough 16 = .ok (.invokestatic 113, 3) := by decide +kernel
theorem dX12_enough_19 : decode cX12_enough 19 = .ok (.ifCond .ne 5, 3) := by decide +kernel
theorem dX12_enough_22 : decode cX12_enough 22 = .ok (.iconst (-1), 1) := by decide +kernel
theorem dX12_enough_23 : decode cX12_enough 23 = .ok (.ireturn, 1) := by decide +kernel
theorem dX12_enough_24 : decode cX12_enough 24 = .ok (.aload_n 0, 1) := by decide +kernel
theorem dX12_enough_25 : decode cX12_enough 25 = .ok (.iload_n 2, 1) := by decide +kernel
theorem dX12_enough_26 : decode cX12_enough 26 = .ok (.invokevirtual 374, 3) := by decide +kernel
theorem dX12_enough_29 : decode cX12_enough 29 = .ok (.iconst 0, 1) := by decide +kernel
theorem dX12_enough_30 : decode cX12_enough 30 = .ok (.istore_n 3, 1) := by decide +kernel
theorem dX12_enough_31 : decode cX12_enough 31 = .ok (.iload_n 3, 1) := by decide +kernel
theorem dX12_enough_32 : decode cX12_enough 32 = .ok (.bipush 61, 2) := by decide +kernel
theorem dX12_enough_34 : decode cX12_enough 34 = .ok (.if_icmp .ge 25, 3) := by decide +kernel
theorem dX12_enough_37 : decode cX12_enough 37 = .ok (.aload_n 0, 1) := by decide +kernel
theorem dX12_enough_38 : decode cX12_enough 38 = .ok (.getfield 60, 3) := by decide +kernel
theorem dX12_enough_41 : decode cX12_enough 41 = .ok (.iload_n 3, 1) := by decide +kernel
theorem dX12_enough_42 : decode cX12_enough 42 = .ok (.iload_n 1, 1) := by decide +kernel
theorem dX12_enough_43 : decode cX12_enough 43 = .ok (.iconst 1, 1) := by decide +kernel
theorem dX12_enough_44 : decode cX12_enough 44 = .ok (.invokestatic 368, 3) := by decide +kernel
theorem dX12_enough_47 : decode cX12_enough 47 = .ok (.baload, 1) := by decide +kernel
theorem dX12_enough_48 : decode cX12_enough 48 = .ok (.ifCond .eq 5, 3) := by decide +kernel
theorem dX12_enough_51 : decode cX12_enough 51 = .ok (.iload_n 3, 1) := by decide +kernel
theorem dX12_enough_52 : decode cX12_enough 52 = .ok (.ireturn, 1) := by decide +kernel
theorem dX12_enough_53 : decode cX12_enough 53 = .ok (.iinc 3 1, 3) := by decide +kernel
theorem dX12_enough_56 : decode cX12_enough 56 = .ok (.goto (-25), 3) := by decide +kernel
theorem dX12_enough_59 : decode cX12_enough 59 = .ok (.bipush (-2), 2) := by decide +kernel
theorem dX12_enough_61 : decode cX12_enough 61 = .ok (.ireturn, 1) := by decide +kernel
abbrev YX12_enough : li_Y := (yX12_enough, cX12_enough, 4, (some .int))
theorem dX12_grammar_0 : decode cX12_grammar 0 = .ok (.aload_n 0, 1) := by decide +kernel
theorem dX12_grammar_1 : decode cX12_grammar 1 = .ok (.iconst 0, 1) := by decide +kernel
theorem dX12_grammar_2 : decode cX12_grammar 2 = .ok (.putfield 103, 3) := by decide +kernel
theorem dX12_grammar_5 : decode cX12_grammar 5 = .ok (.aload_n 0, 1) := by decide +kernel
theorem dX12_grammar_6 : decode cX12_grammar 6 = .ok (.aload_n 0, 1) := by decide +kernel
theorem dX12_grammar_7 : decode cX12_grammar 7 = .ok (.getfield 22, 3) := by decide +kernel
theorem dX12_grammar_10 : decode cX12_grammar 10 = .ok (.aload_n 0, 1) := by decide +kernel
theorem dX12_grammar_11 : decode cX12_grammar 11 = .ok (.getfield 124, 3) := by decide +kernel
theorem dX12_grammar_14 : decode cX12_grammar 14 = .ok (.bipush 80, 2) := by decide +kernel
theorem dX12_grammar_16 : decode cX12_grammar 16 = .ok (.invokevirtual 162, 3) := by decide +kernel
theorem dX12_grammar_19 : decode cX12_grammar 19 = .ok (.aload_n 0, 1) := by decide +kernel
theorem dX12_grammar_20 : decode cX12_grammar 20 = .ok (.iconst 0, 1) := by decide +kernel
theorem dX12_grammar_21 : decode cX12_grammar 21 = .ok (.putfield 124, 3) := by decide +kernel
theorem dX12_grammar_24 : decode cX12_grammar 24 = .ok (.iconst 0, 1) := by decide +kernel
theorem dX12_grammar_25 : decode cX12_grammar 25 = .ok (.istore_n 1, 1) := by decide +kernel
theorem dX12_grammar_26 : decode cX12_grammar 26 = .ok (.aload_n 0, 1) := by decide +kernel
theorem dX12_grammar_27 : decode cX12_grammar 27 = .ok (.getfield 130, 3) := by decide +kernel
theorem dX12_grammar_30 : decode cX12_grammar 30 = .ok (.ifCond .le 7, 3) := by decide +kernel
theorem dX12_grammar_33 : decode cX12_grammar 33 = .ok (.iconst 1, 1) := by decide +kernel
theorem dX12_grammar_34 : decode cX12_grammar 34 = .ok (.goto 4, 3) := by decide +kernel
theorem dX12_grammar_37 : decode cX12_grammar 37 = .ok (.iconst 0, 1) := by decide +kernel
theorem dX12_grammar_38 : decode cX12_grammar 38 = .ok (.istore_n 2, 1) := by decide +kernel
theorem dX12_grammar_39 : decode cX12_grammar 39 = .ok (.iload_n 2, 1) := by decide +kernel
theorem dX12_grammar_40 : decode cX12_grammar 40 = .ok (.ifCond .eq 101, 3) := by decide +kernel
theorem dX12_grammar_141 : decode cX12_grammar 141 = .ok (.aload_n 0, 1) := by decide +kernel
theorem dX12_grammar_142 : decode cX12_grammar 142 = .ok (.getfield 136, 3) := by decide +kernel
theorem dX12_grammar_145 : decode cX12_grammar 145 = .ok (.aload_n 0, 1) := by decide +kernel
theorem dX12_grammar_146 : decode cX12_grammar 146 = .ok (.getfield 130, 3) := by decide +kernel
theorem dX12_grammar_149 : decode cX12_grammar 149 = .ok (.if_icmp .ge 11, 3) := by decide +kernel
theorem dX12_grammar_160 : decode cX12_grammar 160 = .ok (.aload_n 0, 1) := by decide +kernel
theorem dX12_grammar_161 : decode cX12_grammar 161 = .ok (.invokevirtual 142, 3) := by decide +kernel
theorem dX12_grammar_164 : decode cX12_grammar 164 = .ok (.ifCond .ne 10, 3) := by decide +kernel
theorem dX12_grammar_174 : decode cX12_grammar 174 = .ok (.iconst 0, 1) := by decide +kernel
theorem dX12_grammar_175 : decode cX12_grammar 175 = .ok (.istore_n 3, 1) := by decide +kernel
theorem dX12_grammar_176 : decode cX12_grammar 176 = .ok (.iload_n 3, 1) := by decide +kernel
theorem dX12_grammar_177 : decode cX12_grammar 177 = .ok (.iconst 3, 1) := by decide +kernel
theorem dX12_grammar_178 : decode cX12_grammar 178 = .ok (.iload_n 1, 1) := by decide +kernel
theorem dX12_grammar_179 : decode cX12_grammar 179 = .ok (.imul, 1) := by decide +kernel
theorem dX12_grammar_180 : decode cX12_grammar 180 = .ok (.if_icmp .ge 21, 3) := by decide +kernel
theorem dX12_grammar_201 : decode cX12_grammar 201 = .ok (.aload_n 0, 1) := by decide +kernel
theorem dX12_grammar_202 : decode cX12_grammar 202 = .ok (.iload_n 1, 1) := by decide +kernel
theorem dX12_grammar_203 : decode cX12_grammar 203 = .ok (.putfield 377, 3) := by decide +kernel
theorem dX12_grammar_206 : decode cX12_grammar 206 = .ok (.iload_n 1, 1) := by decide +kernel
theorem dX12_grammar_207 : decode cX12_grammar 207 = .ok (.ireturn, 1) := by decide +kernel
abbrev YX12_grammar : li_Y := (yX12_grammar, cX12_grammar, 4, (some .int))
theorem dX12_read_0 : decode cX12_read 0 = .ok (.aload_n 0, 1) := by decide +kernel
theorem dX12_read_1 : decode cX12_read 1 = .ok (.iconst 0, 1) := by decide +kernel
theorem dX12_read_2 : decode cX12_read 2 = .ok (.putfield 103, 3) := by decide +kernel
theorem dX12_read_5 : decode cX12_read 5 = .ok (.aload_n 0, 1) := by decide +kernel
theorem dX12_read_6 : decode cX12_read 6 = .ok (.iload_n 1, 1) := by decide +kernel
theorem dX12_read_7 : decode cX12_read 7 = .ok (.invokevirtual 117, 3) := by decide +kernel
theorem dX12_read_10 : decode cX12_read 10 = .ok (.ifCond .eq 14, 3) := by decide +kernel
theorem dX12_read_24 : decode cX12_read 24 = .ok (.iconst (-1), 1) := by decide +kernel
theorem dX12_read_25 : decode cX12_read 25 = .ok (.ireturn, 1) := by decide +kernel
abbrev YX12_read : li_Y := (yX12_read, cX12_read, 3, (some .int))
theorem dX12_forget_0 : decode cX12_forget 0 = .ok (.aload_n 0, 1) := by decide +kernel
theorem dX12_forget_1 : decode cX12_forget 1 = .ok (.iconst 0, 1) := by decide +kernel
theorem dX12_forget_2 : decode cX12_forget 2 = .ok (.putfield 103, 3) := by decide +kernel
theorem dX12_forget_5 : decode cX12_forget 5 = .ok (.aload_n 0, 1) := by decide +kernel
theorem dX12_forget_6 : decode cX12_forget 6 = .ok (.getfield 392, 3) := by decide +kernel
theorem dX12_forget_9 : decode cX12_forget 9 = .ok (.invokestatic 226, 3) := by decide +kernel
theorem dX12_forget_12 : decode cX12_forget 12 = .ok (.istore_n 1, 1) := by decide +kernel
theorem dX12_forget_13 : decode cX12_forget 13 = .ok (.aload_n 0, 1) := by decide +kernel
theorem dX12_forget_14 : decode cX12_forget 14 = .ok (.iconst 0, 1) := by decide +kernel
theorem dX12_forget_15 : decode cX12_forget 15 = .ok (.putfield 392, 3) := by decide +kernel
theorem dX12_forget_18 : decode cX12_forget 18 = .ok (.iload_n 1, 1) := by decide +kernel
theorem dX12_forget_19 : decode cX12_forget 19 = .ok (.ireturn, 1) := by decide +kernel
abbrev YX12_forget : li_Y := (yX12_forget, cX12_forget, 2, (some .int))
