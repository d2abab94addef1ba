theorem w_0 : (Jvm.Cond.selects "ClockForTalk" ({ cls := "ClockForTalk", name := "readText", desc := "(III)I" } : Jvm.MethodName) ({ cls := "ClockForTalk", name := "readText", desc := "(III)I" } : Jvm.MethodName)) ∈ li_ws := li_mem 0 (by decide +kernel) (by decide +kernel)
theorem w_16 : (Jvm.Cond.selects "ClockForTalk" ({ cls := "ClockForTalk", name := "held", desc := "(I)I" } : Jvm.MethodName) ({ cls := "ClockForTalk", name := "held", desc := "(I)I" } : Jvm.MethodName)) ∈ li_ws := li_mem 16 (by decide +kernel) (by decide +kernel)
theorem w_22 : (Jvm.Cond.selects "ClockForTalk" ({ cls := "ClockForTalk", name := "doAct", desc := "(I)I" } : Jvm.MethodName) ({ cls := "ClockForTalk", name := "doAct", desc := "(I)I" } : Jvm.MethodName)) ∈ li_ws := li_mem 22 (by decide +kernel) (by decide +kernel)
theorem w_23 : (Jvm.Cond.selects "ClockForTalk" ({ cls := "ClockForTalk", name := "isSpeech", desc := "(I)Z" } : Jvm.MethodName) ({ cls := "ClockForTalk", name := "isSpeech", desc := "(I)Z" } : Jvm.MethodName)) ∈ li_ws := li_mem 23 (by decide +kernel) (by decide +kernel)
theorem w_103 : (Jvm.Cond.initialized "ClockForTalk$Row") ∈ li_ws := li_mem 103 (by decide +kernel) (by decide +kernel)
theorem w_184 : (Jvm.Cond.fieldLink "ClockForTalk" (139 : Nat) "ClockForTalk$Town" "steps" "[I") ∈ li_ws := li_mem 184 (by decide +kernel) (by decide +kernel)
theorem w_236 : (Jvm.Cond.fieldLink "ClockForTalk" (204 : Nat) "ClockForTalk$Ledger" "loans" "I") ∈ li_ws := li_mem 236 (by decide +kernel) (by decide +kernel)
theorem w_294 : (Jvm.Cond.fieldLink "ClockForTalk" (297 : Nat) "ClockForTalk$History" "held" "I") ∈ li_ws := li_mem 294 (by decide +kernel) (by decide +kernel)
theorem w_474 : (Jvm.Cond.fieldLink "ClockForTalk" (19 : Nat) "ClockForTalk" "told" "LClockForTalk$Row;") ∈ li_ws := li_mem 474 (by decide +kernel) (by decide +kernel)
theorem w_478 : (Jvm.Cond.fieldLink "ClockForTalk" (47 : Nat) "ClockForTalk" "law" "LClockForTalk$Rule;") ∈ li_ws := li_mem 478 (by decide +kernel) (by decide +kernel)
theorem w_517 : (Jvm.Cond.methodLink "ClockForTalk" (93 : Nat) ({ cls := "ClockForTalk$Text", name := "addFour", desc := "(I)Z" } : Jvm.MethodName)) ∈ li_ws := li_mem 517 (by decide +kernel) (by decide +kernel)
theorem w_518 : (Jvm.Cond.instanceMethod ({ cls := "ClockForTalk$Text", name := "addFour", desc := "(I)Z" } : Jvm.MethodName)) ∈ li_ws := li_mem 518 (by decide +kernel) (by decide +kernel)
theorem w_519 : (Jvm.Cond.selects "ClockForTalk$Text" ({ cls := "ClockForTalk$Text", name := "addFour", desc := "(I)Z" } : Jvm.MethodName) ({ cls := "ClockForTalk$Text", name := "addFour", desc := "(I)Z" } : Jvm.MethodName)) ∈ li_ws := li_mem 519 (by decide +kernel) (by decide +kernel)
theorem w_520 : (Jvm.Cond.code ({ cls := "ClockForTalk$Text", name := "addFour", desc := "(I)Z" } : Jvm.MethodName) prog_8_method_2_code (3 : Nat) (Option.some Jvm.ClassFile.FieldType.boolean)) ∈ li_ws := li_mem 520 (by decide +kernel) (by decide +kernel)
theorem w_528 : (Jvm.Cond.methodLink "ClockForTalk" (101 : Nat) ({ cls := "ClockForTalk$Text", name := "cutTo", desc := "(I)Z" } : Jvm.MethodName)) ∈ li_ws := li_mem 528 (by decide +kernel) (by decide +kernel)
theorem w_529 : (Jvm.Cond.instanceMethod ({ cls := "ClockForTalk$Text", name := "cutTo", desc := "(I)Z" } : Jvm.MethodName)) ∈ li_ws := li_mem 529 (by decide +kernel) (by decide +kernel)
theorem w_530 : (Jvm.Cond.selects "ClockForTalk$Text" ({ cls := "ClockForTalk$Text", name := "cutTo", desc := "(I)Z" } : Jvm.MethodName) ({ cls := "ClockForTalk$Text", name := "cutTo", desc := "(I)Z" } : Jvm.MethodName)) ∈ li_ws := li_mem 530 (by decide +kernel) (by decide +kernel)
theorem w_531 : (Jvm.Cond.code ({ cls := "ClockForTalk$Text", name := "cutTo", desc := "(I)Z" } : Jvm.MethodName) prog_8_method_3_code (2 : Nat) (Option.some Jvm.ClassFile.FieldType.boolean)) ∈ li_ws := li_mem 531 (by decide +kernel) (by decide +kernel)
theorem w_536 : (Jvm.Cond.methodLink "ClockForTalk" (107 : Nat) ({ cls := "ClockForTalk", name := "readText", desc := "(III)I" } : Jvm.MethodName)) ∈ li_ws := li_mem 536 (by decide +kernel) (by decide +kernel)
theorem w_538 : (Jvm.Cond.instanceMethod ({ cls := "ClockForTalk", name := "readText", desc := "(III)I" } : Jvm.MethodName)) ∈ li_ws := li_mem 538 (by decide +kernel) (by decide +kernel)
theorem w_539 : (Jvm.Cond.code ({ cls := "ClockForTalk", name := "readText", desc := "(III)I" } : Jvm.MethodName) prog_1_method_49_code (6 : Nat) (Option.some Jvm.ClassFile.FieldType.int)) ∈ li_ws := li_mem 539 (by decide +kernel) (by decide +kernel)
theorem w_728 : (Jvm.Cond.methodLink "ClockForTalk" (111 : Nat) ({ cls := "ClockForTalk$Ledger", name := "welcome", desc := "(LClockForTalk$Town;I)V" } : Jvm.MethodName)) ∈ li_ws := li_mem 728 (by decide +kernel) (by decide +kernel)
theorem w_729 : (Jvm.Cond.instanceMethod ({ cls := "ClockForTalk$Ledger", name := "welcome", desc := "(LClockForTalk$Town;I)V" } : Jvm.MethodName)) ∈ li_ws := li_mem 729 (by decide +kernel) (by decide +kernel)
theorem w_730 : (Jvm.Cond.selects "ClockForTalk$Ledger" ({ cls := "ClockForTalk$Ledger", name := "welcome", desc := "(LClockForTalk$Town;I)V" } : Jvm.MethodName) ({ cls := "ClockForTalk$Ledger", name := "welcome", desc := "(LClockForTalk$Town;I)V" } : Jvm.MethodName)) ∈ li_ws := li_mem 730 (by decide +kernel) (by decide +kernel)
theorem w_731 : (Jvm.Cond.code ({ cls := "ClockForTalk$Ledger", name := "welcome", desc := "(LClockForTalk$Town;I)V" } : Jvm.MethodName) prog_5_method_3_code (5 : Nat) (Option.none : Option Jvm.ClassFile.FieldType)) ∈ li_ws := li_mem 731 (by decide +kernel) (by decide +kernel)
theorem w_734 : (Jvm.Cond.methodLink "ClockForTalk" (115 : Nat) ({ cls := "ClockForTalk$History", name := "clearAll", desc := "()V" } : Jvm.MethodName)) ∈ li_ws := li_mem 734 (by decide +kernel) (by decide +kernel)
theorem w_735 : (Jvm.Cond.instanceMethod ({ cls := "ClockForTalk$History", name := "clearAll", desc := "()V" } : Jvm.MethodName)) ∈ li_ws := li_mem 735 (by decide +kernel) (by decide +kernel)
theorem w_736 : (Jvm.Cond.selects "ClockForTalk$History" ({ cls := "ClockForTalk$History", name := "clearAll", desc := "()V" } : Jvm.MethodName) ({ cls := "ClockForTalk$History", name := "clearAll", desc := "()V" } : Jvm.MethodName)) ∈ li_ws := li_mem 736 (by decide +kernel) (by decide +kernel)
theorem w_737 : (Jvm.Cond.code ({ cls := "ClockForTalk$History", name := "clearAll", desc := "()V" } : Jvm.MethodName) prog_4_method_2_code (1 : Nat) (Option.none : Option Jvm.ClassFile.FieldType)) ∈ li_ws := li_mem 737 (by decide +kernel) (by decide +kernel)
theorem w_747 : (Jvm.Cond.methodLink "ClockForTalk" (121 : Nat) ({ cls := "ClockForTalk$Rule", name := "copyFrom", desc := "(LClockForTalk$Rule;)V" } : Jvm.MethodName)) ∈ li_ws := li_mem 747 (by decide +kernel) (by decide +kernel)
theorem w_748 : (Jvm.Cond.instanceMethod ({ cls := "ClockForTalk$Rule", name := "copyFrom", desc := "(LClockForTalk$Rule;)V" } : Jvm.MethodName)) ∈ li_ws := li_mem 748 (by decide +kernel) (by decide +kernel)
theorem w_749 : (Jvm.Cond.selects "ClockForTalk$Rule" ({ cls := "ClockForTalk$Rule", name := "copyFrom", desc := "(LClockForTalk$Rule;)V" } : Jvm.MethodName) ({ cls := "ClockForTalk$Rule", name := "copyFrom", desc := "(LClockForTalk$Rule;)V" } : Jvm.MethodName)) ∈ li_ws := li_mem 749 (by decide +kernel) (by decide +kernel)
theorem w_750 : (Jvm.Cond.code ({ cls := "ClockForTalk$Rule", name := "copyFrom", desc := "(LClockForTalk$Rule;)V" } : Jvm.MethodName) prog_7_method_2_code (2 : Nat) (Option.none : Option Jvm.ClassFile.FieldType)) ∈ li_ws := li_mem 750 (by decide +kernel) (by decide +kernel)
theorem w_758 : (Jvm.Cond.methodLink "ClockForTalk" (125 : Nat) ({ cls := "ClockForTalk$Town", name := "hasPerson", desc := "(I)Z" } : Jvm.MethodName)) ∈ li_ws := li_mem 758 (by decide +kernel) (by decide +kernel)
theorem w_768 : (Jvm.Cond.methodLink "ClockForTalk" (228 : Nat) ({ cls := "ClockForTalk", name := "entryOf", desc := "(II)I" } : Jvm.MethodName)) ∈ li_ws := li_mem 768 (by decide +kernel) (by decide +kernel)
theorem w_769 : (Jvm.Cond.static ({ cls := "ClockForTalk", name := "entryOf", desc := "(II)I" } : Jvm.MethodName)) ∈ li_ws := li_mem 769 (by decide +kernel) (by decide +kernel)
theorem w_770 : (Jvm.Cond.code ({ cls := "ClockForTalk", name := "entryOf", desc := "(II)I" } : Jvm.MethodName) prog_1_method_65_code (3 : Nat) (Option.some Jvm.ClassFile.FieldType.int)) ∈ li_ws := li_mem 770 (by decide +kernel) (by decide +kernel)
theorem w_776 : (Jvm.Cond.methodLink "ClockForTalk" (232 : Nat) ({ cls := "ClockForTalk$Ledger", name := "allClocks", desc := "(I)I" } : Jvm.MethodName)) ∈ li_ws := li_mem 776 (by decide +kernel) (by decide +kernel)
theorem w_777 : (Jvm.Cond.instanceMethod ({ cls := "ClockForTalk$Ledger", name := "allClocks", desc := "(I)I" } : Jvm.MethodName)) ∈ li_ws := li_mem 777 (by decide +kernel) (by decide +kernel)
theorem w_778 : (Jvm.Cond.selects "ClockForTalk$Ledger" ({ cls := "ClockForTalk$Ledger", name := "allClocks", desc := "(I)I" } : Jvm.MethodName) ({ cls := "ClockForTalk$Ledger", name := "allClocks", desc := "(I)I" } : Jvm.MethodName)) ∈ li_ws := li_mem 778 (by decide +kernel) (by decide +kernel)
theorem w_779 : (Jvm.Cond.code ({ cls := "ClockForTalk$Ledger", name := "allClocks", desc := "(I)I" } : Jvm.MethodName) prog_5_method_4_code (4 : Nat) (Option.some Jvm.ClassFile.FieldType.int)) ∈ li_ws := li_mem 779 (by decide +kernel) (by decide +kernel)
theorem w_843 : (Jvm.Cond.methodLink "ClockForTalk" (241 : Nat) ({ cls := "ClockForTalk$History", name := "note", desc := "(LClockForTalk$Ledger;)V" } : Jvm.MethodName)) ∈ li_ws := li_mem 843 (by decide +kernel) (by decide +kernel)
theorem w_844 : (Jvm.Cond.instanceMethod ({ cls := "ClockForTalk$History", name := "note", desc := "(LClockForTalk$Ledger;)V" } : Jvm.MethodName)) ∈ li_ws := li_mem 844 (by decide +kernel) (by decide +kernel)
theorem w_845 : (Jvm.Cond.selects "ClockForTalk$History" ({ cls := "ClockForTalk$History", name := "note", desc := "(LClockForTalk$Ledger;)V" } : Jvm.MethodName) ({ cls := "ClockForTalk$History", name := "note", desc := "(LClockForTalk$Ledger;)V" } : Jvm.MethodName)) ∈ li_ws := li_mem 845 (by decide +kernel) (by decide +kernel)
theorem w_846 : (Jvm.Cond.code ({ cls := "ClockForTalk$History", name := "note", desc := "(LClockForTalk$Ledger;)V" } : Jvm.MethodName) prog_4_method_3_code (2 : Nat) (Option.none : Option Jvm.ClassFile.FieldType)) ∈ li_ws := li_mem 846 (by decide +kernel) (by decide +kernel)
theorem w_867 : (Jvm.Cond.methodLink "ClockForTalk" (248 : Nat) ({ cls := "ClockForTalk", name := "held", desc := "(I)I" } : Jvm.MethodName)) ∈ li_ws := li_mem 867 (by decide +kernel) (by decide +kernel)
theorem w_869 : (Jvm.Cond.instanceMethod ({ cls := "ClockForTalk", name := "held", desc := "(I)I" } : Jvm.MethodName)) ∈ li_ws := li_mem 869 (by decide +kernel) (by decide +kernel)
theorem w_870 : (Jvm.Cond.code ({ cls := "ClockForTalk", name := "held", desc := "(I)I" } : Jvm.MethodName) prog_1_method_42_code (2 : Nat) (Option.some Jvm.ClassFile.FieldType.int)) ∈ li_ws := li_mem 870 (by decide +kernel) (by decide +kernel)
theorem w_898 : (Jvm.Cond.methodLink "ClockForTalk" (264 : Nat) ({ cls := "ClockForTalk$Ledger", name := "write", desc := "(IIII)I" } : Jvm.MethodName)) ∈ li_ws := li_mem 898 (by decide +kernel) (by decide +kernel)
theorem w_899 : (Jvm.Cond.instanceMethod ({ cls := "ClockForTalk$Ledger", name := "write", desc := "(IIII)I" } : Jvm.MethodName)) ∈ li_ws := li_mem 899 (by decide +kernel) (by decide +kernel)
theorem w_900 : (Jvm.Cond.selects "ClockForTalk$Ledger" ({ cls := "ClockForTalk$Ledger", name := "write", desc := "(IIII)I" } : Jvm.MethodName) ({ cls := "ClockForTalk$Ledger", name := "write", desc := "(IIII)I" } : Jvm.MethodName)) ∈ li_ws := li_mem 900 (by decide +kernel) (by decide +kernel)
theorem w_901 : (Jvm.Cond.code ({ cls := "ClockForTalk$Ledger", name := "write", desc := "(IIII)I" } : Jvm.MethodName) prog_5_method_8_code (6 : Nat) (Option.some Jvm.ClassFile.FieldType.int)) ∈ li_ws := li_mem 901 (by decide +kernel) (by decide +kernel)
theorem w_909 : (Jvm.Cond.methodLink "ClockForTalk" (268 : Nat) ({ cls := "ClockForTalk$Ledger", name := "endedLoans", desc := "()I" } : Jvm.MethodName)) ∈ li_ws := li_mem 909 (by decide +kernel) (by decide +kernel)
theorem w_910 : (Jvm.Cond.instanceMethod ({ cls := "ClockForTalk$Ledger", name := "endedLoans", desc := "()I" } : Jvm.MethodName)) ∈ li_ws := li_mem 910 (by decide +kernel) (by decide +kernel)
theorem w_911 : (Jvm.Cond.selects "ClockForTalk$Ledger" ({ cls := "ClockForTalk$Ledger", name := "endedLoans", desc := "()I" } : Jvm.MethodName) ({ cls := "ClockForTalk$Ledger", name := "endedLoans", desc := "()I" } : Jvm.MethodName)) ∈ li_ws := li_mem 911 (by decide +kernel) (by decide +kernel)
theorem w_912 : (Jvm.Cond.code ({ cls := "ClockForTalk$Ledger", name := "endedLoans", desc := "()I" } : Jvm.MethodName) prog_5_method_14_code (1 : Nat) (Option.some Jvm.ClassFile.FieldType.int)) ∈ li_ws := li_mem 912 (by decide +kernel) (by decide +kernel)
theorem w_914 : (Jvm.Cond.methodLink "ClockForTalk" (272 : Nat) ({ cls := "ClockForTalk$Ledger", name := "allLosses", desc := "()J" } : Jvm.MethodName)) ∈ li_ws := li_mem 914 (by decide +kernel) (by decide +kernel)
theorem w_915 : (Jvm.Cond.instanceMethod ({ cls := "ClockForTalk$Ledger", name := "allLosses", desc := "()J" } : Jvm.MethodName)) ∈ li_ws := li_mem 915 (by decide +kernel) (by decide +kernel)
theorem w_916 : (Jvm.Cond.selects "ClockForTalk$Ledger" ({ cls := "ClockForTalk$Ledger", name := "allLosses", desc := "()J" } : Jvm.MethodName) ({ cls := "ClockForTalk$Ledger", name := "allLosses", desc := "()J" } : Jvm.MethodName)) ∈ li_ws := li_mem 916 (by decide +kernel) (by decide +kernel)
theorem w_917 : (Jvm.Cond.code ({ cls := "ClockForTalk$Ledger", name := "allLosses", desc := "()J" } : Jvm.MethodName) prog_5_method_15_code (4 : Nat) (Option.some Jvm.ClassFile.FieldType.long)) ∈ li_ws := li_mem 917 (by decide +kernel) (by decide +kernel)
theorem w_951 : (Jvm.Cond.methodLink "ClockForTalk" (280 : Nat) ({ cls := "ClockForTalk$Row", name := "tellTwo", desc := "(II)V" } : Jvm.MethodName)) ∈ li_ws := li_mem 951 (by decide +kernel) (by decide +kernel)
theorem w_952 : (Jvm.Cond.instanceMethod ({ cls := "ClockForTalk$Row", name := "tellTwo", desc := "(II)V" } : Jvm.MethodName)) ∈ li_ws := li_mem 952 (by decide +kernel) (by decide +kernel)
theorem w_953 : (Jvm.Cond.selects "ClockForTalk$Row" ({ cls := "ClockForTalk$Row", name := "tellTwo", desc := "(II)V" } : Jvm.MethodName) ({ cls := "ClockForTalk$Row", name := "tellTwo", desc := "(II)V" } : Jvm.MethodName)) ∈ li_ws := li_mem 953 (by decide +kernel) (by decide +kernel)
theorem w_954 : (Jvm.Cond.code ({ cls := "ClockForTalk$Row", name := "tellTwo", desc := "(II)V" } : Jvm.MethodName) prog_6_method_3_code (3 : Nat) (Option.none : Option Jvm.ClassFile.FieldType)) ∈ li_ws := li_mem 954 (by decide +kernel) (by decide +kernel)
theorem w_960 : (Jvm.Cond.methodLink "ClockForTalk" (287 : Nat) ({ cls := "ClockForTalk", name := "doAct", desc := "(I)I" } : Jvm.MethodName)) ∈ li_ws := li_mem 960 (by decide +kernel) (by decide +kernel)
theorem w_962 : (Jvm.Cond.instanceMethod ({ cls := "ClockForTalk", name := "doAct", desc := "(I)I" } : Jvm.MethodName)) ∈ li_ws := li_mem 962 (by decide +kernel) (by decide +kernel)
theorem w_963 : (Jvm.Cond.code ({ cls := "ClockForTalk", name := "doAct", desc := "(I)I" } : Jvm.MethodName) prog_1_method_47_code (6 : Nat) (Option.some Jvm.ClassFile.FieldType.int)) ∈ li_ws := li_mem 963 (by decide +kernel) (by decide +kernel)
theorem w_972 : (Jvm.Cond.methodLink "ClockForTalk" (290 : Nat) ({ cls := "ClockForTalk", name := "isSpeech", desc := "(I)Z" } : Jvm.MethodName)) ∈ li_ws := li_mem 972 (by decide +kernel) (by decide +kernel)
theorem w_974 : (Jvm.Cond.instanceMethod ({ cls := "ClockForTalk", name := "isSpeech", desc := "(I)Z" } : Jvm.MethodName)) ∈ li_ws := li_mem 974 (by decide +kernel) (by decide +kernel)
theorem w_975 : (Jvm.Cond.code ({ cls := "ClockForTalk", name := "isSpeech", desc := "(I)Z" } : Jvm.MethodName) prog_1_method_46_code (3 : Nat) (Option.some Jvm.ClassFile.FieldType.boolean)) ∈ li_ws := li_mem 975 (by decide +kernel) (by decide +kernel)
theorem w_980 : (Jvm.Cond.methodLink "ClockForTalk" (293 : Nat) ({ cls := "ClockForTalk$History", name := "stepBack", desc := "(LClockForTalk$Ledger;)Z" } : Jvm.MethodName)) ∈ li_ws := li_mem 980 (by decide +kernel) (by decide +kernel)
theorem w_981 : (Jvm.Cond.instanceMethod ({ cls := "ClockForTalk$History", name := "stepBack", desc := "(LClockForTalk$Ledger;)Z" } : Jvm.MethodName)) ∈ li_ws := li_mem 981 (by decide +kernel) (by decide +kernel)
theorem w_982 : (Jvm.Cond.selects "ClockForTalk$History" ({ cls := "ClockForTalk$History", name := "stepBack", desc := "(LClockForTalk$Ledger;)Z" } : Jvm.MethodName) ({ cls := "ClockForTalk$History", name := "stepBack", desc := "(LClockForTalk$Ledger;)Z" } : Jvm.MethodName)) ∈ li_ws := li_mem 982 (by decide +kernel) (by decide +kernel)
theorem w_983 : (Jvm.Cond.code ({ cls := "ClockForTalk$History", name := "stepBack", desc := "(LClockForTalk$Ledger;)Z" } : Jvm.MethodName) prog_4_method_6_code (2 : Nat) (Option.some Jvm.ClassFile.FieldType.boolean)) ∈ li_ws := li_mem 983 (by decide +kernel) (by decide +kernel)
theorem dX11_sign_0 : decode cX11_sign 0 = .ok (.aload_n 0, 1) := by decide +kernel
theorem dX11_sign_1 : decode cX11_sign 1 = .ok (.getfield 12, 3) := by decide +kernel
theorem dX11_sign_4 : decode cX11_sign 4 = .ok (.iload_n 1, 1) := by decide +kernel
theorem dX11_sign_5 : decode cX11_sign 5 = .ok (.invokevirtual 93, 3) := by decide +kernel
theorem dX11_sign_8 : decode cX11_sign 8 = .ok (.ifCond .eq 13, 3) := by decide +kernel
theorem dX11_sign_11 : decode cX11_sign 11 = .ok (.aload_n 0, 1) := by decide +kernel
theorem dX11_sign_12 : decode cX11_sign 12 = .ok (.getfield 12, 3) := by decide +kernel
theorem dX11_sign_15 : decode cX11_sign 15 = .ok (.getfield 97, 3) := by decide +kernel
theorem dX11_sign_18 : decode cX11_sign 18 = .ok (.goto 4, 3) := by decide +kernel
theorem dX11_sign_21 : decode cX11_sign 21 = .ok (.iconst (-1), 1) := by decide +kernel
theorem dX11_sign_22 : decode cX11_sign 22 = .ok (.ireturn, 1) := by decide +kernel
abbrev YX11_sign : li_Y := (yX11_sign, cX11_sign, 2, (some .int))
theorem dX11_end_0 : decode cX11_end 0 = .ok (.aload_n 0, 1) := by decide +kernel
theorem dX11_end_1 : decode cX11_end 1 = .ok (.getfield 12, 3) := by decide +kernel
theorem dX11_end_4 : decode cX11_end 4 = .ok (.iload_n 1, 1) := by decide +kernel
theorem dX11_end_5 : decode cX11_end 5 = .ok (.invokevirtual 101, 3) := by decide +kernel
theorem dX11_end_8 : decode cX11_end 8 = .ok (.ireturn, 1) := by decide +kernel
abbrev YX11_end : li_Y := (yX11_end, cX11_end, 2, (some .boolean))
theorem dX11_people_0 : decode cX11_people 0 = .ok (.aload_n 0, 1) := by decide +kernel
theorem dX11_people_1 : decode cX11_people 1 = .ok (.iconst 0, 1) := by decide +kernel
theorem dX11_people_2 : decode cX11_people 2 = .ok (.bipush 6, 2) := by decide +kernel
theorem dX11_people_4 : decode cX11_people 4 = .ok (.aload_n 0, 1) := by decide +kernel
theorem dX11_people_5 : decode cX11_people 5 = .ok (.getfield 26, 3) := by decide +kernel
theorem dX11_people_8 : decode cX11_people 8 = .ok (.getfield 104, 3) := by decide +kernel
theorem dX11_people_11 : decode cX11_people 11 = .ok (.isub, 1) := by decide +kernel
theorem dX11_people_12 : decode cX11_people 12 = .ok (.bipush 76, 2) := by decide +kernel
theorem dX11_people_14 : decode cX11_people 14 = .ok (.invokevirtual 107, 3) := by decide +kernel
theorem dX11_people_17 : decode cX11_people 17 = .ok (.istore_n 1, 1) := by decide +kernel
theorem dX11_people_18 : decode cX11_people 18 = .ok (.iload_n 1, 1) := by decide +kernel
theorem dX11_people_19 : decode cX11_people 19 = .ok (.ifCond .le 35, 3) := by decide +kernel
theorem dX11_people_22 : decode cX11_people 22 = .ok (.aload_n 0, 1) := by decide +kernel
theorem dX11_people_23 : decode cX11_people 23 = .ok (.getfield 33, 3) := by decide +kernel
theorem dX11_people_26 : decode cX11_people 26 = .ok (.aload_n 0, 1) := by decide +kernel
theorem dX11_people_27 : decode cX11_people 27 = .ok (.getfield 26, 3) := by decide +kernel
theorem dX11_people_30 : decode cX11_people 30 = .ok (.iload_n 1, 1) := by decide +kernel
theorem dX11_people_31 : decode cX11_people 31 = .ok (.invokevirtual 111, 3) := by decide +kernel
theorem dX11_people_34 : decode cX11_people 34 = .ok (.aload_n 0, 1) := by decide +kernel
theorem dX11_people_35 : decode cX11_people 35 = .ok (.getfield 26, 3) := by decide +kernel
theorem dX11_people_38 : decode cX11_people 38 = .ok (.dup, 1) := by decide +kernel
theorem dX11_people_39 : decode cX11_people 39 = .ok (.getfield 104, 3) := by decide +kernel
theorem dX11_people_42 : decode cX11_people 42 = .ok (.iload_n 1, 1) := by decide +kernel
theorem dX11_people_43 : decode cX11_people 43 = .ok (.iadd, 1) := by decide +kernel
theorem dX11_people_44 : decode cX11_people 44 = .ok (.putfield 104, 3) := by decide +kernel
theorem dX11_people_47 : decode cX11_people 47 = .ok (.aload_n 0, 1) := by decide +kernel
theorem dX11_people_48 : decode cX11_people 48 = .ok (.getfield 40, 3) := by decide +kernel
theorem dX11_people_51 : decode cX11_people 51 = .ok (.invokevirtual 115, 3) := by decide +kernel
theorem dX11_people_54 : decode cX11_people 54 = .ok (.iload_n 1, 1) := by decide +kernel
theorem dX11_people_55 : decode cX11_people 55 = .ok (.ireturn, 1) := by decide +kernel
abbrev YX11_people : li_Y := (yX11_people, cX11_people, 2, (some .int))
theorem dX11_things_0 : decode cX11_things 0 = .ok (.aload_n 0, 1) := by decide +kernel
theorem dX11_things_1 : decode cX11_things 1 = .ok (.iconst 1, 1) := by decide +kernel
theorem dX11_things_2 : decode cX11_things 2 = .ok (.bipush 8, 2) := by decide +kernel
theorem dX11_things_4 : decode cX11_things 4 = .ok (.aload_n 0, 1) := by decide +kernel
theorem dX11_things_5 : decode cX11_things 5 = .ok (.getfield 26, 3) := by decide +kernel
theorem dX11_things_8 : decode cX11_things 8 = .ok (.getfield 118, 3) := by decide +kernel
theorem dX11_things_11 : decode cX11_things 11 = .ok (.isub, 1) := by decide +kernel
theorem dX11_things_12 : decode cX11_things 12 = .ok (.bipush 76, 2) := by decide +kernel
theorem dX11_things_14 : decode cX11_things 14 = .ok (.invokevirtual 107, 3) := by decide +kernel
theorem dX11_things_17 : decode cX11_things 17 = .ok (.istore_n 1, 1) := by decide +kernel
theorem dX11_things_18 : decode cX11_things 18 = .ok (.iload_n 1, 1) := by decide +kernel
theorem dX11_things_19 : decode cX11_things 19 = .ok (.ifCond .le 23, 3) := by decide +kernel
theorem dX11_things_22 : decode cX11_things 22 = .ok (.aload_n 0, 1) := by decide +kernel
theorem dX11_things_23 : decode cX11_things 23 = .ok (.getfield 26, 3) := by decide +kernel
theorem dX11_things_26 : decode cX11_things 26 = .ok (.dup, 1) := by decide +kernel
theorem dX11_things_27 : decode cX11_things 27 = .ok (.getfield 118, 3) := by decide +kernel
theorem dX11_things_30 : decode cX11_things 30 = .ok (.iload_n 1, 1) := by decide +kernel
theorem dX11_things_31 : decode cX11_things 31 = .ok (.iadd, 1) := by decide +kernel
theorem dX11_things_32 : decode cX11_things 32 = .ok (.putfield 118, 3) := by decide +kernel
theorem dX11_things_35 : decode cX11_things 35 = .ok (.aload_n 0, 1) := by decide +kernel
theorem dX11_things_36 : decode cX11_things 36 = .ok (.getfield 40, 3) := by decide +kernel
theorem dX11_things_39 : decode cX11_things 39 = .ok (.invokevirtual 115, 3) := by decide +kernel
theorem dX11_things_42 : decode cX11_things 42 = .ok (.iload_n 1, 1) := by decide +kernel
theorem dX11_things_43 : decode cX11_things 43 = .ok (.ireturn, 1) := by decide +kernel
abbrev YX11_things : li_Y := (yX11_things, cX11_things, 2, (some .int))
theorem dX11_rule_0 : decode cX11_rule 0 = .ok (.aload_n 0, 1) := by decide +kernel
theorem dX11_rule_1 : decode cX11_rule 1 = .ok (.iconst 4, 1) := by decide +kernel
theorem dX11_rule_2 : decode cX11_rule 2 = .ok (.iconst 0, 1) := by decide +kernel
theorem dX11_rule_3 : decode cX11_rule 3 = .ok (.bipush 40, 2) := by decide +kernel
theorem dX11_rule_5 : decode cX11_rule 5 = .ok (.invokevirtual 107, 3) := by decide +kernel
theorem dX11_rule_8 : decode cX11_rule 8 = .ok (.istore_n 1, 1) := by decide +kernel
theorem dX11_rule_9 : decode cX11_rule 9 = .ok (.iload_n 1, 1) := by decide +kernel
theorem dX11_rule_10 : decode cX11_rule 10 = .ok (.ifCond .lt 14, 3) := by decide +kernel
theorem dX11_rule_13 : decode cX11_rule 13 = .ok (.aload_n 0, 1) := by decide +kernel
theorem dX11_rule_14 : decode cX11_rule 14 = .ok (.getfield 47, 3) := by decide +kernel
theorem dX11_rule_17 : decode cX11_rule 17 = .ok (.aload_n 0, 1) := by decide +kernel
theorem dX11_rule_18 : decode cX11_rule 18 = .ok (.getfield 51, 3) := by decide +kernel
theorem dX11_rule_21 : decode cX11_rule 21 = .ok (.invokevirtual 121, 3) := by decide +kernel
theorem dX11_rule_24 : decode cX11_rule 24 = .ok (.iload_n 1, 1) := by decide +kernel
theorem dX11_rule_25 : decode cX11_rule 25 = .ok (.ireturn, 1) := by decide +kernel
abbrev YX11_rule : li_Y := (yX11_rule, cX11_rule, 2, (some .int))
theorem dX11_move_0 : decode cX11_move 0 = .ok (.aload_n 0, 1) := by decide +kernel
theorem dX11_move_1 : decode cX11_move 1 = .ok (.getfield 26, 3) := by decide +kernel
theorem dX11_move_4 : decode cX11_move 4 = .ok (.iload_n 1, 1) := by decide +kernel
theorem dX11_move_5 : decode cX11_move 5 = .ok (.invokevirtual 125, 3) := by decide +kernel
theorem dX11_move_8 : decode cX11_move 8 = .ok (.ifCond .eq 13, 3) := by decide +kernel
theorem dX11_move_11 : decode cX11_move 11 = .ok (.iload_n 2, 1) := by decide +kernel
theorem dX11_move_12 : decode cX11_move 12 = .ok (.iconst 0, 1) := by decide +kernel
theorem dX11_move_13 : decode cX11_move 13 = .ok (.bipush 99, 2) := by decide +kernel
theorem dX11_move_15 : decode cX11_move 15 = .ok (.invokestatic 128, 3) := by decide +kernel
theorem dX11_move_18 : decode cX11_move 18 = .ok (.ifCond .ne 5, 3) := by decide +kernel
theorem dX11_move_21 : decode cX11_move 21 = .ok (.iconst (-1), 1) := by decide +kernel
theorem dX11_move_22 : decode cX11_move 22 = .ok (.ireturn, 1) := by decide +kernel
theorem dX11_move_23 : decode cX11_move 23 = .ok (.aload_n 0, 1) := by decide +kernel
theorem dX11_move_24 : decode cX11_move 24 = .ok (.getfield 26, 3) := by decide +kernel
theorem dX11_move_27 : decode cX11_move 27 = .ok (.getfield 139, 3) := by decide +kernel
theorem dX11_move_30 : decode cX11_move 30 = .ok (.iload_n 1, 1) := by decide +kernel
theorem dX11_move_31 : decode cX11_move 31 = .ok (.invokestatic 142, 3) := by decide +kernel
theorem dX11_move_34 : decode cX11_move 34 = .ok (.istore_n 3, 1) := by decide +kernel
theorem dX11_move_35 : decode cX11_move 35 = .ok (.aload_n 0, 1) := by decide +kernel
theorem dX11_move_36 : decode cX11_move 36 = .ok (.getfield 26, 3) := by decide +kernel
theorem dX11_move_39 : decode cX11_move 39 = .ok (.getfield 139, 3) := by decide +kernel
theorem dX11_move_42 : decode cX11_move 42 = .ok (.iload_n 1, 1) := by decide +kernel
theorem dX11_move_43 : decode cX11_move 43 = .ok (.iload_n 2, 1) := by decide +kernel
theorem dX11_move_44 : decode cX11_move 44 = .ok (.invokestatic 224, 3) := by decide +kernel
theorem dX11_move_47 : decode cX11_move 47 = .ok (.iload_n 3, 1) := by decide +kernel
theorem dX11_move_48 : decode cX11_move 48 = .ok (.ireturn, 1) := by decide +kernel
abbrev YX11_move : li_Y := (yX11_move, cX11_move, 4, (some .int))
theorem dX11_sheet_0 : decode cX11_sheet 0 = .ok (.iload_n 1, 1) := by decide +kernel
theorem dX11_sheet_1 : decode cX11_sheet 1 = .ok (.iconst 0, 1) := by decide +kernel
theorem dX11_sheet_2 : decode cX11_sheet 2 = .ok (.iconst 3, 1) := by decide +kernel
theorem dX11_sheet_3 : decode cX11_sheet 3 = .ok (.invokestatic 128, 3) := by decide +kernel
theorem dX11_sheet_6 : decode cX11_sheet 6 = .ok (.ifCond .eq 9, 3) := by decide +kernel
theorem dX11_sheet_9 : decode cX11_sheet 9 = .ok (.iload_n 2, 1) := by decide +kernel
theorem dX11_sheet_10 : decode cX11_sheet 10 = .ok (.bipush 6, 2) := by decide +kernel
theorem dX11_sheet_12 : decode cX11_sheet 12 = .ok (.if_icmp .le 5, 3) := by decide +kernel
theorem dX11_sheet_15 : decode cX11_sheet 15 = .ok (.iconst (-1), 1) := by decide +kernel
theorem dX11_sheet_16 : decode cX11_sheet 16 = .ok (.ireturn, 1) := by decide +kernel
theorem dX11_sheet_17 : decode cX11_sheet 17 = .ok (.iload_n 1, 1) := by decide +kernel
theorem dX11_sheet_18 : decode cX11_sheet 18 = .ok (.iconst 3, 1) := by decide +kernel
theorem dX11_sheet_19 : decode cX11_sheet 19 = .ok (.if_icmp .eq 10, 3) := by decide +kernel
theorem dX11_sheet_22 : decode cX11_sheet 22 = .ok (.iload_n 2, 1) := by decide +kernel
theorem dX11_sheet_23 : decode cX11_sheet 23 = .ok (.ifCond .ge 6, 3) := by decide +kernel
theorem dX11_sheet_26 : decode cX11_sheet 26 = .ok (.bipush (-2), 2) := by decide +kernel
theorem dX11_sheet_28 : decode cX11_sheet 28 = .ok (.ireturn, 1) := by decide +kernel
theorem dX11_sheet_29 : decode cX11_sheet 29 = .ok (.iload_n 1, 1) := by decide +kernel
theorem dX11_sheet_30 : decode cX11_sheet 30 = .ok (.iconst 3, 1) := by decide +kernel
theorem dX11_sheet_31 : decode cX11_sheet 31 = .ok (.if_icmp .ne 7, 3) := by decide +kernel
theorem dX11_sheet_34 : decode cX11_sheet 34 = .ok (.iconst 0, 1) := by decide +kernel
theorem dX11_sheet_35 : decode cX11_sheet 35 = .ok (.goto 4, 3) := by decide +kernel
theorem dX11_sheet_38 : decode cX11_sheet 38 = .ok (.iload_n 2, 1) := by decide +kernel
theorem dX11_sheet_39 : decode cX11_sheet 39 = .ok (.istore 5, 2) := by decide +kernel
theorem dX11_sheet_41 : decode cX11_sheet 41 = .ok (.iconst 0, 1) := by decide +kernel
theorem dX11_sheet_42 : decode cX11_sheet 42 = .ok (.istore 6, 2) := by decide +kernel
theorem dX11_sheet_44 : decode cX11_sheet 44 = .ok (.iload 6, 2) := by decide +kernel
theorem dX11_sheet_46 : decode cX11_sheet 46 = .ok (.aload_n 0, 1) := by decide +kernel
theorem dX11_sheet_47 : decode cX11_sheet 47 = .ok (.getfield 26, 3) := by decide +kernel
theorem dX11_sheet_50 : decode cX11_sheet 50 = .ok (.getfield 104, 3) := by decide +kernel
theorem dX11_sheet_53 : decode cX11_sheet 53 = .ok (.if_icmp .ge 43, 3) := by decide +kernel
theorem dX11_sheet_56 : decode cX11_sheet 56 = .ok (.aload_n 0, 1) := by decide +kernel
theorem dX11_sheet_57 : decode cX11_sheet 57 = .ok (.getfield 33, 3) := by decide +kernel
theorem dX11_sheet_60 : decode cX11_sheet 60 = .ok (.getfield 146, 3) := by decide +kernel
theorem dX11_sheet_63 : decode cX11_sheet 63 = .ok (.iload 6, 2) := by decide +kernel
theorem dX11_sheet_65 : decode cX11_sheet 65 = .ok (.iload 6, 2) := by decide +kernel
theorem dX11_sheet_67 : decode cX11_sheet 67 = .ok (.iload 5, 2) := by decide +kernel
theorem dX11_sheet_69 : decode cX11_sheet 69 = .ok (.if_icmp .ge 17, 3) := by decide +kernel
theorem dX11_sheet_72 : decode cX11_sheet 72 = .ok (.iload_n 1, 1) := by decide +kernel
theorem dX11_sheet_73 : decode cX11_sheet 73 = .ok (.iload_n 3, 1) := by decide +kernel
theorem dX11_sheet_74 : decode cX11_sheet 74 = .ok (.iload 6, 2) := by decide +kernel
theorem dX11_sheet_76 : decode cX11_sheet 76 = .ok (.iload 4, 2) := by decide +kernel
theorem dX11_sheet_78 : decode cX11_sheet 78 = .ok (.imul, 1) := by decide +kernel
theorem dX11_sheet_79 : decode cX11_sheet 79 = .ok (.iadd, 1) := by decide +kernel
theorem dX11_sheet_80 : decode cX11_sheet 80 = .ok (.invokestatic 228, 3) := by decide +kernel
theorem dX11_sheet_83 : decode cX11_sheet 83 = .ok (.goto 4, 3) := by decide +kernel
theorem dX11_sheet_86 : decode cX11_sheet 86 = .ok (.iconst 0, 1) := by decide +kernel
theorem dX11_sheet_87 : decode cX11_sheet 87 = .ok (.invokestatic 224, 3) := by decide +kernel
theorem dX11_sheet_90 : decode cX11_sheet 90 = .ok (.iinc 6 1, 3) := by decide +kernel
theorem dX11_sheet_93 : decode cX11_sheet 93 = .ok (.goto (-49), 3) := by decide +kernel
theorem dX11_sheet_96 : decode cX11_sheet 96 = .ok (.iload_n 1, 1) := by decide +kernel
theorem dX11_sheet_97 : decode cX11_sheet 97 = .ok (.iconst 3, 1) := by decide +kernel
theorem dX11_sheet_98 : decode cX11_sheet 98 = .ok (.if_icmp .ne 8, 3) := by decide +kernel
theorem dX11_sheet_101 : decode cX11_sheet 101 = .ok (.bipush (-3), 2) := by decide +kernel
theorem dX11_sheet_103 : decode cX11_sheet 103 = .ok (.goto 17, 3) := by decide +kernel
theorem dX11_sheet_106 : decode cX11_sheet 106 = .ok (.aload_n 0, 1) := by decide +kernel
theorem dX11_sheet_107 : decode cX11_sheet 107 = .ok (.getfield 33, 3) := by decide +kernel
theorem dX11_sheet_110 : decode cX11_sheet 110 = .ok (.aload_n 0, 1) := by decide +kernel
theorem dX11_sheet_111 : decode cX11_sheet 111 = .ok (.getfield 26, 3) := by decide +kernel
theorem dX11_sheet_114 : decode cX11_sheet 114 = .ok (.getfield 104, 3) := by decide +kernel
theorem dX11_sheet_117 : decode cX11_sheet 117 = .ok (.invokevirtual 232, 3) := by decide +kernel
theorem dX11_sheet_120 : decode cX11_sheet 120 = .ok (.ireturn, 1) := by decide +kernel
abbrev YX11_sheet : li_Y := (yX11_sheet, cX11_sheet, 7, (some .int))
theorem dX11_cost_0 : decode cX11_cost 0 = .ok (.aload_n 0, 1) := by decide +kernel
theorem dX11_cost_1 : decode cX11_cost 1 = .ok (.getfield 26, 3) := by decide +kernel
theorem dX11_cost_4 : decode cX11_cost 4 = .ok (.iload_n 1, 1) := by decide +kernel
theorem dX11_cost_5 : decode cX11_cost 5 = .ok (.invokevirtual 170, 3) := by decide +kernel
theorem dX11_cost_8 : decode cX11_cost 8 = .ok (.ifCond .eq 12, 3) := by decide +kernel
theorem dX11_cost_11 : decode cX11_cost 11 = .ok (.iload_n 2, 1) := by decide +kernel
theorem dX11_cost_12 : decode cX11_cost 12 = .ok (.iconst 0, 1) := by decide +kernel
theorem dX11_cost_13 : decode cX11_cost 13 = .ok (.iconst 3, 1) := by decide +kernel
theorem dX11_cost_14 : decode cX11_cost 14 = .ok (.invokestatic 128, 3) := by decide +kernel
theorem dX11_cost_17 : decode cX11_cost 17 = .ok (.ifCond .ne 5, 3) := by decide +kernel
theorem dX11_cost_20 : decode cX11_cost 20 = .ok (.iconst (-1), 1) := by decide +kernel
theorem dX11_cost_21 : decode cX11_cost 21 = .ok (.ireturn, 1) := by decide +kernel
theorem dX11_cost_22 : decode cX11_cost 22 = .ok (.aload_n 0, 1) := by decide +kernel
theorem dX11_cost_23 : decode cX11_cost 23 = .ok (.getfield 70, 3) := by decide +kernel
theorem dX11_cost_26 : decode cX11_cost 26 = .ok (.iload_n 1, 1) := by decide +kernel
theorem dX11_cost_27 : decode cX11_cost 27 = .ok (.iload_n 2, 1) := by decide +kernel
theorem dX11_cost_28 : decode cX11_cost 28 = .ok (.invokevirtual 235, 3) := by decide +kernel
theorem dX11_cost_31 : decode cX11_cost 31 = .ok (.ifCond .eq 15, 3) := by decide +kernel
theorem dX11_cost_34 : decode cX11_cost 34 = .ok (.aload_n 0, 1) := by decide +kernel
theorem dX11_cost_35 : decode cX11_cost 35 = .ok (.getfield 70, 3) := by decide +kernel
theorem dX11_cost_38 : decode cX11_cost 38 = .ok (.iload_n 1, 1) := by decide +kernel
theorem dX11_cost_39 : decode cX11_cost 39 = .ok (.iload_n 2, 1) := by decide +kernel
theorem dX11_cost_40 : decode cX11_cost 40 = .ok (.invokevirtual 238, 3) := by decide +kernel
theorem dX11_cost_43 : decode cX11_cost 43 = .ok (.goto 5, 3) := by decide +kernel
theorem dX11_cost_46 : decode cX11_cost 46 = .ok (.bipush (-2), 2) := by decide +kernel
theorem dX11_cost_48 : decode cX11_cost 48 = .ok (.ireturn, 1) := by decide +kernel
abbrev YX11_cost : li_Y := (yX11_cost, cX11_cost, 3, (some .int))
theorem dX11_say_0 : decode cX11_say 0 = .ok (.aload_n 0, 1) := by decide +kernel
theorem dX11_say_1 : decode cX11_say 1 = .ok (.getfield 40, 3) := by decide +kernel
theorem dX11_say_4 : decode cX11_say 4 = .ok (.aload_n 0, 1) := by decide +kernel
theorem dX11_say_5 : decode cX11_say 5 = .ok (.getfield 33, 3) := by decide +kernel
theorem dX11_say_8 : decode cX11_say 8 = .ok (.invokevirtual 241, 3) := by decide +kernel
theorem dX11_say_11 : decode cX11_say 11 = .ok (.aload_n 0, 1) := by decide +kernel
theorem dX11_say_12 : decode cX11_say 12 = .ok (.aload_n 0, 1) := by decide +kernel
theorem dX11_say_13 : decode cX11_say 13 = .ok (.iload_n 1, 1) := by decide +kernel
theorem dX11_say_14 : decode cX11_say 14 = .ok (.iload_n 2, 1) := by decide +kernel
theorem dX11_say_15 : decode cX11_say 15 = .ok (.invokevirtual 245, 3) := by decide +kernel
theorem dX11_say_18 : decode cX11_say 18 = .ok (.invokevirtual 248, 3) := by decide +kernel
theorem dX11_say_21 : decode cX11_say 21 = .ok (.ireturn, 1) := by decide +kernel
abbrev YX11_say : li_Y := (yX11_say, cX11_say, 3, (some .int))
theorem dX11_give_0 : decode cX11_give 0 = .ok (.aload_n 0, 1) := by decide +kernel
theorem dX11_give_1 : decode cX11_give 1 = .ok (.getfield 40, 3) := by decide +kernel
theorem dX11_give_4 : decode cX11_give 4 = .ok (.aload_n 0, 1) := by decide +kernel
theorem dX11_give_5 : decode cX11_give 5 = .ok (.getfield 33, 3) := by decide +kernel
theorem dX11_give_8 : decode cX11_give 8 = .ok (.invokevirtual 241, 3) := by decide +kernel
theorem dX11_give_11 : decode cX11_give 11 = .ok (.aload_n 0, 1) := by decide +kernel
theorem dX11_give_12 : decode cX11_give 12 = .ok (.aload_n 0, 1) := by decide +kernel
theorem dX11_give_13 : decode cX11_give 13 = .ok (.iload_n 1, 1) := by decide +kernel
theorem dX11_give_14 : decode cX11_give 14 = .ok (.iload_n 2, 1) := by decide +kernel
theorem dX11_give_15 : decode cX11_give 15 = .ok (.iload_n 3, 1) := by decide +kernel
theorem dX11_give_16 : decode cX11_give 16 = .ok (.invokevirtual 251, 3) := by decide +kernel
theorem dX11_give_19 : decode cX11_give 19 = .ok (.invokevirtual 248, 3) := by decide +kernel
theorem dX11_give_22 : decode cX11_give 22 = .ok (.ireturn, 1) := by decide +kernel
abbrev YX11_give : li_Y := (yX11_give, cX11_give, 4, (some .int))
theorem dX11_lend_0 : decode cX11_lend 0 = .ok (.aload_n 0, 1) := by decide +kernel
theorem dX11_lend_1 : decode cX11_lend 1 = .ok (.getfield 26, 3) := by decide +kernel
theorem dX11_lend_4 : decode cX11_lend 4 = .ok (.iload_n 1, 1) := by decide +kernel
theorem dX11_lend_5 : decode cX11_lend 5 = .ok (.iload_n 2, 1) := by decide +kernel
theorem dX11_lend_6 : decode cX11_lend 6 = .ok (.invokevirtual 254, 3) := by decide +kernel
theorem dX11_lend_9 : decode cX11_lend 9 = .ok (.ifCond .eq 14, 3) := by decide +kernel
theorem dX11_lend_12 : decode cX11_lend 12 = .ok (.iload_n 3, 1) := by decide +kernel
theorem dX11_lend_13 : decode cX11_lend 13 = .ok (.iconst 1, 1) := by decide +kernel
theorem dX11_lend_14 : decode cX11_lend 14 = .ok (.sipush 999, 3) := by decide +kernel
theorem dX11_lend_17 : decode cX11_lend 17 = .ok (.invokestatic 128, 3) := by decide +kernel
theorem dX11_lend_20 : decode cX11_lend 20 = .ok (.ifCond .ne 5, 3) := by decide +kernel
theorem dX11_lend_23 : decode cX11_lend 23 = .ok (.iconst (-1), 1) := by decide +kernel
theorem dX11_lend_24 : decode cX11_lend 24 = .ok (.ireturn, 1) := by decide +kernel
theorem dX11_lend_25 : decode cX11_lend 25 = .ok (.aload_n 0, 1) := by decide +kernel
theorem dX11_lend_26 : decode cX11_lend 26 = .ok (.getfield 33, 3) := by decide +kernel
theorem dX11_lend_29 : decode cX11_lend 29 = .ok (.getfield 204, 3) := by decide +kernel
theorem dX11_lend_32 : decode cX11_lend 32 = .ok (.bipush 6, 2) := by decide +kernel
theorem dX11_lend_34 : decode cX11_lend 34 = .ok (.if_icmp .lt 6, 3) := by decide +kernel
theorem dX11_lend_37 : decode cX11_lend 37 = .ok (.bipush (-3), 2) := by decide +kernel
theorem dX11_lend_39 : decode cX11_lend 39 = .ok (.ireturn, 1) := by decide +kernel
theorem dX11_lend_40 : decode cX11_lend 40 = .ok (.iload 4, 2) := by decide +kernel
theorem dX11_lend_42 : decode cX11_lend 42 = .ok (.aload_n 0, 1) := by decide +kernel
theorem dX11_lend_43 : decode cX11_lend 43 = .ok (.getfield 33, 3) := by decide +kernel
theorem dX11_lend_46 : decode cX11_lend 46 = .ok (.getfield 257, 3) := by decide +kernel
theorem dX11_lend_49 : decode cX11_lend 49 = .ok (.iconst 1, 1) := by decide +kernel
theorem dX11_lend_50 : decode cX11_lend 50 = .ok (.iadd, 1) := by decide +kernel
theorem dX11_lend_51 : decode cX11_lend 51 = .ok (.sipush 9999, 3) := by decide +kernel
theorem dX11_lend_54 : decode cX11_lend 54 = .ok (.invokestatic 128, 3) := by decide +kernel
theorem dX11_lend_57 : decode cX11_lend 57 = .ok (.ifCond .ne 6, 3) := by decide +kernel
theorem dX11_lend_60 : decode cX11_lend 60 = .ok (.bipush (-4), 2) := by decide +kernel
theorem dX11_lend_62 : decode cX11_lend 62 = .ok (.ireturn, 1) := by decide +kernel
theorem dX11_lend_63 : decode cX11_lend 63 = .ok (.aload_n 0, 1) := by decide +kernel
theorem dX11_lend_64 : decode cX11_lend 64 = .ok (.getfield 33, 3) := by decide +kernel
theorem dX11_lend_67 : decode cX11_lend 67 = .ok (.getfield 146, 3) := by decide +kernel
theorem dX11_lend_70 : decode cX11_lend 70 = .ok (.iload_n 1, 1) := by decide +kernel
theorem dX11_lend_71 : decode cX11_lend 71 = .ok (.invokestatic 142, 3) := by decide +kernel
theorem dX11_lend_74 : decode cX11_lend 74 = .ok (.iload_n 3, 1) := by decide +kernel
theorem dX11_lend_75 : decode cX11_lend 75 = .ok (.if_icmp .ge 6, 3) := by decide +kernel
theorem dX11_lend_78 : decode cX11_lend 78 = .ok (.bipush (-2), 2) := by decide +kernel
theorem dX11_lend_80 : decode cX11_lend 80 = .ok (.ireturn, 1) := by decide +kernel
theorem dX11_lend_81 : decode cX11_lend 81 = .ok (.aload_n 0, 1) := by decide +kernel
theorem dX11_lend_82 : decode cX11_lend 82 = .ok (.getfield 40, 3) := by decide +kernel
theorem dX11_lend_85 : decode cX11_lend 85 = .ok (.aload_n 0, 1) := by decide +kernel
theorem dX11_lend_86 : decode cX11_lend 86 = .ok (.getfield 33, 3) := by decide +kernel
theorem dX11_lend_89 : decode cX11_lend 89 = .ok (.invokevirtual 241, 3) := by decide +kernel
theorem dX11_lend_92 : decode cX11_lend 92 = .ok (.aload_n 0, 1) := by decide +kernel
theorem dX11_lend_93 : decode cX11_lend 93 = .ok (.getfield 33, 3) := by decide +kernel
theorem dX11_lend_96 : decode cX11_lend 96 = .ok (.iload_n 1, 1) := by decide +kernel
theorem dX11_lend_97 : decode cX11_lend 97 = .ok (.iload_n 2, 1) := by decide +kernel
theorem dX11_lend_98 : decode cX11_lend 98 = .ok (.iload_n 3, 1) := by decide +kernel
theorem dX11_lend_99 : decode cX11_lend 99 = .ok (.invokevirtual 260, 3) := by decide +kernel
theorem dX11_lend_102 : decode cX11_lend 102 = .ok (.aload_n 0, 1) := by decide +kernel
theorem dX11_lend_103 : decode cX11_lend 103 = .ok (.aload_n 0, 1) := by decide +kernel
theorem dX11_lend_104 : decode cX11_lend 104 = .ok (.getfield 33, 3) := by decide +kernel
theorem dX11_lend_107 : decode cX11_lend 107 = .ok (.iload_n 1, 1) := by decide +kernel
theorem dX11_lend_108 : decode cX11_lend 108 = .ok (.iload_n 2, 1) := by decide +kernel
theorem dX11_lend_109 : decode cX11_lend 109 = .ok (.iload_n 3, 1) := by decide +kernel
theorem dX11_lend_110 : decode cX11_lend 110 = .ok (.iload 4, 2) := by decide +kernel
theorem dX11_lend_112 : decode cX11_lend 112 = .ok (.invokevirtual 264, 3) := by decide +kernel
theorem dX11_lend_115 : decode cX11_lend 115 = .ok (.invokevirtual 248, 3) := by decide +kernel
theorem dX11_lend_118 : decode cX11_lend 118 = .ok (.ireturn, 1) := by decide +kernel
abbrev YX11_lend : li_Y := (yX11_lend, cX11_lend, 5, (some .int))
theorem dX11_days_0 : decode cX11_days 0 = .ok (.iload_n 1, 1) := by decide +kernel
theorem dX11_days_1 : decode cX11_days 1 = .ok (.iconst 0, 1) := by decide +kernel
theorem dX11_days_2 : decode cX11_days 2 = .ok (.bipush 99, 2) := by decide +kernel
theorem dX11_days_4 : decode cX11_days 4 = .ok (.invokestatic 128, 3) := by decide +kernel
theorem dX11_days_7 : decode cX11_days 7 = .ok (.ifCond .ne 5, 3) := by decide +kernel
theorem dX11_days_10 : decode cX11_days 10 = .ok (.iconst (-1), 1) := by decide +kernel
theorem dX11_days_11 : decode cX11_days 11 = .ok (.ireturn, 1) := by decide +kernel
theorem dX11_days_12 : decode cX11_days 12 = .ok (.aload_n 0, 1) := by decide +kernel
theorem dX11_days_13 : decode cX11_days 13 = .ok (.getfield 40, 3) := by decide +kernel
theorem dX11_days_16 : decode cX11_days 16 = .ok (.aload_n 0, 1) := by decide +kernel
theorem dX11_days_17 : decode cX11_days 17 = .ok (.getfield 33, 3) := by decide +kernel
theorem dX11_days_20 : decode cX11_days 20 = .ok (.invokevirtual 241, 3) := by decide +kernel
theorem dX11_days_23 : decode cX11_days 23 = .ok (.aload_n 0, 1) := by decide +kernel
theorem dX11_days_24 : decode cX11_days 24 = .ok (.getfield 33, 3) := by decide +kernel
theorem dX11_days_27 : decode cX11_days 27 = .ok (.invokevirtual 268, 3) := by decide +kernel
theorem dX11_days_30 : decode cX11_days 30 = .ok (.istore_n 2, 1) := by decide +kernel
theorem dX11_days_31 : decode cX11_days 31 = .ok (.aload_n 0, 1) := by decide +kernel
theorem dX11_days_32 : decode cX11_days 32 = .ok (.getfield 33, 3) := by decide +kernel
theorem dX11_days_35 : decode cX11_days 35 = .ok (.invokevirtual 272, 3) := by decide +kernel
theorem dX11_days_38 : decode cX11_days 38 = .ok (.lstore_n 3, 1) := by decide +kernel
theorem dX11_days_39 : decode cX11_days 39 = .ok (.aload_n 0, 1) := by decide +kernel
theorem dX11_days_40 : decode cX11_days 40 = .ok (.iload_n 1, 1) := by decide +kernel
theorem dX11_days_41 : decode cX11_days 41 = .ok (.invokevirtual 276, 3) := by decide +kernel
theorem dX11_days_44 : decode cX11_days 44 = .ok (.aload_n 0, 1) := by decide +kernel
theorem dX11_days_45 : decode cX11_days 45 = .ok (.getfield 19, 3) := by decide +kernel
theorem dX11_days_48 : decode cX11_days 48 = .ok (.aload_n 0, 1) := by decide +kernel
theorem dX11_days_49 : decode cX11_days 49 = .ok (.getfield 33, 3) := by decide +kernel
theorem dX11_days_52 : decode cX11_days 52 = .ok (.invokevirtual 268, 3) := by decide +kernel
theorem dX11_days_55 : decode cX11_days 55 = .ok (.iload_n 2, 1) := by decide +kernel
theorem dX11_days_56 : decode cX11_days 56 = .ok (.isub, 1) := by decide +kernel
theorem dX11_days_57 : decode cX11_days 57 = .ok (.aload_n 0, 1) := by decide +kernel
theorem dX11_days_58 : decode cX11_days 58 = .ok (.getfield 33, 3) := by decide +kernel
theorem dX11_days_61 : decode cX11_days 61 = .ok (.invokevirtual 272, 3) := by decide +kernel
theorem dX11_days_64 : decode cX11_days 64 = .ok (.lload_n 3, 1) := by decide +kernel
theorem dX11_days_65 : decode cX11_days 65 = .ok (.lsub, 1) := by decide +kernel
theorem dX11_days_66 : decode cX11_days 66 = .ok (.l2i, 1) := by decide +kernel
theorem dX11_days_67 : decode cX11_days 67 = .ok (.invokevirtual 280, 3) := by decide +kernel
theorem dX11_days_70 : decode cX11_days 70 = .ok (.iload_n 1, 1) := by decide +kernel
theorem dX11_days_71 : decode cX11_days 71 = .ok (.ifCond .le 10, 3) := by decide +kernel
theorem dX11_days_74 : decode cX11_days 74 = .ok (.aload_n 0, 1) := by decide +kernel
theorem dX11_days_75 : decode cX11_days 75 = .ok (.getfield 40, 3) := by decide +kernel
theorem dX11_days_78 : decode cX11_days 78 = .ok (.invokevirtual 284, 3) := by decide +kernel
theorem dX11_days_81 : decode cX11_days 81 = .ok (.aload_n 0, 1) := by decide +kernel
theorem dX11_days_82 : decode cX11_days 82 = .ok (.getfield 33, 3) := by decide +kernel
theorem dX11_days_85 : decode cX11_days 85 = .ok (.getfield 257, 3) := by decide +kernel
theorem dX11_days_88 : decode cX11_days 88 = .ok (.ireturn, 1) := by decide +kernel
abbrev YX11_days : li_Y := (yX11_days, cX11_days, 5, (some .int))
theorem dX11_talk_0 : decode cX11_talk 0 = .ok (.aload_n 0, 1) := by decide +kernel
theorem dX11_talk_1 : decode cX11_talk 1 = .ok (.iconst 2, 1) := by decide +kernel
theorem dX11_talk_2 : decode cX11_talk 2 = .ok (.bipush 40, 2) := by decide +kernel
theorem dX11_talk_4 : decode cX11_talk 4 = .ok (.bipush 60, 2) := by decide +kernel
theorem dX11_talk_6 : decode cX11_talk 6 = .ok (.invokevirtual 107, 3) := by decide +kernel
theorem dX11_talk_9 : decode cX11_talk 9 = .ok (.istore_n 1, 1) := by decide +kernel
theorem dX11_talk_10 : decode cX11_talk 10 = .ok (.iload_n 1, 1) := by decide +kernel
theorem dX11_talk_11 : decode cX11_talk 11 = .ok (.ifCond .ge 5, 3) := by decide +kernel
theorem dX11_talk_14 : decode cX11_talk 14 = .ok (.iload_n 1, 1) := by decide +kernel
theorem dX11_talk_15 : decode cX11_talk 15 = .ok (.ireturn, 1) := by decide +kernel
theorem dX11_talk_16 : decode cX11_talk 16 = .ok (.aload_n 0, 1) := by decide +kernel
theorem dX11_talk_17 : decode cX11_talk 17 = .ok (.getfield 40, 3) := by decide +kernel
theorem dX11_talk_20 : decode cX11_talk 20 = .ok (.aload_n 0, 1) := by decide +kernel
theorem dX11_talk_21 : decode cX11_talk 21 = .ok (.getfield 33, 3) := by decide +kernel
theorem dX11_talk_24 : decode cX11_talk 24 = .ok (.invokevirtual 241, 3) := by decide +kernel
theorem dX11_talk_27 : decode cX11_talk 27 = .ok (.iconst 0, 1) := by decide +kernel
theorem dX11_talk_28 : decode cX11_talk 28 = .ok (.istore_n 2, 1) := by decide +kernel
theorem dX11_talk_29 : decode cX11_talk 29 = .ok (.iconst 0, 1) := by decide +kernel
theorem dX11_talk_30 : decode cX11_talk 30 = .ok (.istore_n 3, 1) := by decide +kernel
theorem dX11_talk_31 : decode cX11_talk 31 = .ok (.iconst 0, 1) := by decide +kernel
theorem dX11_talk_32 : decode cX11_talk 32 = .ok (.istore 4, 2) := by decide +kernel
theorem dX11_talk_34 : decode cX11_talk 34 = .ok (.iload 4, 2) := by decide +kernel
theorem dX11_talk_36 : decode cX11_talk 36 = .ok (.iload_n 1, 1) := by decide +kernel
theorem dX11_talk_37 : decode cX11_talk 37 = .ok (.if_icmp .ge 46, 3) := by decide +kernel
theorem dX11_talk_40 : decode cX11_talk 40 = .ok (.aload_n 0, 1) := by decide +kernel
theorem dX11_talk_41 : decode cX11_talk 41 = .ok (.iload 4, 2) := by decide +kernel
theorem dX11_talk_43 : decode cX11_talk 43 = .ok (.invokevirtual 287, 3) := by decide +kernel
theorem dX11_talk_46 : decode cX11_talk 46 = .ok (.istore 5, 2) := by decide +kernel
theorem dX11_talk_48 : decode cX11_talk 48 = .ok (.iload 5, 2) := by decide +kernel
theorem dX11_talk_50 : decode cX11_talk 50 = .ok (.ifCond .ge 6, 3) := by decide +kernel
theorem dX11_talk_53 : decode cX11_talk 53 = .ok (.goto 30, 3) := by decide +kernel
theorem dX11_talk_56 : decode cX11_talk 56 = .ok (.iload_n 3, 1) := by decide +kernel
theorem dX11_talk_57 : decode cX11_talk 57 = .ok (.aload_n 0, 1) := by decide +kernel
theorem dX11_talk_58 : decode cX11_talk 58 = .ok (.iload 4, 2) := by decide +kernel
theorem dX11_talk_60 : decode cX11_talk 60 = .ok (.invokevirtual 290, 3) := by decide +kernel
theorem dX11_talk_63 : decode cX11_talk 63 = .ok (.ifCond .eq 8, 3) := by decide +kernel
theorem dX11_talk_66 : decode cX11_talk 66 = .ok (.iload 5, 2) := by decide +kernel
theorem dX11_talk_68 : decode cX11_talk 68 = .ok (.goto 4, 3) := by decide +kernel
theorem dX11_talk_71 : decode cX11_talk 71 = .ok (.iconst 0, 1) := by decide +kernel
theorem dX11_talk_72 : decode cX11_talk 72 = .ok (.iadd, 1) := by decide +kernel
theorem dX11_talk_73 : decode cX11_talk 73 = .ok (.istore_n 3, 1) := by decide +kernel
theorem dX11_talk_74 : decode cX11_talk 74 = .ok (.iinc 2 1, 3) := by decide +kernel
theorem dX11_talk_77 : decode cX11_talk 77 = .ok (.iinc 4 1, 3) := by decide +kernel
theorem dX11_talk_80 : decode cX11_talk 80 = .ok (.goto (-46), 3) := by decide +kernel
theorem dX11_talk_83 : decode cX11_talk 83 = .ok (.iload_n 2, 1) := by decide +kernel
theorem dX11_talk_84 : decode cX11_talk 84 = .ok (.ifCond .le 10, 3) := by decide +kernel
theorem dX11_talk_87 : decode cX11_talk 87 = .ok (.aload_n 0, 1) := by decide +kernel
theorem dX11_talk_88 : decode cX11_talk 88 = .ok (.getfield 40, 3) := by decide +kernel
theorem dX11_talk_91 : decode cX11_talk 91 = .ok (.invokevirtual 284, 3) := by decide +kernel
theorem dX11_talk_94 : decode cX11_talk 94 = .ok (.aload_n 0, 1) := by decide +kernel
theorem dX11_talk_95 : decode cX11_talk 95 = .ok (.getfield 19, 3) := by decide +kernel
theorem dX11_talk_98 : decode cX11_talk 98 = .ok (.iload_n 2, 1) := by decide +kernel
theorem dX11_talk_99 : decode cX11_talk 99 = .ok (.iload_n 1, 1) := by decide +kernel
theorem dX11_talk_100 : decode cX11_talk 100 = .ok (.if_icmp .ge 7, 3) := by decide +kernel
theorem dX11_talk_103 : decode cX11_talk 103 = .ok (.iconst 1, 1) := by decide +kernel
theorem dX11_talk_104 : decode cX11_talk 104 = .ok (.goto 4, 3) := by decide +kernel
theorem dX11_talk_107 : decode cX11_talk 107 = .ok (.iconst 0, 1) := by decide +kernel
theorem dX11_talk_108 : decode cX11_talk 108 = .ok (.iload_n 3, 1) := by decide +kernel
theorem dX11_talk_109 : decode cX11_talk 109 = .ok (.invokevirtual 280, 3) := by decide +kernel
theorem dX11_talk_112 : decode cX11_talk 112 = .ok (.iload_n 2, 1) := by decide +kernel
theorem dX11_talk_113 : decode cX11_talk 113 = .ok (.ireturn, 1) := by decide +kernel
abbrev YX11_talk : li_Y := (yX11_talk, cX11_talk, 6, (some .int))
theorem dX11_undo_0 : decode cX11_undo 0 = .ok (.aload_n 0, 1) := by decide +kernel
theorem dX11_undo_1 : decode cX11_undo 1 = .ok (.getfield 40, 3) := by decide +kernel
theorem dX11_undo_4 : decode cX11_undo 4 = .ok (.aload_n 0, 1) := by decide +kernel
theorem dX11_undo_5 : decode cX11_undo 5 = .ok (.getfield 33, 3) := by decide +kernel
theorem dX11_undo_8 : decode cX11_undo 8 = .ok (.invokevirtual 293, 3) := by decide +kernel
theorem dX11_undo_11 : decode cX11_undo 11 = .ok (.ifCond .eq 13, 3) := by decide +kernel
theorem dX11_undo_14 : decode cX11_undo 14 = .ok (.aload_n 0, 1) := by decide +kernel
theorem dX11_undo_15 : decode cX11_undo 15 = .ok (.getfield 40, 3) := by decide +kernel
theorem dX11_undo_18 : decode cX11_undo 18 = .ok (.getfield 297, 3) := by decide +kernel
theorem dX11_undo_21 : decode cX11_undo 21 = .ok (.goto 4, 3) := by decide +kernel
theorem dX11_undo_24 : decode cX11_undo 24 = .ok (.iconst (-1), 1) := by decide +kernel
theorem dX11_undo_25 : decode cX11_undo 25 = .ok (.ireturn, 1) := by decide +kernel
abbrev YX11_undo : li_Y := (yX11_undo, cX11_undo, 1, (some .int))
set_option maxRecDepth 100000 in
set_option maxHeartbeats 4000000 in
theorem k_X11_sheet {l : Launch} {Z : li_Z} (d : Nat) (hd : 3 ≤ d) (p1 : Int32) (p2 : Int32) (p3 : Int32) (p4 : Int32) (M0 : li_M) : li_Met l Z YX11_sheet d [.ref (Z.2.2 0), .int p1, .int p2, .int p3, .int p4] M0 (li_SI (fun i => i = 14) M0) := by
  refine li_enter (by decide +kernel) (Nat.le_of_ble_eq_true rfl) ?_
  show li_T l Z YX11_sheet d 0 [(0, .ref (Z.2.2 0)), (1, .int p1), (2, .int p2), (3, .int p3), (4, .int p4)] [] M0 _
  have hf : li_fr (fun i => i = 14) M0 M0 := li_fr_refl
  refine li_iload_n 1 dX11_sheet_0 rfl ?_
  refine li_iconst 0 dX11_sheet_1 (by decide) ?_
  refine li_iconst 3 dX11_sheet_2 (by decide) ?_
  refine li_callS (n := 3) (As := [.int p1, .int 0, .int 3]) dX11_sheet_3 (k_X11_within (d - 1) (by omega) p1 0 3 M0) (by omega) (Nat.le_of_ble_eq_true rfl) w_762 w_639 w_101 w_640 (by decide +kernel) rfl rfl (Nat.le_of_ble_eq_true rfl) (fun r M2 h3 => ?_)
  obtain ⟨⟨x1, rfl, bx1, qx1⟩, h3⟩ := h3
  have hf := li_fr_trans hf h3 (fun i h => False.elim h)
  refine li_if_eq 15 dX11_sheet_6 (by decide) (fun c4 => ?_) (fun c4 => ?_)
  · refine li_iconst (-1) dX11_sheet_15 (by decide) ?_
    exact li_iret dX11_sheet_16 rfl rfl ⟨⟨_, rfl⟩, hf⟩
  · refine li_iload_n 2 dX11_sheet_9 rfl ?_
    refine li_bipush 6 dX11_sheet_10 (by decide) ?_
    refine li_icmp_le 17 dX11_sheet_12 (by decide) (fun c5 => ?_) (fun c5 => ?_)
    · refine li_iload_n 1 dX11_sheet_17 rfl ?_
      refine li_iconst 3 dX11_sheet_18 (by decide) ?_
      refine li_icmp_eq 29 dX11_sheet_19 (by decide) (fun c6 => ?_) (fun c6 => ?_)
      · refine li_iload_n 1 dX11_sheet_29 rfl ?_
        refine li_iconst 3 dX11_sheet_30 (by decide) ?_
        have J39 : ∀ (x8 : Int32) (M9 : li_M), li_fr (fun i => i = 14) M0 M9 → li_T l Z YX11_sheet d 39 [(0, .ref (Z.2.2 0)), (1, .int p1), (2, .int p2), (3, .int p3), (4, .int p4)] [.int x8] M9 (li_SI (fun i => i = 14) M0) := by
          intro x8 M9 hf
          refine li_istore [(5, .int x8), (0, .ref (Z.2.2 0)), (1, .int p1), (2, .int p2), (3, .int p3), (4, .int p4)] dX11_sheet_39 (by decide) rfl ?_
          refine li_iconst 0 dX11_sheet_41 (by decide) ?_
          refine li_istore [(6, .int 0), (5, .int x8), (0, .ref (Z.2.2 0)), (1, .int p1), (2, .int p2), (3, .int p3), (4, .int p4)] dX11_sheet_42 (by decide) rfl ?_
          have L44 : ∀ (n : Nat) (x10 : Int32) (M11 : li_M), (2147483647 - (x10 : Int32).toInt).toNat < n → li_fr (fun i => i = 14) M0 M11 → li_T l Z YX11_sheet d 44 [(6, .int x10), (5, .int x8), (0, .ref (Z.2.2 0)), (1, .int p1), (2, .int p2), (3, .int p3), (4, .int p4)] [] M11 (li_SI (fun i => i = 14) M0) := by
            intro n
            induction n with
            | zero => intro x10 M11 hn; exact absurd hn (Nat.not_lt_zero _)
            | succ n ih44 =>
              intro x10 M11 hn hf
              refine li_iload 0 dX11_sheet_44 rfl ?_
              refine li_aload_n 2 dX11_sheet_46 rfl ?_
              refine li_getr (k := 2) (N := 13) (T := TX11) (C0 := RX11) dX11_sheet_47 (by decide) sh_0 rfl rfl (by decide) (by decide) li_in11 w_475 ?_
              refine li_geti (k := 0) (N := 9) (T := TX8) (C0 := RX8) dX11_sheet_50 (by decide) sh_5 rfl rfl (by decide) li_in8 w_178 ?_
              refine li_top (fun x12 ex12 => ?_)
              refine li_icmp_ge 96 dX11_sheet_53 (by decide) (fun c13 => ?_) (fun c13 => ?_)
              · refine li_iload_n 3 dX11_sheet_96 rfl ?_
                refine li_iconst 3 dX11_sheet_97 (by decide) ?_
                refine li_icmp_ne 106 dX11_sheet_98 (by decide) (fun c14 => ?_) (fun c14 => ?_)
                · refine li_aload_n 2 dX11_sheet_106 rfl ?_
                  refine li_getr (k := 3) (N := 13) (T := TX11) (C0 := RX11) dX11_sheet_107 (by decide) sh_0 rfl rfl (by decide) (by decide) li_in11 w_476 ?_
                  refine li_aload_n 2 dX11_sheet_110 rfl ?_
                  refine li_getr (k := 2) (N := 13) (T := TX11) (C0 := RX11) dX11_sheet_111 (by decide) sh_0 rfl rfl (by decide) (by decide) li_in11 w_475 ?_
                  refine li_geti (k := 0) (N := 9) (T := TX8) (C0 := RX8) dX11_sheet_114 (by decide) sh_5 rfl rfl (by decide) li_in8 w_178 ?_
                  refine li_top (fun x15 ex15 => ?_)
                  refine li_callV (n := 1) (As := [.int x15]) dX11_sheet_117 (k_X4_allClocks (d - 1) (by omega) x15 M11) (by omega) (Nat.le_of_ble_eq_true rfl) w_776 w_777 w_778 w_105 w_779 (by decide +kernel) rfl (by decide) sh_13 rfl rfl (Nat.le_of_ble_eq_true rfl) (fun r M17 h18 => ?_)
                  obtain ⟨⟨x16, rfl⟩, h18⟩ := h18
                  have hf := li_fr_trans hf h18 (fun i h => False.elim h)
                  exact li_iret dX11_sheet_120 rfl rfl ⟨⟨_, rfl⟩, hf⟩
                · refine li_bipush (-3) dX11_sheet_101 (by decide) ?_
                  refine li_goto 120 dX11_sheet_103 (by decide) ?_
                  exact li_iret dX11_sheet_120 rfl rfl ⟨⟨_, rfl⟩, hf⟩
              · refine li_aload_n 2 dX11_sheet_56 rfl ?_
                refine li_getr (k := 3) (N := 13) (T := TX11) (C0 := RX11) dX11_sheet_57 (by decide) sh_0 rfl rfl (by decide) (by decide) li_in11 w_476 ?_
                refine li_getr (k := 4) (N := 11) (T := TX4) (C0 := RX4) dX11_sheet_60 (by decide) sh_13 rfl rfl (by decide) (by decide) li_in4 w_243 ?_
                refine li_iload 0 dX11_sheet_63 rfl ?_
                refine li_iload 0 dX11_sheet_65 rfl ?_
                refine li_iload 1 dX11_sheet_67 rfl ?_
                have J87 : ∀ (x20 : Int32) (M21 : li_M), li_fr (fun i => i = 14) M0 M21 → li_T l Z YX11_sheet d 87 [(6, .int x10), (5, .int x8), (0, .ref (Z.2.2 0)), (1, .int p1), (2, .int p2), (3, .int p3), (4, .int p4)] [.int x20, .int x10, .ref (Z.2.2 14)] M21 (li_SI (fun i => i = 14) M0) := by
                  intro x20 M21 hf
                  refine li_callS (n := 3) (As := [.ref (Z.2.2 14), .int x10, .int x20]) dX11_sheet_87 (k_X11_put (d - 1) (by omega) (by decide) sh_14 (by decide) x10 x20 M21) (by omega) (Nat.le_of_ble_eq_true rfl) w_710 w_522 w_101 w_523 (by decide +kernel) rfl rfl (Nat.le_of_ble_eq_true rfl) (fun r M23 h24 => ?_)
                  obtain ⟨rfl, h24⟩ := h24
                  have hf := li_fr_trans hf h24 (fun i (h : i = 14) => (show i = 14 by omega))
                  obtain ⟨x25, ex25⟩ : ∃ y : Int32, y = x10 + 1 := ⟨_, rfl⟩
                  refine li_iinc 0 [(6, .int x25), (5, .int x8), (0, .ref (Z.2.2 0)), (1, .int p1), (2, .int p2), (3, .int p3), (4, .int p4)] x25 dX11_sheet_90 rfl (by rw [ex25]; rfl) (by decide) rfl ?_
                  refine li_goto 44 dX11_sheet_93 (by decide) ?_
                  refine li_pick [0, 1, 2, 3, 4, 5, 6] [(6, .int x25), (5, .int x8), (0, .ref (Z.2.2 0)), (1, .int p1), (2, .int p2), (3, .int p3), (4, .int p4)] rfl ?_
                  exact ih44 x25 M23 (by have h9 := li_up (li_gt c13); rw [← ex25] at h9; omega) hf
                refine li_icmp_ge 86 dX11_sheet_69 (by decide) (fun c19 => ?_) (fun c19 => ?_)
                · refine li_iconst 0 dX11_sheet_86 (by decide) ?_
                  refine li_pick [0, 1, 2, 3, 4, 5, 6] [(6, .int x10), (5, .int x8), (0, .ref (Z.2.2 0)), (1, .int p1), (2, .int p2), (3, .int p3), (4, .int p4)] rfl ?_
                  exact J87 0 M11 hf
                · refine li_iload_n 3 dX11_sheet_72 rfl ?_
                  refine li_iload_n 5 dX11_sheet_73 rfl ?_
                  refine li_iload 0 dX11_sheet_74 rfl ?_
                  refine li_iload 6 dX11_sheet_76 rfl ?_
                  refine li_imul dX11_sheet_78 ?_
                  refine li_top (fun x26 ex26 => ?_)
                  refine li_iadd dX11_sheet_79 ?_
                  refine li_top (fun x27 ex27 => ?_)
                  refine li_callS (n := 2) (As := [.int p1, .int x27]) dX11_sheet_80 (k_X11_entryOf (d - 1) (by omega) p1 x27 M11) (by omega) (Nat.le_of_ble_eq_true rfl) w_768 w_769 w_101 w_770 (by decide +kernel) rfl rfl (Nat.le_of_ble_eq_true rfl) (fun r M29 h30 => ?_)
                  obtain ⟨⟨x28, rfl⟩, h30⟩ := h30
                  have hf := li_fr_trans hf h30 (fun i h => False.elim h)
                  refine li_goto 87 dX11_sheet_83 (by decide) ?_
                  refine li_pick [0, 1, 2, 3, 4, 5, 6] [(6, .int x10), (5, .int x8), (0, .ref (Z.2.2 0)), (1, .int p1), (2, .int p2), (3, .int p3), (4, .int p4)] rfl ?_
                  exact J87 x28 M29 hf
          exact L44 _ 0 M9 (Nat.lt_succ_self _) hf
        refine li_icmp_ne 38 dX11_sheet_31 (by decide) (fun c7 => ?_) (fun c7 => ?_)
        · refine li_iload_n 2 dX11_sheet_38 rfl ?_
          refine li_pick [0, 1, 2, 3, 4] [(0, .ref (Z.2.2 0)), (1, .int p1), (2, .int p2), (3, .int p3), (4, .int p4)] rfl ?_
          exact J39 p2 M2 hf
        · refine li_iconst 0 dX11_sheet_34 (by decide) ?_
          refine li_goto 39 dX11_sheet_35 (by decide) ?_
          refine li_pick [0, 1, 2, 3, 4] [(0, .ref (Z.2.2 0)), (1, .int p1), (2, .int p2), (3, .int p3), (4, .int p4)] rfl ?_
          exact J39 0 M2 hf
      · refine li_iload_n 2 dX11_sheet_22 rfl ?_
        refine li_if_ge 29 dX11_sheet_23 (by decide) (fun c31 => ?_) (fun c31 => ?_)
        · refine li_iload_n 1 dX11_sheet_29 rfl ?_
          refine li_iconst 3 dX11_sheet_30 (by decide) ?_
          have J39 : ∀ (x33 : Int32) (M34 : li_M), li_fr (fun i => i = 14) M0 M34 → li_T l Z YX11_sheet d 39 [(0, .ref (Z.2.2 0)), (1, .int p1), (2, .int p2), (3, .int p3), (4, .int p4)] [.int x33] M34 (li_SI (fun i => i = 14) M0) := by
            intro x33 M34 hf
            refine li_istore [(5, .int x33), (0, .ref (Z.2.2 0)), (1, .int p1), (2, .int p2), (3, .int p3), (4, .int p4)] dX11_sheet_39 (by decide) rfl ?_
            refine li_iconst 0 dX11_sheet_41 (by decide) ?_
            refine li_istore [(6, .int 0), (5, .int x33), (0, .ref (Z.2.2 0)), (1, .int p1), (2, .int p2), (3, .int p3), (4, .int p4)] dX11_sheet_42 (by decide) rfl ?_
            have L44 : ∀ (n : Nat) (x35 : Int32) (M36 : li_M), (2147483647 - (x35 : Int32).toInt).toNat < n → li_fr (fun i => i = 14) M0 M36 → li_T l Z YX11_sheet d 44 [(6, .int x35), (5, .int x33), (0, .ref (Z.2.2 0)), (1, .int p1), (2, .int p2), (3, .int p3), (4, .int p4)] [] M36 (li_SI (fun i => i = 14) M0) := by
              intro n
              induction n with
              | zero => intro x35 M36 hn; exact absurd hn (Nat.not_lt_zero _)
              | succ n ih44 =>
                intro x35 M36 hn hf
                refine li_iload 0 dX11_sheet_44 rfl ?_
                refine li_aload_n 2 dX11_sheet_46 rfl ?_
                refine li_getr (k := 2) (N := 13) (T := TX11) (C0 := RX11) dX11_sheet_47 (by decide) sh_0 rfl rfl (by decide) (by decide) li_in11 w_475 ?_
                refine li_geti (k := 0) (N := 9) (T := TX8) (C0 := RX8) dX11_sheet_50 (by decide) sh_5 rfl rfl (by decide) li_in8 w_178 ?_
                refine li_top (fun x37 ex37 => ?_)
                refine li_icmp_ge 96 dX11_sheet_53 (by decide) (fun c38 => ?_) (fun c38 => ?_)
                · refine li_iload_n 3 dX11_sheet_96 rfl ?_
                  refine li_iconst 3 dX11_sheet_97 (by decide) ?_
                  refine li_icmp_ne 106 dX11_sheet_98 (by decide) (fun c39 => ?_) (fun c39 => ?_)
                  · refine li_aload_n 2 dX11_sheet_106 rfl ?_
                    refine li_getr (k := 3) (N := 13) (T := TX11) (C0 := RX11) dX11_sheet_107 (by decide) sh_0 rfl rfl (by decide) (by decide) li_in11 w_476 ?_
                    refine li_aload_n 2 dX11_sheet_110 rfl ?_
                    refine li_getr (k := 2) (N := 13) (T := TX11) (C0 := RX11) dX11_sheet_111 (by decide) sh_0 rfl rfl (by decide) (by decide) li_in11 w_475 ?_
                    refine li_geti (k := 0) (N := 9) (T := TX8) (C0 := RX8) dX11_sheet_114 (by decide) sh_5 rfl rfl (by decide) li_in8 w_178 ?_
                    refine li_top (fun x40 ex40 => ?_)
                    refine li_callV (n := 1) (As := [.int x40]) dX11_sheet_117 (k_X4_allClocks (d - 1) (by omega) x40 M36) (by omega) (Nat.le_of_ble_eq_true rfl) w_776 w_777 w_778 w_105 w_779 (by decide +kernel) rfl (by decide) sh_13 rfl rfl (Nat.le_of_ble_eq_true rfl) (fun r M42 h43 => ?_)
                    obtain ⟨⟨x41, rfl⟩, h43⟩ := h43
                    have hf := li_fr_trans hf h43 (fun i h => False.elim h)
                    exact li_iret dX11_sheet_120 rfl rfl ⟨⟨_, rfl⟩, hf⟩
                  · refine li_bipush (-3) dX11_sheet_101 (by decide) ?_
                    refine li_goto 120 dX11_sheet_103 (by decide) ?_
                    exact li_iret dX11_sheet_120 rfl rfl ⟨⟨_, rfl⟩, hf⟩
                · refine li_aload_n 2 dX11_sheet_56 rfl ?_
                  refine li_getr (k := 3) (N := 13) (T := TX11) (C0 := RX11) dX11_sheet_57 (by decide) sh_0 rfl rfl (by decide) (by decide) li_in11 w_476 ?_
                  refine li_getr (k := 4) (N := 11) (T := TX4) (C0 := RX4) dX11_sheet_60 (by decide) sh_13 rfl rfl (by decide) (by decide) li_in4 w_243 ?_
                  refine li_iload 0 dX11_sheet_63 rfl ?_
                  refine li_iload 0 dX11_sheet_65 rfl ?_
                  refine li_iload 1 dX11_sheet_67 rfl ?_
                  have J87 : ∀ (x45 : Int32) (M46 : li_M), li_fr (fun i => i = 14) M0 M46 → li_T l Z YX11_sheet d 87 [(6, .int x35), (5, .int x33), (0, .ref (Z.2.2 0)), (1, .int p1), (2, .int p2), (3, .int p3), (4, .int p4)] [.int x45, .int x35, .ref (Z.2.2 14)] M46 (li_SI (fun i => i = 14) M0) := by
                    intro x45 M46 hf
                    refine li_callS (n := 3) (As := [.ref (Z.2.2 14), .int x35, .int x45]) dX11_sheet_87 (k_X11_put (d - 1) (by omega) (by decide) sh_14 (by decide) x35 x45 M46) (by omega) (Nat.le_of_ble_eq_true rfl) w_710 w_522 w_101 w_523 (by decide +kernel) rfl rfl (Nat.le_of_ble_eq_true rfl) (fun r M48 h49 => ?_)
                    obtain ⟨rfl, h49⟩ := h49
                    have hf := li_fr_trans hf h49 (fun i (h : i = 14) => (show i = 14 by omega))
                    obtain ⟨x50, ex50⟩ : ∃ y : Int32, y = x35 + 1 := ⟨_, rfl⟩
                    refine li_iinc 0 [(6, .int x50), (5, .int x33), (0, .ref (Z.2.2 0)), (1, .int p1), (2, .int p2), (3, .int p3), (4, .int p4)] x50 dX11_sheet_90 rfl (by rw [ex50]; rfl) (by decide) rfl ?_
                    refine li_goto 44 dX11_sheet_93 (by decide) ?_
                    refine li_pick [0, 1, 2, 3, 4, 5, 6] [(6, .int x50), (5, .int x33), (0, .ref (Z.2.2 0)), (1, .int p1), (2, .int p2), (3, .int p3), (4, .int p4)] rfl ?_
                    exact ih44 x50 M48 (by have h9 := li_up (li_gt c38); rw [← ex50] at h9; omega) hf
                  refine li_icmp_ge 86 dX11_sheet_69 (by decide) (fun c44 => ?_) (fun c44 => ?_)
                  · refine li_iconst 0 dX11_sheet_86 (by decide) ?_
                    refine li_pick [0, 1, 2, 3, 4, 5, 6] [(6, .int x35), (5, .int x33), (0, .ref (Z.2.2 0)), (1, .int p1), (2, .int p2), (3, .int p3), (4, .int p4)] rfl ?_
                    exact J87 0 M36 hf
                  · refine li_iload_n 3 dX11_sheet_72 rfl ?_
                    refine li_iload_n 5 dX11_sheet_73 rfl ?_
                    refine li_iload 0 dX11_sheet_74 rfl ?_
                    refine li_iload 6 dX11_sheet_76 rfl ?_
                    refine li_imul dX11_sheet_78 ?_
                    refine li_top (fun x51 ex51 => ?_)
                    refine li_iadd dX11_sheet_79 ?_
                    refine li_top (fun x52 ex52 => ?_)
                    refine li_callS (n := 2) (As := [.int p1, .int x52]) dX11_sheet_80 (k_X11_entryOf (d - 1) (by omega) p1 x52 M36) (by omega) (Nat.le_of_ble_eq_true rfl) w_768 w_769 w_101 w_770 (by decide +kernel) rfl rfl (Nat.le_of_ble_eq_true rfl) (fun r M54 h55 => ?_)
                    obtain ⟨⟨x53, rfl⟩, h55⟩ := h55
                    have hf := li_fr_trans hf h55 (fun i h => False.elim h)
                    refine li_goto 87 dX11_sheet_83 (by decide) ?_
                    refine li_pick [0, 1, 2, 3, 4, 5, 6] [(6, .int x35), (5, .int x33), (0, .ref (Z.2.2 0)), (1, .int p1), (2, .int p2), (3, .int p3), (4, .int p4)] rfl ?_
                    exact J87 x53 M54 hf
            exact L44 _ 0 M34 (Nat.lt_succ_self _) hf
          refine li_icmp_ne 38 dX11_sheet_31 (by decide) (fun c32 => ?_) (fun c32 => ?_)
          · refine li_iload_n 2 dX11_sheet_38 rfl ?_
            refine li_pick [0, 1, 2, 3, 4] [(0, .ref (Z.2.2 0)), (1, .int p1), (2, .int p2), (3, .int p3), (4, .int p4)] rfl ?_
            exact J39 p2 M2 hf
          · refine li_iconst 0 dX11_sheet_34 (by decide) ?_
            refine li_goto 39 dX11_sheet_35 (by decide) ?_
            refine li_pick [0, 1, 2, 3, 4] [(0, .ref (Z.2.2 0)), (1, .int p1), (2, .int p2), (3, .int p3), (4, .int p4)] rfl ?_
            exact J39 0 M2 hf
        · refine li_bipush (-2) dX11_sheet_26 (by decide) ?_
          exact li_iret dX11_sheet_28 rfl rfl ⟨⟨_, rfl⟩, hf⟩
    · refine li_iconst (-1) dX11_sheet_15 (by decide) ?_
      exact li_iret dX11_sheet_16 rfl rfl ⟨⟨_, rfl⟩, hf⟩
set_option maxRecDepth 100000 in
set_option maxHeartbeats 4000000 in
theorem k_X11_cost {l : Launch} {Z : li_Z} (d : Nat) (hd : 6 ≤ d) (p1 : Int32) (p2 : Int32) (M0 : li_M) : li_Met l Z YX11_cost d [.ref (Z.2.2 0), .int p1, .int p2] M0 (li_SI (fun i => i = 146 ∨ i = 147) M0) := by
  refine li_enter (by decide +kernel) (Nat.le_of_ble_eq_true rfl) ?_
  show li_T l Z YX11_cost d 0 [(0, .ref (Z.2.2 0)), (1, .int p1), (2, .int p2)] [] M0 _
  have hf : li_fr (fun i => i = 146 ∨ i = 147) M0 M0 := li_fr_refl
  refine li_aload_n 0 dX11_cost_0 rfl ?_
  refine li_getr (k := 2) (N := 13) (T := TX11) (C0 := RX11) dX11_cost_1 (by decide) sh_0 rfl rfl (by decide) (by decide) li_in11 w_475 ?_
  refine li_iload_n 1 dX11_cost_4 rfl ?_
  refine li_callV (n := 1) (As := [.int p1]) dX11_cost_5 (k_X8_hasThing (d - 1) (by omega) p1 M0) (by omega) (Nat.le_of_ble_eq_true rfl) w_784 w_785 w_786 w_104 w_787 (by decide +kernel) rfl (by decide) sh_5 rfl rfl (Nat.le_of_ble_eq_true rfl) (fun r M2 h3 => ?_)
  obtain ⟨⟨x1, rfl, bx1⟩, h3⟩ := h3
  have hf := li_fr_trans hf h3 (fun i h => False.elim h)
  refine li_if_eq 20 dX11_cost_8 (by decide) (fun c4 => ?_) (fun c4 => ?_)
  · refine li_iconst (-1) dX11_cost_20 (by decide) ?_
    exact li_iret dX11_cost_21 rfl rfl ⟨⟨_, rfl⟩, hf⟩
  · refine li_iload_n 2 dX11_cost_11 rfl ?_
    refine li_iconst 0 dX11_cost_12 (by decide) ?_
    refine li_iconst 3 dX11_cost_13 (by decide) ?_
    refine li_callS (n := 3) (As := [.int p2, .int 0, .int 3]) dX11_cost_14 (k_X11_within (d - 1) (by omega) p2 0 3 M2) (by omega) (Nat.le_of_ble_eq_true rfl) w_762 w_639 w_101 w_640 (by decide +kernel) rfl rfl (Nat.le_of_ble_eq_true rfl) (fun r M6 h7 => ?_)
    obtain ⟨⟨x5, rfl, bx5, qx5⟩, h7⟩ := h7
    have hf := li_fr_trans hf h7 (fun i h => False.elim h)
    refine li_if_ne 22 dX11_cost_17 (by decide) (fun c8 => ?_) (fun c8 => ?_)
    · refine li_aload_n 0 dX11_cost_22 rfl ?_
      refine li_getr (k := 7) (N := 13) (T := TX11) (C0 := RX11) dX11_cost_23 (by decide) sh_0 rfl rfl (by decide) (by decide) li_in11 w_480 ?_
      refine li_iload_n 1 dX11_cost_26 rfl ?_
      refine li_iload_n 2 dX11_cost_27 rfl ?_
      refine li_callV (n := 2) (As := [.int p1, .int p2]) dX11_cost_28 (k_X0_isHeard (d - 1) (by omega) cob_148 p1 p2 M6) (by omega) (Nat.le_of_ble_eq_true rfl) w_788 w_789 w_790 w_109 w_791 (by decide +kernel) rfl (by decide) sh_148 rfl rfl (Nat.le_of_ble_eq_true rfl) (fun r M10 h11 => ?_)
      obtain ⟨⟨x9, rfl, bx9⟩, h11⟩ := h11
      have hf := li_fr_trans hf h11 (fun i h => False.elim h)
      refine li_if_eq 46 dX11_cost_31 (by decide) (fun c12 => ?_) (fun c12 => ?_)
      · refine li_bipush (-2) dX11_cost_46 (by decide) ?_
        exact li_iret dX11_cost_48 rfl rfl ⟨⟨_, rfl⟩, hf⟩
      · refine li_aload_n 0 dX11_cost_34 rfl ?_
        refine li_getr (k := 7) (N := 13) (T := TX11) (C0 := RX11) dX11_cost_35 (by decide) sh_0 rfl rfl (by decide) (by decide) li_in11 w_480 ?_
        refine li_iload_n 1 dX11_cost_38 rfl ?_
        refine li_iload_n 2 dX11_cost_39 rfl ?_
        refine li_callV (n := 2) (As := [.int p1, .int p2]) dX11_cost_40 (k_X0_ofThing (d - 1) (by omega) cob_148 p1 p2 M10) (by omega) (Nat.le_of_ble_eq_true rfl) w_807 w_808 w_809 w_109 w_810 (by decide +kernel) rfl (by decide) sh_148 rfl rfl (Nat.le_of_ble_eq_true rfl) (fun r M14 h15 => ?_)
        obtain ⟨⟨x13, rfl⟩, h15⟩ := h15
        have hf := li_fr_trans hf h15 (fun i (h : i = 146 ∨ i = 147) => (show i = 146 ∨ i = 147 by omega))
        refine li_goto 48 dX11_cost_43 (by decide) ?_
        exact li_iret dX11_cost_48 rfl rfl ⟨⟨_, rfl⟩, hf⟩
    · refine li_iconst (-1) dX11_cost_20 (by decide) ?_
      exact li_iret dX11_cost_21 rfl rfl ⟨⟨_, rfl⟩, hf⟩
set_option maxRecDepth 100000 in
set_option maxHeartbeats 4000000 in
theorem k_X11_say {l : Launch} {Z : li_Z} (d : Nat) (hd : 7 ≤ d) (p1 : Int32) (p2 : Int32) (M0 : li_M) : li_Met l Z YX11_say d [.ref (Z.2.2 0), .int p1, .int p2] M0 (li_SI (fun i => i = 13 ∨ i = 14 ∨ i = 146 ∨ i = 147 ∨ i = 15 ∨ i = 21 ∨ i = 24 ∨ i = 25 ∨ i = 26 ∨ i = 27 ∨ i = 28 ∨ i = 29 ∨ i = 30 ∨ i = 31 ∨ (32 ≤ i ∧ i < 128)) M0) := by
  refine li_enter (by decide +kernel) (Nat.le_of_ble_eq_true rfl) ?_
  show li_T l Z YX11_say d 0 [(0, .ref (Z.2.2 0)), (1, .int p1), (2, .int p2)] [] M0 _
  have hf : li_fr (fun i => i = 13 ∨ i = 14 ∨ i = 146 ∨ i = 147 ∨ i = 15 ∨ i = 21 ∨ i = 24 ∨ i = 25 ∨ i = 26 ∨ i = 27 ∨ i = 28 ∨ i = 29 ∨ i = 30 ∨ i = 31 ∨ (32 ≤ i ∧ i < 128)) M0 M0 := li_fr_refl
  refine li_aload_n 0 dX11_say_0 rfl ?_
  refine li_getr (k := 4) (N := 13) (T := TX11) (C0 := RX11) dX11_say_1 (by decide) sh_0 rfl rfl (by decide) (by decide) li_in11 w_477 ?_
  refine li_aload_n 0 dX11_say_4 rfl ?_
  refine li_getr (k := 3) (N := 13) (T := TX11) (C0 := RX11) dX11_say_5 (by decide) sh_0 rfl rfl (by decide) (by decide) li_in11 w_476 ?_
  refine li_callV (n := 1) (As := [.ref (Z.2.2 13)]) dX11_say_8 (k_X3_note (d - 1) (by omega)  M0) (by omega) (Nat.le_of_ble_eq_true rfl) w_843 w_844 w_845 w_106 w_846 (by decide +kernel) rfl (by decide) sh_21 rfl rfl (Nat.le_of_ble_eq_true rfl) (fun r M2 h3 => ?_)
  obtain ⟨rfl, h3⟩ := h3
  have hf := li_fr_trans hf h3 (fun i (h : i = 24 ∨ i = 25 ∨ i = 26 ∨ i = 27 ∨ i = 28 ∨ i = 29 ∨ i = 30 ∨ i = 31) => (show i = 13 ∨ i = 14 ∨ i = 146 ∨ i = 147 ∨ i = 15 ∨ i = 21 ∨ i = 24 ∨ i = 25 ∨ i = 26 ∨ i = 27 ∨ i = 28 ∨ i = 29 ∨ i = 30 ∨ i = 31 ∨ (32 ≤ i ∧ i < 128) by omega))
  refine li_aload_n 0 dX11_say_11 rfl ?_
  refine li_aload_n 0 dX11_say_12 rfl ?_
  refine li_iload_n 1 dX11_say_13 rfl ?_
  refine li_iload_n 2 dX11_say_14 rfl ?_
  refine li_callV (n := 2) (As := [.int p1, .int p2]) dX11_say_15 (k_X11_utter (d - 1) (by omega) p1 p2 M2) (by omega) (Nat.le_of_ble_eq_true rfl) w_852 w_854 w_15 w_101 w_855 (by decide +kernel) rfl (by decide) sh_0 rfl rfl (Nat.le_of_ble_eq_true rfl) (fun r M5 h6 => ?_)
  obtain ⟨⟨x4, rfl⟩, h6⟩ := h6
  have hf := li_fr_trans hf h6 (fun i (h : i = 13 ∨ i = 14 ∨ i = 146 ∨ i = 147 ∨ i = 15) => (show i = 13 ∨ i = 14 ∨ i = 146 ∨ i = 147 ∨ i = 15 ∨ i = 21 ∨ i = 24 ∨ i = 25 ∨ i = 26 ∨ i = 27 ∨ i = 28 ∨ i = 29 ∨ i = 30 ∨ i = 31 ∨ (32 ≤ i ∧ i < 128) by omega))
  refine li_callV (n := 1) (As := [.int x4]) dX11_say_18 (k_X11_held (d - 1) (by omega) x4 M5) (by omega) (Nat.le_of_ble_eq_true rfl) w_867 w_869 w_16 w_101 w_870 (by decide +kernel) rfl (by decide) sh_0 rfl rfl (Nat.le_of_ble_eq_true rfl) (fun r M8 h9 => ?_)
  obtain ⟨⟨x7, rfl⟩, h9⟩ := h9
  have hf := li_fr_trans hf h9 (fun i (h : i = 21 ∨ (32 ≤ i ∧ i < 128)) => (show i = 13 ∨ i = 14 ∨ i = 146 ∨ i = 147 ∨ i = 15 ∨ i = 21 ∨ i = 24 ∨ i = 25 ∨ i = 26 ∨ i = 27 ∨ i = 28 ∨ i = 29 ∨ i = 30 ∨ i = 31 ∨ (32 ≤ i ∧ i < 128) by omega))
  exact li_iret dX11_say_21 rfl rfl ⟨⟨_, rfl⟩, hf⟩
set_option maxRecDepth 100000 in
set_option maxHeartbeats 4000000 in
theorem k_X11_give {l : Launch} {Z : li_Z} (d : Nat) (hd : 4 ≤ d) (p1 : Int32) (p2 : Int32) (p3 : Int32) (M0 : li_M) : li_Met l Z YX11_give d [.ref (Z.2.2 0), .int p1, .int p2, .int p3] M0 (li_SI (fun i => i = 14 ∨ i = 21 ∨ i = 24 ∨ i = 25 ∨ i = 26 ∨ i = 27 ∨ i = 28 ∨ i = 29 ∨ i = 30 ∨ i = 31 ∨ (32 ≤ i ∧ i < 128)) M0) := by
  refine li_enter (by decide +kernel) (Nat.le_of_ble_eq_true rfl) ?_
  show li_T l Z YX11_give d 0 [(0, .ref (Z.2.2 0)), (1, .int p1), (2, .int p2), (3, .int p3)] [] M0 _
  have hf : li_fr (fun i => i = 14 ∨ i = 21 ∨ i = 24 ∨ i = 25 ∨ i = 26 ∨ i = 27 ∨ i = 28 ∨ i = 29 ∨ i = 30 ∨ i = 31 ∨ (32 ≤ i ∧ i < 128)) M0 M0 := li_fr_refl
  refine li_aload_n 0 dX11_give_0 rfl ?_
  refine li_getr (k := 4) (N := 13) (T := TX11) (C0 := RX11) dX11_give_1 (by decide) sh_0 rfl rfl (by decide) (by decide) li_in11 w_477 ?_
  refine li_aload_n 0 dX11_give_4 rfl ?_
  refine li_getr (k := 3) (N := 13) (T := TX11) (C0 := RX11) dX11_give_5 (by decide) sh_0 rfl rfl (by decide) (by decide) li_in11 w_476 ?_
  refine li_callV (n := 1) (As := [.ref (Z.2.2 13)]) dX11_give_8 (k_X3_note (d - 1) (by omega)  M0) (by omega) (Nat.le_of_ble_eq_true rfl) w_843 w_844 w_845 w_106 w_846 (by decide +kernel) rfl (by decide) sh_21 rfl rfl (Nat.le_of_ble_eq_true rfl) (fun r M2 h3 => ?_)
  obtain ⟨rfl, h3⟩ := h3
  have hf := li_fr_trans hf h3 (fun i (h : i = 24 ∨ i = 25 ∨ i = 26 ∨ i = 27 ∨ i = 28 ∨ i = 29 ∨ i = 30 ∨ i = 31) => (show i = 14 ∨ i = 21 ∨ i = 24 ∨ i = 25 ∨ i = 26 ∨ i = 27 ∨ i = 28 ∨ i = 29 ∨ i = 30 ∨ i = 31 ∨ (32 ≤ i ∧ i < 128) by omega))
  refine li_aload_n 0 dX11_give_11 rfl ?_
  refine li_aload_n 0 dX11_give_12 rfl ?_
  refine li_iload_n 1 dX11_give_13 rfl ?_
  refine li_iload_n 2 dX11_give_14 rfl ?_
  refine li_iload_n 3 dX11_give_15 rfl ?_
  refine li_callV (n := 3) (As := [.int p1, .int p2, .int p3]) dX11_give_16 (k_X11_handOver (d - 1) (by omega) p1 p2 p3 M2) (by omega) (Nat.le_of_ble_eq_true rfl) w_880 w_882 w_17 w_101 w_883 (by decide +kernel) rfl (by decide) sh_0 rfl rfl (Nat.le_of_ble_eq_true rfl) (fun r M5 h6 => ?_)
  obtain ⟨⟨x4, rfl⟩, h6⟩ := h6
  have hf := li_fr_trans hf h6 (fun i (h : i = 14) => (show i = 14 ∨ i = 21 ∨ i = 24 ∨ i = 25 ∨ i = 26 ∨ i = 27 ∨ i = 28 ∨ i = 29 ∨ i = 30 ∨ i = 31 ∨ (32 ≤ i ∧ i < 128) by omega))
  refine li_callV (n := 1) (As := [.int x4]) dX11_give_19 (k_X11_held (d - 1) (by omega) x4 M5) (by omega) (Nat.le_of_ble_eq_true rfl) w_867 w_869 w_16 w_101 w_870 (by decide +kernel) rfl (by decide) sh_0 rfl rfl (Nat.le_of_ble_eq_true rfl) (fun r M8 h9 => ?_)
  obtain ⟨⟨x7, rfl⟩, h9⟩ := h9
  have hf := li_fr_trans hf h9 (fun i (h : i = 21 ∨ (32 ≤ i ∧ i < 128)) => (show i = 14 ∨ i = 21 ∨ i = 24 ∨ i = 25 ∨ i = 26 ∨ i = 27 ∨ i = 28 ∨ i = 29 ∨ i = 30 ∨ i = 31 ∨ (32 ≤ i ∧ i < 128) by omega))
  exact li_iret dX11_give_22 rfl rfl ⟨⟨_, rfl⟩, hf⟩
set_option maxRecDepth 100000 in
set_option maxHeartbeats 4000000 in
theorem k_X11_lend {l : Launch} {Z : li_Z} (d : Nat) (hd : 4 ≤ d) (p1 : Int32) (p2 : Int32) (p3 : Int32) (p4 : Int32) (M0 : li_M) : li_Met l Z YX11_lend d [.ref (Z.2.2 0), .int p1, .int p2, .int p3, .int p4] M0 (li_SI (fun i => i = 13 ∨ i = 14 ∨ i = 17 ∨ i = 18 ∨ i = 19 ∨ i = 20 ∨ i = 21 ∨ i = 24 ∨ i = 25 ∨ i = 26 ∨ i = 27 ∨ i = 28 ∨ i = 29 ∨ i = 30 ∨ i = 31 ∨ (32 ≤ i ∧ i < 128)) M0) := by
  refine li_enter (by decide +kernel) (Nat.le_of_ble_eq_true rfl) ?_
  show li_T l Z YX11_lend d 0 [(0, .ref (Z.2.2 0)), (1, .int p1), (2, .int p2), (3, .int p3), (4, .int p4)] [] M0 _
  have hf : li_fr (fun i => i = 13 ∨ i = 14 ∨ i = 17 ∨ i = 18 ∨ i = 19 ∨ i = 20 ∨ i = 21 ∨ i = 24 ∨ i = 25 ∨ i = 26 ∨ i = 27 ∨ i = 28 ∨ i = 29 ∨ i = 30 ∨ i = 31 ∨ (32 ≤ i ∧ i < 128)) M0 M0 := li_fr_refl
  refine li_aload_n 0 dX11_lend_0 rfl ?_
  refine li_getr (k := 2) (N := 13) (T := TX11) (C0 := RX11) dX11_lend_1 (by decide) sh_0 rfl rfl (by decide) (by decide) li_in11 w_475 ?_
  refine li_iload_n 1 dX11_lend_4 rfl ?_
  refine li_iload_n 2 dX11_lend_5 rfl ?_
  refine li_callV (n := 2) (As := [.int p1, .int p2]) dX11_lend_6 (k_X8_areTwo (d - 1) (by omega) p1 p2 M0) (by omega) (Nat.le_of_ble_eq_true rfl) w_884 w_885 w_886 w_104 w_887 (by decide +kernel) rfl (by decide) sh_5 rfl rfl (Nat.le_of_ble_eq_true rfl) (fun r M2 h3 => ?_)
  obtain ⟨⟨x1, rfl, bx1⟩, h3⟩ := h3
  have hf := li_fr_trans hf h3 (fun i h => False.elim h)
  refine li_if_eq 23 dX11_lend_9 (by decide) (fun c4 => ?_) (fun c4 => ?_)
  · refine li_iconst (-1) dX11_lend_23 (by decide) ?_
    exact li_iret dX11_lend_24 rfl rfl ⟨⟨_, rfl⟩, hf⟩
  · refine li_iload_n 3 dX11_lend_12 rfl ?_
    refine li_iconst 1 dX11_lend_13 (by decide) ?_
    refine li_sipush 999 dX11_lend_14 (by decide) ?_
    refine li_callS (n := 3) (As := [.int p3, .int 1, .int 999]) dX11_lend_17 (k_X11_within (d - 1) (by omega) p3 1 999 M2) (by omega) (Nat.le_of_ble_eq_true rfl) w_762 w_639 w_101 w_640 (by decide +kernel) rfl rfl (Nat.le_of_ble_eq_true rfl) (fun r M6 h7 => ?_)
    obtain ⟨⟨x5, rfl, bx5, qx5⟩, h7⟩ := h7
    have hf := li_fr_trans hf h7 (fun i h => False.elim h)
    refine li_if_ne 25 dX11_lend_20 (by decide) (fun c8 => ?_) (fun c8 => ?_)
    · refine li_aload_n 0 dX11_lend_25 rfl ?_
      refine li_getr (k := 3) (N := 13) (T := TX11) (C0 := RX11) dX11_lend_26 (by decide) sh_0 rfl rfl (by decide) (by decide) li_in11 w_476 ?_
      refine li_geti (k := 2) (N := 11) (T := TX4) (C0 := RX4) dX11_lend_29 (by decide) sh_13 rfl rfl (by decide) li_in4 w_236 ?_
      refine li_top (fun x9 ex9 => ?_)
      refine li_bipush 6 dX11_lend_32 (by decide) ?_
      refine li_icmp_lt 40 dX11_lend_34 (by decide) (fun c10 => ?_) (fun c10 => ?_)
      · refine li_iload 4 dX11_lend_40 rfl ?_
        refine li_aload_n 0 dX11_lend_42 rfl ?_
        refine li_getr (k := 3) (N := 13) (T := TX11) (C0 := RX11) dX11_lend_43 (by decide) sh_0 rfl rfl (by decide) (by decide) li_in11 w_476 ?_
        refine li_geti (k := 0) (N := 11) (T := TX4) (C0 := RX4) dX11_lend_46 (by decide) sh_13 rfl rfl (by decide) li_in4 w_231 ?_
        refine li_top (fun x11 ex11 => ?_)
        refine li_iconst 1 dX11_lend_49 (by decide) ?_
        refine li_iadd dX11_lend_50 ?_
        refine li_top (fun x12 ex12 => ?_)
        refine li_sipush 9999 dX11_lend_51 (by decide) ?_
        refine li_callS (n := 3) (As := [.int p4, .int x12, .int 9999]) dX11_lend_54 (k_X11_within (d - 1) (by omega) p4 x12 9999 M6) (by omega) (Nat.le_of_ble_eq_true rfl) w_762 w_639 w_101 w_640 (by decide +kernel) rfl rfl (Nat.le_of_ble_eq_true rfl) (fun r M14 h15 => ?_)
        obtain ⟨⟨x13, rfl, bx13, qx13⟩, h15⟩ := h15
        have hf := li_fr_trans hf h15 (fun i h => False.elim h)
        refine li_if_ne 63 dX11_lend_57 (by decide) (fun c16 => ?_) (fun c16 => ?_)
        · refine li_aload_n 0 dX11_lend_63 rfl ?_
          refine li_getr (k := 3) (N := 13) (T := TX11) (C0 := RX11) dX11_lend_64 (by decide) sh_0 rfl rfl (by decide) (by decide) li_in11 w_476 ?_
          refine li_getr (k := 4) (N := 11) (T := TX4) (C0 := RX4) dX11_lend_67 (by decide) sh_13 rfl rfl (by decide) (by decide) li_in4 w_243 ?_
          refine li_iload_n 1 dX11_lend_70 rfl ?_
          refine li_callS (n := 2) (As := [.ref (Z.2.2 14), .int p1]) dX11_lend_71 (k_X11_at (d - 1) (by omega) (by decide) sh_14 (by decide) p1 M14) (by omega) (Nat.le_of_ble_eq_true rfl) w_763 w_569 w_101 w_570 (by decide +kernel) rfl rfl (Nat.le_of_ble_eq_true rfl) (fun r M18 h19 => ?_)
          obtain ⟨⟨x17, rfl⟩, h19⟩ := h19
          have hf := li_fr_trans hf h19 (fun i h => False.elim h)
          refine li_iload_n 3 dX11_lend_74 rfl ?_
          refine li_icmp_ge 81 dX11_lend_75 (by decide) (fun c20 => ?_) (fun c20 => ?_)
          · refine li_aload_n 0 dX11_lend_81 rfl ?_
            refine li_getr (k := 4) (N := 13) (T := TX11) (C0 := RX11) dX11_lend_82 (by decide) sh_0 rfl rfl (by decide) (by decide) li_in11 w_477 ?_
            refine li_aload_n 0 dX11_lend_85 rfl ?_
            refine li_getr (k := 3) (N := 13) (T := TX11) (C0 := RX11) dX11_lend_86 (by decide) sh_0 rfl rfl (by decide) (by decide) li_in11 w_476 ?_
            refine li_callV (n := 1) (As := [.ref (Z.2.2 13)]) dX11_lend_89 (k_X3_note (d - 1) (by omega)  M18) (by omega) (Nat.le_of_ble_eq_true rfl) w_843 w_844 w_845 w_106 w_846 (by decide +kernel) rfl (by decide) sh_21 rfl rfl (Nat.le_of_ble_eq_true rfl) (fun r M22 h23 => ?_)
            obtain ⟨rfl, h23⟩ := h23
            have hf := li_fr_trans hf h23 (fun i (h : i = 24 ∨ i = 25 ∨ i = 26 ∨ i = 27 ∨ i = 28 ∨ i = 29 ∨ i = 30 ∨ i = 31) => (show i = 13 ∨ i = 14 ∨ i = 17 ∨ i = 18 ∨ i = 19 ∨ i = 20 ∨ i = 21 ∨ i = 24 ∨ i = 25 ∨ i = 26 ∨ i = 27 ∨ i = 28 ∨ i = 29 ∨ i = 30 ∨ i = 31 ∨ (32 ≤ i ∧ i < 128) by omega))
            refine li_aload_n 0 dX11_lend_92 rfl ?_
            refine li_getr (k := 3) (N := 13) (T := TX11) (C0 := RX11) dX11_lend_93 (by decide) sh_0 rfl rfl (by decide) (by decide) li_in11 w_476 ?_
            refine li_iload_n 1 dX11_lend_96 rfl ?_
            refine li_iload_n 2 dX11_lend_97 rfl ?_
            refine li_iload_n 3 dX11_lend_98 rfl ?_
            refine li_callV (n := 3) (As := [.int p1, .int p2, .int p3]) dX11_lend_99 (k_X4_carry (d - 1) (by omega) p1 p2 p3 M22) (by omega) (Nat.le_of_ble_eq_true rfl) w_889 w_890 w_891 w_105 w_892 (by decide +kernel) rfl (by decide) sh_13 rfl rfl (Nat.le_of_ble_eq_true rfl) (fun r M25 h26 => ?_)
            obtain ⟨rfl, h26⟩ := h26
            have hf := li_fr_trans hf h26 (fun i (h : i = 14) => (show i = 13 ∨ i = 14 ∨ i = 17 ∨ i = 18 ∨ i = 19 ∨ i = 20 ∨ i = 21 ∨ i = 24 ∨ i = 25 ∨ i = 26 ∨ i = 27 ∨ i = 28 ∨ i = 29 ∨ i = 30 ∨ i = 31 ∨ (32 ≤ i ∧ i < 128) by omega))
            refine li_aload_n 0 dX11_lend_102 rfl ?_
            refine li_aload_n 0 dX11_lend_103 rfl ?_
            refine li_getr (k := 3) (N := 13) (T := TX11) (C0 := RX11) dX11_lend_104 (by decide) sh_0 rfl rfl (by decide) (by decide) li_in11 w_476 ?_
            refine li_iload_n 1 dX11_lend_107 rfl ?_
            refine li_iload_n 2 dX11_lend_108 rfl ?_
            refine li_iload_n 3 dX11_lend_109 rfl ?_
            refine li_iload 4 dX11_lend_110 rfl ?_
            refine li_callV (n := 4) (As := [.int p1, .int p2, .int p3, .int p4]) dX11_lend_112 (k_X4_write (d - 1) (by omega) p1 p2 p3 p4 M25) (by omega) (Nat.le_of_ble_eq_true rfl) w_898 w_899 w_900 w_105 w_901 (by decide +kernel) rfl (by decide) sh_13 rfl rfl (Nat.le_of_ble_eq_true rfl) (fun r M28 h29 => ?_)
            obtain ⟨⟨x27, rfl⟩, h29⟩ := h29
            have hf := li_fr_trans hf h29 (fun i (h : i = 13 ∨ i = 17 ∨ i = 18 ∨ i = 19 ∨ i = 20) => (show i = 13 ∨ i = 14 ∨ i = 17 ∨ i = 18 ∨ i = 19 ∨ i = 20 ∨ i = 21 ∨ i = 24 ∨ i = 25 ∨ i = 26 ∨ i = 27 ∨ i = 28 ∨ i = 29 ∨ i = 30 ∨ i = 31 ∨ (32 ≤ i ∧ i < 128) by omega))
            refine li_callV (n := 1) (As := [.int x27]) dX11_lend_115 (k_X11_held (d - 1) (by omega) x27 M28) (by omega) (Nat.le_of_ble_eq_true rfl) w_867 w_869 w_16 w_101 w_870 (by decide +kernel) rfl (by decide) sh_0 rfl rfl (Nat.le_of_ble_eq_true rfl) (fun r M31 h32 => ?_)
            obtain ⟨⟨x30, rfl⟩, h32⟩ := h32
            have hf := li_fr_trans hf h32 (fun i (h : i = 21 ∨ (32 ≤ i ∧ i < 128)) => (show i = 13 ∨ i = 14 ∨ i = 17 ∨ i = 18 ∨ i = 19 ∨ i = 20 ∨ i = 21 ∨ i = 24 ∨ i = 25 ∨ i = 26 ∨ i = 27 ∨ i = 28 ∨ i = 29 ∨ i = 30 ∨ i = 31 ∨ (32 ≤ i ∧ i < 128) by omega))
            exact li_iret dX11_lend_118 rfl rfl ⟨⟨_, rfl⟩, hf⟩
          · refine li_bipush (-2) dX11_lend_78 (by decide) ?_
            exact li_iret dX11_lend_80 rfl rfl ⟨⟨_, rfl⟩, hf⟩
        · refine li_bipush (-4) dX11_lend_60 (by decide) ?_
          exact li_iret dX11_lend_62 rfl rfl ⟨⟨_, rfl⟩, hf⟩
      · refine li_bipush (-3) dX11_lend_37 (by decide) ?_
        exact li_iret dX11_lend_39 rfl rfl ⟨⟨_, rfl⟩, hf⟩
    · refine li_iconst (-1) dX11_lend_23 (by decide) ?_
      exact li_iret dX11_lend_24 rfl rfl ⟨⟨_, rfl⟩, hf⟩
set_option maxRecDepth 100000 in
set_option maxHeartbeats 4000000 in
theorem k_X11_days {l : Launch} {Z : li_Z} (d : Nat) (hd : 6 ≤ d) (p1 : Int32) (M0 : li_M) : li_Met l Z YX11_days d [.ref (Z.2.2 0), .int p1] M0 (li_SI (fun i => i = 13 ∨ i = 14 ∨ i = 15 ∨ i = 16 ∨ i = 20 ∨ i = 21 ∨ i = 24 ∨ i = 25 ∨ i = 26 ∨ i = 27 ∨ i = 28 ∨ i = 29 ∨ i = 3 ∨ i = 30 ∨ i = 31 ∨ i = 4 ∨ (32 ≤ i ∧ i < 128)) M0) := by
  refine li_enter (by decide +kernel) (Nat.le_of_ble_eq_true rfl) ?_
  show li_T l Z YX11_days d 0 [(0, .ref (Z.2.2 0)), (1, .int p1)] [] M0 _
  have hf : li_fr (fun i => i = 13 ∨ i = 14 ∨ i = 15 ∨ i = 16 ∨ i = 20 ∨ i = 21 ∨ i = 24 ∨ i = 25 ∨ i = 26 ∨ i = 27 ∨ i = 28 ∨ i = 29 ∨ i = 3 ∨ i = 30 ∨ i = 31 ∨ i = 4 ∨ (32 ≤ i ∧ i < 128)) M0 M0 := li_fr_refl
  refine li_iload_n 1 dX11_days_0 rfl ?_
  refine li_iconst 0 dX11_days_1 (by decide) ?_
  refine li_bipush 99 dX11_days_2 (by decide) ?_
  refine li_callS (n := 3) (As := [.int p1, .int 0, .int 99]) dX11_days_4 (k_X11_within (d - 1) (by omega) p1 0 99 M0) (by omega) (Nat.le_of_ble_eq_true rfl) w_762 w_639 w_101 w_640 (by decide +kernel) rfl rfl (Nat.le_of_ble_eq_true rfl) (fun r M2 h3 => ?_)
  obtain ⟨⟨x1, rfl, bx1, qx1⟩, h3⟩ := h3
  have hf := li_fr_trans hf h3 (fun i h => False.elim h)
  refine li_if_ne 12 dX11_days_7 (by decide) (fun c4 => ?_) (fun c4 => ?_)
  · refine li_aload_n 0 dX11_days_12 rfl ?_
    refine li_getr (k := 4) (N := 13) (T := TX11) (C0 := RX11) dX11_days_13 (by decide) sh_0 rfl rfl (by decide) (by decide) li_in11 w_477 ?_
    refine li_aload_n 0 dX11_days_16 rfl ?_
    refine li_getr (k := 3) (N := 13) (T := TX11) (C0 := RX11) dX11_days_17 (by decide) sh_0 rfl rfl (by decide) (by decide) li_in11 w_476 ?_
    refine li_callV (n := 1) (As := [.ref (Z.2.2 13)]) dX11_days_20 (k_X3_note (d - 1) (by omega)  M2) (by omega) (Nat.le_of_ble_eq_true rfl) w_843 w_844 w_845 w_106 w_846 (by decide +kernel) rfl (by decide) sh_21 rfl rfl (Nat.le_of_ble_eq_true rfl) (fun r M6 h7 => ?_)
    obtain ⟨rfl, h7⟩ := h7
    have hf := li_fr_trans hf h7 (fun i (h : i = 24 ∨ i = 25 ∨ i = 26 ∨ i = 27 ∨ i = 28 ∨ i = 29 ∨ i = 30 ∨ i = 31) => (show i = 13 ∨ i = 14 ∨ i = 15 ∨ i = 16 ∨ i = 20 ∨ i = 21 ∨ i = 24 ∨ i = 25 ∨ i = 26 ∨ i = 27 ∨ i = 28 ∨ i = 29 ∨ i = 3 ∨ i = 30 ∨ i = 31 ∨ i = 4 ∨ (32 ≤ i ∧ i < 128) by omega))
    refine li_aload_n 0 dX11_days_23 rfl ?_
    refine li_getr (k := 3) (N := 13) (T := TX11) (C0 := RX11) dX11_days_24 (by decide) sh_0 rfl rfl (by decide) (by decide) li_in11 w_476 ?_
    refine li_callV (n := 0) (As := []) dX11_days_27 (k_X4_endedLoans (d - 1) (by omega)  M6) (by omega) (Nat.le_of_ble_eq_true rfl) w_909 w_910 w_911 w_105 w_912 (by decide +kernel) rfl (by decide) sh_13 rfl rfl (Nat.le_of_ble_eq_true rfl) (fun r M9 h10 => ?_)
    obtain ⟨⟨x8, rfl⟩, h10⟩ := h10
    have hf := li_fr_trans hf h10 (fun i h => False.elim h)
    refine li_istore_n [(2, .int x8), (0, .ref (Z.2.2 0)), (1, .int p1)] dX11_days_30 (by decide) rfl ?_
    refine li_aload_n 1 dX11_days_31 rfl ?_
    refine li_getr (k := 3) (N := 13) (T := TX11) (C0 := RX11) dX11_days_32 (by decide) sh_0 rfl rfl (by decide) (by decide) li_in11 w_476 ?_
    refine li_callV (n := 0) (As := []) dX11_days_35 (k_X4_allLosses (d - 1) (by omega)  M9) (by omega) (Nat.le_of_ble_eq_true rfl) w_914 w_915 w_916 w_105 w_917 (by decide +kernel) rfl (by decide) sh_13 rfl rfl (Nat.le_of_ble_eq_true rfl) (fun r M12 h13 => ?_)
    obtain ⟨⟨x11, rfl⟩, h13⟩ := h13
    have hf := li_fr_trans hf h13 (fun i h => False.elim h)
    refine li_lstore_n [(3, .long x11), (2, .int x8), (0, .ref (Z.2.2 0)), (1, .int p1)] dX11_days_38 (by decide) rfl ?_
    refine li_aload_n 2 dX11_days_39 rfl ?_
    refine li_iload_n 3 dX11_days_40 rfl ?_
    refine li_callV (n := 1) (As := [.int p1]) dX11_days_41 (k_X11_passDays (d - 1) (by omega) p1 M12) (by omega) (Nat.le_of_ble_eq_true rfl) w_921 w_923 w_18 w_101 w_924 (by decide +kernel) rfl (by decide) sh_0 rfl rfl (Nat.le_of_ble_eq_true rfl) (fun r M15 h16 => ?_)
    obtain ⟨rfl, h16⟩ := h16
    have hf := li_fr_trans hf h16 (fun i (h : i = 13 ∨ i = 14 ∨ i = 15 ∨ i = 16 ∨ i = 20) => (show i = 13 ∨ i = 14 ∨ i = 15 ∨ i = 16 ∨ i = 20 ∨ i = 21 ∨ i = 24 ∨ i = 25 ∨ i = 26 ∨ i = 27 ∨ i = 28 ∨ i = 29 ∨ i = 3 ∨ i = 30 ∨ i = 31 ∨ i = 4 ∨ (32 ≤ i ∧ i < 128) by omega))
    refine li_aload_n 2 dX11_days_44 rfl ?_
    refine li_getr (k := 1) (N := 13) (T := TX11) (C0 := RX11) dX11_days_45 (by decide) sh_0 rfl rfl (by decide) (by decide) li_in11 w_474 ?_
    refine li_aload_n 2 dX11_days_48 rfl ?_
    refine li_getr (k := 3) (N := 13) (T := TX11) (C0 := RX11) dX11_days_49 (by decide) sh_0 rfl rfl (by decide) (by decide) li_in11 w_476 ?_
    refine li_callV (n := 0) (As := []) dX11_days_52 (k_X4_endedLoans (d - 1) (by omega)  M15) (by omega) (Nat.le_of_ble_eq_true rfl) w_909 w_910 w_911 w_105 w_912 (by decide +kernel) rfl (by decide) sh_13 rfl rfl (Nat.le_of_ble_eq_true rfl) (fun r M18 h19 => ?_)
    obtain ⟨⟨x17, rfl⟩, h19⟩ := h19
    have hf := li_fr_trans hf h19 (fun i h => False.elim h)
    refine li_iload_n 1 dX11_days_55 rfl ?_
    refine li_isub dX11_days_56 ?_
    refine li_top (fun x20 ex20 => ?_)
    refine li_aload_n 2 dX11_days_57 rfl ?_
    refine li_getr (k := 3) (N := 13) (T := TX11) (C0 := RX11) dX11_days_58 (by decide) sh_0 rfl rfl (by decide) (by decide) li_in11 w_476 ?_
    refine li_callV (n := 0) (As := []) dX11_days_61 (k_X4_allLosses (d - 1) (by omega)  M18) (by omega) (Nat.le_of_ble_eq_true rfl) w_914 w_915 w_916 w_105 w_917 (by decide +kernel) rfl (by decide) sh_13 rfl rfl (Nat.le_of_ble_eq_true rfl) (fun r M22 h23 => ?_)
    obtain ⟨⟨x21, rfl⟩, h23⟩ := h23
    have hf := li_fr_trans hf h23 (fun i h => False.elim h)
    refine li_lload_n 0 dX11_days_64 rfl ?_
    refine li_lsub dX11_days_65 ?_
    refine li_topL (fun x24 ex24 => ?_)
    refine li_l2i dX11_days_66 ?_
    refine li_top (fun x25 ex25 => ?_)
    refine li_callV (n := 2) (As := [.int x20, .int x25]) dX11_days_67 (k_X5_tellTwo (d - 1) (by omega) x20 x25 M22) (by omega) (Nat.le_of_ble_eq_true rfl) w_951 w_952 w_953 w_103 w_954 (by decide +kernel) rfl (by decide) sh_3 rfl rfl (Nat.le_of_ble_eq_true rfl) (fun r M27 h28 => ?_)
    obtain ⟨rfl, h28⟩ := h28
    have hf := li_fr_trans hf h28 (fun i (h : i = 3 ∨ i = 4) => (show i = 13 ∨ i = 14 ∨ i = 15 ∨ i = 16 ∨ i = 20 ∨ i = 21 ∨ i = 24 ∨ i = 25 ∨ i = 26 ∨ i = 27 ∨ i = 28 ∨ i = 29 ∨ i = 3 ∨ i = 30 ∨ i = 31 ∨ i = 4 ∨ (32 ≤ i ∧ i < 128) by omega))
    refine li_iload_n 3 dX11_days_70 rfl ?_
    refine li_if_le 81 dX11_days_71 (by decide) (fun c29 => ?_) (fun c29 => ?_)
    · refine li_aload_n 2 dX11_days_81 rfl ?_
      refine li_getr (k := 3) (N := 13) (T := TX11) (C0 := RX11) dX11_days_82 (by decide) sh_0 rfl rfl (by decide) (by decide) li_in11 w_476 ?_
      refine li_geti (k := 0) (N := 11) (T := TX4) (C0 := RX4) dX11_days_85 (by decide) sh_13 rfl rfl (by decide) li_in4 w_231 ?_
      refine li_top (fun x30 ex30 => ?_)
      exact li_iret dX11_days_88 rfl rfl ⟨⟨_, rfl⟩, hf⟩
    · refine li_aload_n 2 dX11_days_74 rfl ?_
      refine li_getr (k := 4) (N := 13) (T := TX11) (C0 := RX11) dX11_days_75 (by decide) sh_0 rfl rfl (by decide) (by decide) li_in11 w_477 ?_
      refine li_callV (n := 0) (As := []) dX11_days_78 (k_X3_hold (d - 1) (by omega)  M27) (by omega) (Nat.le_of_ble_eq_true rfl) w_871 w_872 w_873 w_106 w_874 (by decide +kernel) rfl (by decide) sh_21 rfl rfl (Nat.le_of_ble_eq_true rfl) (fun r M32 h33 => ?_)
      obtain ⟨rfl, h33⟩ := h33
      have hf := li_fr_trans hf h33 (fun i (h : i = 21 ∨ (32 ≤ i ∧ i < 128)) => (show i = 13 ∨ i = 14 ∨ i = 15 ∨ i = 16 ∨ i = 20 ∨ i = 21 ∨ i = 24 ∨ i = 25 ∨ i = 26 ∨ i = 27 ∨ i = 28 ∨ i = 29 ∨ i = 3 ∨ i = 30 ∨ i = 31 ∨ i = 4 ∨ (32 ≤ i ∧ i < 128) by omega))
      refine li_aload_n 2 dX11_days_81 rfl ?_
      refine li_getr (k := 3) (N := 13) (T := TX11) (C0 := RX11) dX11_days_82 (by decide) sh_0 rfl rfl (by decide) (by decide) li_in11 w_476 ?_
      refine li_geti (k := 0) (N := 11) (T := TX4) (C0 := RX4) dX11_days_85 (by decide) sh_13 rfl rfl (by decide) li_in4 w_231 ?_
      refine li_top (fun x34 ex34 => ?_)
      exact li_iret dX11_days_88 rfl rfl ⟨⟨_, rfl⟩, hf⟩
  · refine li_iconst (-1) dX11_days_10 (by decide) ?_
    exact li_iret dX11_days_11 rfl rfl ⟨⟨_, rfl⟩, hf⟩
set_option maxRecDepth 100000 in
set_option maxHeartbeats 4000000 in
theorem k_X11_undo {l : Launch} {Z : li_Z} (d : Nat) (hd : 3 ≤ d) (M0 : li_M) : li_Met l Z YX11_undo d [.ref (Z.2.2 0)] M0 (li_SI (fun i => i = 13 ∨ i = 14 ∨ i = 15 ∨ i = 16 ∨ i = 17 ∨ i = 18 ∨ i = 19 ∨ i = 20 ∨ i = 21) M0) := by
  refine li_enter (by decide +kernel) (Nat.le_of_ble_eq_true rfl) ?_
  show li_T l Z YX11_undo d 0 [(0, .ref (Z.2.2 0))] [] M0 _
  have hf : li_fr (fun i => i = 13 ∨ i = 14 ∨ i = 15 ∨ i = 16 ∨ i = 17 ∨ i = 18 ∨ i = 19 ∨ i = 20 ∨ i = 21) M0 M0 := li_fr_refl
  refine li_aload_n 0 dX11_undo_0 rfl ?_
  refine li_getr (k := 4) (N := 13) (T := TX11) (C0 := RX11) dX11_undo_1 (by decide) sh_0 rfl rfl (by decide) (by decide) li_in11 w_477 ?_
  refine li_aload_n 0 dX11_undo_4 rfl ?_
  refine li_getr (k := 3) (N := 13) (T := TX11) (C0 := RX11) dX11_undo_5 (by decide) sh_0 rfl rfl (by decide) (by decide) li_in11 w_476 ?_
  refine li_callV (n := 1) (As := [.ref (Z.2.2 13)]) dX11_undo_8 (k_X3_stepBack (d - 1) (by omega)  M0) (by omega) (Nat.le_of_ble_eq_true rfl) w_980 w_981 w_982 w_106 w_983 (by decide +kernel) rfl (by decide) sh_21 rfl rfl (Nat.le_of_ble_eq_true rfl) (fun r M2 h3 => ?_)
  obtain ⟨⟨x1, rfl, bx1⟩, h3⟩ := h3
  have hf := li_fr_trans hf h3 (fun i (h : i = 13 ∨ i = 14 ∨ i = 15 ∨ i = 16 ∨ i = 17 ∨ i = 18 ∨ i = 19 ∨ i = 20 ∨ i = 21) => (show i = 13 ∨ i = 14 ∨ i = 15 ∨ i = 16 ∨ i = 17 ∨ i = 18 ∨ i = 19 ∨ i = 20 ∨ i = 21 by omega))
  refine li_if_eq 24 dX11_undo_11 (by decide) (fun c4 => ?_) (fun c4 => ?_)
  · refine li_iconst (-1) dX11_undo_24 (by decide) ?_
    exact li_iret dX11_undo_25 rfl rfl ⟨⟨_, rfl⟩, hf⟩
  · refine li_aload_n 0 dX11_undo_14 rfl ?_
    refine li_getr (k := 4) (N := 13) (T := TX11) (C0 := RX11) dX11_undo_15 (by decide) sh_0 rfl rfl (by decide) (by decide) li_in11 w_477 ?_
    refine li_geti (k := 4) (N := 6) (T := TX3) (C0 := RX3) dX11_undo_18 (by decide) sh_21 rfl rfl (by decide) li_in3 w_294 ?_
    refine li_top (fun x5 ex5 => ?_)
    refine li_goto 25 dX11_undo_21 (by decide) ?_
    exact li_iret dX11_undo_25 rfl rfl ⟨⟨_, rfl⟩, hf⟩
