theorem w_0 : (Jvm.Cond.selects "ClockForTalk" ({ cls := "ClockForTalk", name := "readText", desc := "(III)I" } : Jvm.MethodName) ({ cls := "ClockForTalk", name := "readText", desc := "(III)I" } : Jvm.MethodName)) ∈ li_ws := li_mem 0 (by decide +kernel) (by decide +kernel)
theorem w_16 : (Jvm.Cond.selects "ClockForTalk" ({ cls := "ClockForTalk", name := "held", desc := "(I)I" } : Jvm.MethodName) ({ cls := "ClockForTalk", name := "held", desc := "(I)I" } : Jvm.MethodName)) ∈ li_ws := li_mem 16 (by decide +kernel) (by decide +kernel)
theorem w_103 : (Jvm.Cond.initialized "ClockForTalk$Row") ∈ li_ws := li_mem 103 (by decide +kernel) (by decide +kernel)
theorem w_236 : (Jvm.Cond.fieldLink "ClockForTalk" (204 : Nat) "ClockForTalk$Ledger" "loans" "I") ∈ li_ws := li_mem 236 (by decide +kernel) (by decide +kernel)
theorem w_294 : (Jvm.Cond.fieldLink "ClockForTalk" (297 : Nat) "ClockForTalk$History" "held" "I") ∈ li_ws := li_mem 294 (by decide +kernel) (by decide +kernel)
theorem w_474 : (Jvm.Cond.fieldLink "ClockForTalk" (19 : Nat) "ClockForTalk" "told" "LClockForTalk$Row;") ∈ li_ws := li_mem 474 (by decide +kernel) (by decide +kernel)
theorem w_478 : (Jvm.Cond.fieldLink "ClockForTalk" (47 : Nat) "ClockForTalk" "law" "LClockForTalk$Rule;") ∈ li_ws := li_mem 478 (by decide +kernel) (by decide +kernel)
theorem w_517 : (Jvm.Cond.methodLink "ClockForTalk" (93 : Nat) ({ cls := "ClockForTalk$Text", name := "addFour", desc := "(I)Z" } : Jvm.MethodName)) ∈ li_ws := li_mem 517 (by decide +kernel) (by decide +kernel)
theorem w_518 : (Jvm.Cond.instanceMethod ({ cls := "ClockForTalk$Text", name := "addFour", desc := "(I)Z" } : Jvm.MethodName)) ∈ li_ws := li_mem 518 (by decide +kernel) (by decide +kernel)
theorem w_519 : (Jvm.Cond.selects "ClockForTalk$Text" ({ cls := "ClockForTalk$Text", name := "addFour", desc := "(I)Z" } : Jvm.MethodName) ({ cls := "ClockForTalk$Text", name := "addFour", desc := "(I)Z" } : Jvm.MethodName)) ∈ li_ws := li_mem 519 (by decide +kernel) (by decide +kernel)
theorem w_520 : (Jvm.Cond.code ({ cls := "ClockForTalk$Text", name := "addFour", desc := "(I)Z" } : Jvm.MethodName) prog_8_method_2_code (3 : Nat) (Option.some Jvm.ClassFile.FieldType.boolean)) ∈ li_ws := li_mem 520 (by decide +kernel) (by decide +kernel)
theorem w_528 : (Jvm.Cond.methodLink "ClockForTalk" (101 : Nat) ({ cls := "ClockForTalk$Text", name := "cutTo", desc := "(I)Z" } : Jvm.MethodName)) ∈ li_ws := li_mem 528 (by decide +kernel) (by decide +kernel)
theorem w_529 : (Jvm.Cond.instanceMethod ({ cls := "ClockForTalk$Text", name := "cutTo", desc := "(I)Z" } : Jvm.MethodName)) ∈ li_ws := li_mem 529 (by decide +kernel) (by decide +kernel)
theorem w_530 : (Jvm.Cond.selects "ClockForTalk$Text" ({ cls := "ClockForTalk$Text", name := "cutTo", desc := "(I)Z" } : Jvm.MethodName) ({ cls := "ClockForTalk$Text", name := "cutTo", desc := "(I)Z" } : Jvm.MethodName)) ∈ li_ws := li_mem 530 (by decide +kernel) (by decide +kernel)
theorem w_531 : (Jvm.Cond.code ({ cls := "ClockForTalk$Text", name := "cutTo", desc := "(I)Z" } : Jvm.MethodName) prog_8_method_3_code (2 : Nat) (Option.some Jvm.ClassFile.FieldType.boolean)) ∈ li_ws := li_mem 531 (by decide +kernel) (by decide +kernel)
theorem w_536 : (Jvm.Cond.methodLink "ClockForTalk" (107 : Nat) ({ cls := "ClockForTalk", name := "readText", desc := "(III)I" } : Jvm.MethodName)) ∈ li_ws := li_mem 536 (by decide +kernel) (by decide +kernel)
theorem w_538 : (Jvm.Cond.instanceMethod ({ cls := "ClockForTalk", name := "readText", desc := "(III)I" } : Jvm.MethodName)) ∈ li_ws := li_mem 538 (by decide +kernel) (by decide +kernel)
theorem w_539 : (Jvm.Cond.code ({ cls := "ClockForTalk", name := "readText", desc := "(III)I" } : Jvm.MethodName) prog_1_method_49_code (6 : Nat) (Option.some Jvm.ClassFile.FieldType.int)) ∈ li_ws := li_mem 539 (by decide +kernel) (by decide +kernel)
theorem w_747 : (Jvm.Cond.methodLink "ClockForTalk" (121 : Nat) ({ cls := "ClockForTalk$Rule", name := "copyFrom", desc := "(LClockForTalk$Rule;)V" } : Jvm.MethodName)) ∈ li_ws := li_mem 747 (by decide +kernel) (by decide +kernel)
theorem w_748 : (Jvm.Cond.instanceMethod ({ cls := "ClockForTalk$Rule", name := "copyFrom", desc := "(LClockForTalk$Rule;)V" } : Jvm.MethodName)) ∈ li_ws := li_mem 748 (by decide +kernel) (by decide +kernel)
theorem w_749 : (Jvm.Cond.selects "ClockForTalk$Rule" ({ cls := "ClockForTalk$Rule", name := "copyFrom", desc := "(LClockForTalk$Rule;)V" } : Jvm.MethodName) ({ cls := "ClockForTalk$Rule", name := "copyFrom", desc := "(LClockForTalk$Rule;)V" } : Jvm.MethodName)) ∈ li_ws := li_mem 749 (by decide +kernel) (by decide +kernel)
theorem w_750 : (Jvm.Cond.code ({ cls := "ClockForTalk$Rule", name := "copyFrom", desc := "(LClockForTalk$Rule;)V" } : Jvm.MethodName) prog_7_method_2_code (2 : Nat) (Option.none : Option Jvm.ClassFile.FieldType)) ∈ li_ws := li_mem 750 (by decide +kernel) (by decide +kernel)
theorem w_758 : (Jvm.Cond.methodLink "ClockForTalk" (125 : Nat) ({ cls := "ClockForTalk$Town", name := "hasPerson", desc := "(I)Z" } : Jvm.MethodName)) ∈ li_ws := li_mem 758 (by decide +kernel) (by decide +kernel)
theorem w_768 : (Jvm.Cond.methodLink "ClockForTalk" (228 : Nat) ({ cls := "ClockForTalk", name := "entryOf", desc := "(II)I" } : Jvm.MethodName)) ∈ li_ws := li_mem 768 (by decide +kernel) (by decide +kernel)
theorem w_769 : (Jvm.Cond.static ({ cls := "ClockForTalk", name := "entryOf", desc := "(II)I" } : Jvm.MethodName)) ∈ li_ws := li_mem 769 (by decide +kernel) (by decide +kernel)
theorem w_770 : (Jvm.Cond.code ({ cls := "ClockForTalk", name := "entryOf", desc := "(II)I" } : Jvm.MethodName) prog_1_method_65_code (3 : Nat) (Option.some Jvm.ClassFile.FieldType.int)) ∈ li_ws := li_mem 770 (by decide +kernel) (by decide +kernel)
theorem w_776 : (Jvm.Cond.methodLink "ClockForTalk" (232 : Nat) ({ cls := "ClockForTalk$Ledger", name := "allClocks", desc := "(I)I" } : Jvm.MethodName)) ∈ li_ws := li_mem 776 (by decide +kernel) (by decide +kernel)
theorem w_777 : (Jvm.Cond.instanceMethod ({ cls := "ClockForTalk$Ledger", name := "allClocks", desc := "(I)I" } : Jvm.MethodName)) ∈ li_ws := li_mem 777 (by decide +kernel) (by decide +kernel)
theorem w_778 : (Jvm.Cond.selects "ClockForTalk$Ledger" ({ cls := "ClockForTalk$Ledger", name := "allClocks", desc := "(I)I" } : Jvm.MethodName) ({ cls := "ClockForTalk$Ledger", name := "allClocks", desc := "(I)I" } : Jvm.MethodName)) ∈ li_ws := li_mem 778 (by decide +kernel) (by decide +kernel)
theorem w_779 : (Jvm.Cond.code ({ cls := "ClockForTalk$Ledger", name := "allClocks", desc := "(I)I" } : Jvm.MethodName) prog_5_method_4_code (4 : Nat) (Option.some Jvm.ClassFile.FieldType.int)) ∈ li_ws := li_mem 779 (by decide +kernel) (by decide +kernel)
theorem w_843 : (Jvm.Cond.methodLink "ClockForTalk" (241 : Nat) ({ cls := "ClockForTalk$History", name := "note", desc := "(LClockForTalk$Ledger;)V" } : Jvm.MethodName)) ∈ li_ws := li_mem 843 (by decide +kernel) (by decide +kernel)
theorem w_844 : (Jvm.Cond.instanceMethod ({ cls := "ClockForTalk$History", name := "note", desc := "(LClockForTalk$Ledger;)V" } : Jvm.MethodName)) ∈ li_ws := li_mem 844 (by decide +kernel) (by decide +kernel)
theorem w_845 : (Jvm.Cond.selects "ClockForTalk$History" ({ cls := "ClockForTalk$History", name := "note", desc := "(LClockForTalk$Ledger;)V" } : Jvm.MethodName) ({ cls := "ClockForTalk$History", name := "note", desc := "(LClockForTalk$Ledger;)V" } : Jvm.MethodName)) ∈ li_ws := li_mem 845 (by decide +kernel) (by decide +kernel)
theorem w_846 : (Jvm.Cond.code ({ cls := "ClockForTalk$History", name := "note", desc := "(LClockForTalk$Ledger;)V" } : Jvm.MethodName) prog_4_method_3_code (2 : Nat) (Option.none : Option Jvm.ClassFile.FieldType)) ∈ li_ws := li_mem 846 (by decide +kernel) (by decide +kernel)
theorem w_867 : (Jvm.Cond.methodLink "ClockForTalk" (248 : Nat) ({ cls := "ClockForTalk", name := "held", desc := "(I)I" } : Jvm.MethodName)) ∈ li_ws := li_mem 867 (by decide +kernel) (by decide +kernel)
theorem w_869 : (Jvm.Cond.instanceMethod ({ cls := "ClockForTalk", name := "held", desc := "(I)I" } : Jvm.MethodName)) ∈ li_ws := li_mem 869 (by decide +kernel) (by decide +kernel)
theorem w_870 : (Jvm.Cond.code ({ cls := "ClockForTalk", name := "held", desc := "(I)I" } : Jvm.MethodName) prog_1_method_42_code (2 : Nat) (Option.some Jvm.ClassFile.FieldType.int)) ∈ li_ws := li_mem 870 (by decide +kernel) (by decide +kernel)
theorem w_909 : (Jvm.Cond.methodLink "ClockForTalk" (268 : Nat) ({ cls := "ClockForTalk$Ledger", name := "endedLoans", desc := "()I" } : Jvm.MethodName)) ∈ li_ws := li_mem 909 (by decide +kernel) (by decide +kernel)
theorem w_910 : (Jvm.Cond.instanceMethod ({ cls := "ClockForTalk$Ledger", name := "endedLoans", desc := "()I" } : Jvm.MethodName)) ∈ li_ws := li_mem 910 (by decide +kernel) (by decide +kernel)
theorem w_911 : (Jvm.Cond.selects "ClockForTalk$Ledger" ({ cls := "ClockForTalk$Ledger", name := "endedLoans", desc := "()I" } : Jvm.MethodName) ({ cls := "ClockForTalk$Ledger", name := "endedLoans", desc := "()I" } : Jvm.MethodName)) ∈ li_ws := li_mem 911 (by decide +kernel) (by decide +kernel)
theorem w_912 : (Jvm.Cond.code ({ cls := "ClockForTalk$Ledger", name := "endedLoans", desc := "()I" } : Jvm.MethodName) prog_5_method_14_code (1 : Nat) (Option.some Jvm.ClassFile.FieldType.int)) ∈ li_ws := li_mem 912 (by decide +kernel) (by decide +kernel)
theorem w_914 : (Jvm.Cond.methodLink "ClockForTalk" (272 : Nat) ({ cls := "ClockForTalk$Ledger", name := "allLosses", desc := "()J" } : Jvm.MethodName)) ∈ li_ws := li_mem 914 (by decide +kernel) (by decide +kernel)
theorem w_915 : (Jvm.Cond.instanceMethod ({ cls := "ClockForTalk$Ledger", name := "allLosses", desc := "()J" } : Jvm.MethodName)) ∈ li_ws := li_mem 915 (by decide +kernel) (by decide +kernel)
theorem w_916 : (Jvm.Cond.selects "ClockForTalk$Ledger" ({ cls := "ClockForTalk$Ledger", name := "allLosses", desc := "()J" } : Jvm.MethodName) ({ cls := "ClockForTalk$Ledger", name := "allLosses", desc := "()J" } : Jvm.MethodName)) ∈ li_ws := li_mem 916 (by decide +kernel) (by decide +kernel)
theorem w_917 : (Jvm.Cond.code ({ cls := "ClockForTalk$Ledger", name := "allLosses", desc := "()J" } : Jvm.MethodName) prog_5_method_15_code (4 : Nat) (Option.some Jvm.ClassFile.FieldType.long)) ∈ li_ws := li_mem 917 (by decide +kernel) (by decide +kernel)
theorem w_951 : (Jvm.Cond.methodLink "ClockForTalk" (280 : Nat) ({ cls := "ClockForTalk$Row", name := "tellTwo", desc := "(II)V" } : Jvm.MethodName)) ∈ li_ws := li_mem 951 (by decide +kernel) (by decide +kernel)
theorem w_952 : (Jvm.Cond.instanceMethod ({ cls := "ClockForTalk$Row", name := "tellTwo", desc := "(II)V" } : Jvm.MethodName)) ∈ li_ws := li_mem 952 (by decide +kernel) (by decide +kernel)
theorem w_953 : (Jvm.Cond.selects "ClockForTalk$Row" ({ cls := "ClockForTalk$Row", name := "tellTwo", desc := "(II)V" } : Jvm.MethodName) ({ cls := "ClockForTalk$Row", name := "tellTwo", desc := "(II)V" } : Jvm.MethodName)) ∈ li_ws := li_mem 953 (by decide +kernel) (by decide +kernel)
theorem w_954 : (Jvm.Cond.code ({ cls := "ClockForTalk$Row", name := "tellTwo", desc := "(II)V" } : Jvm.MethodName) prog_6_method_3_code (3 : Nat) (Option.none : Option Jvm.ClassFile.FieldType)) ∈ li_ws := li_mem 954 (by decide +kernel) (by decide +kernel)
theorem w_980 : (Jvm.Cond.methodLink "ClockForTalk" (293 : Nat) ({ cls := "ClockForTalk$History", name := "stepBack", desc := "(LClockForTalk$Ledger;)Z" } : Jvm.MethodName)) ∈ li_ws := li_mem 980 (by decide +kernel) (by decide +kernel)
theorem w_981 : (Jvm.Cond.instanceMethod ({ cls := "ClockForTalk$History", name := "stepBack", desc := "(LClockForTalk$Ledger;)Z" } : Jvm.MethodName)) ∈ li_ws := li_mem 981 (by decide +kernel) (by decide +kernel)
theorem w_982 : (Jvm.Cond.selects "ClockForTalk$History" ({ cls := "ClockForTalk$History", name := "stepBack", desc := "(LClockForTalk$Ledger;)Z" } : Jvm.MethodName) ({ cls := "ClockForTalk$History", name := "stepBack", desc := "(LClockForTalk$Ledger;)Z" } : Jvm.MethodName)) ∈ li_ws := li_mem 982 (by decide +kernel) (by decide +kernel)
theorem w_983 : (Jvm.Cond.code ({ cls := "ClockForTalk$History", name := "stepBack", desc := "(LClockForTalk$Ledger;)Z" } : Jvm.MethodName) prog_4_method_6_code (2 : Nat) (Option.some Jvm.ClassFile.FieldType.boolean)) ∈ li_ws := li_mem 983 (by decide +kernel) (by decide +kernel)
theorem dX11_sign_0 : decode cX11_sign 0 = .ok (.aload_n 0, 1) := by decide +kernel
theorem dX11_sign_1 : decode cX11_sign 1 = .ok (.getfield 12, 3) := by decide +kernel
theorem dX11_sign_4 : decode cX11_sign 4 = .ok (.iload_n 1, 1) := by decide +kernel
theorem dX11_sign_5 : decode cX11_sign 5 = .ok (.invokevirtual 93, 3) := by decide +kernel
theorem dX11_sign_8 : decode cX11_sign 8 = .ok (.ifCond .eq 13, 3) := by decide +kernel
theorem dX11_sign_11 : decode cX11_sign 11 = .ok (.aload_n 0, 1) := by decide +kernel
theorem dX11_sign_12 : decode cX11_sign 12 = .ok (.getfield 12, 3) := by decide +kernel
theorem dX11_sign_15 : decode cX11_sign 15 = .ok (.getfield 97, 3) := by decide +kernel
theorem dX11_sign_18 : decode cX11_sign 18 = .ok (.goto 4, 3) := by decide +kernel
theorem dX11_sign_21 : decode cX11_sign 21 = .ok (.iconst (-1), 1) := by decide +kernel
theorem dX11_sign_22 : decode cX11_sign 22 = .ok (.ireturn, 1) := by decide +kernel
abbrev YX11_sign : li_Y := (yX11_sign, cX11_sign, 2, (some .int))
theorem dX11_end_0 : decode cX11_end 0 = .ok (.aload_n 0, 1) := by decide +kernel
theorem dX11_end_1 : decode cX11_end 1 = .ok (.getfield 12, 3) := by decide +kernel
theorem dX11_end_4 : decode cX11_end 4 = .ok (.iload_n 1, 1) := by decide +kernel
theorem dX11_end_5 : decode cX11_end 5 = .ok (.invokevirtual 101, 3) := by decide +kernel
theorem dX11_end_8 : decode cX11_end 8 = .ok (.ireturn, 1) := by decide +kernel
abbrev YX11_end : li_Y := (yX11_end, cX11_end, 2, (some .boolean))
theorem dX11_people_0 : decode cX11_people 0 = .ok (.aload_n 0, 1) := by decide +kernel
theorem dX11_people_1 : decode cX11_people 1 = .ok (.iconst 0, 1) := by decide +kernel
theorem dX11_people_2 : decode cX11_people 2 = .ok (.bipush 6, 2) := by decide +kernel
theorem dX11_people_4 : decode cX11_people 4 = .ok (.aload_n 0, 1) := by decide +kernel
theorem dX11_people_5 : decode cX11_people 5 = .ok (.getfield 26, 3) := by decide +kernel
theorem dX11_people_8 : decode cX11_people 8 = .ok (.getfield 104, 3) := by decide +kernel
theorem dX11_people_11 : decode cX11_people 11 = .ok (.isub, 1) := by decide +kernel
theorem dX11_people_12 : decode cX11_people 12 = .ok (.bipush 76, 2) := by decide +kernel
theorem dX11_people_14 : decode cX11_people 14 = .ok (.invokevirtual 107, 3) := by decide +kernel
theorem dX11_people_17 : decode cX11_people 17 = .ok (.istore_n 1, 1) := by decide +kernel
theorem dX11_people_18 : decode cX11_people 18 = .ok (.iload_n 1, 1) := by decide +kernel
theorem dX11_people_19 : decode cX11_people 19 = .ok (.ifCond .le 35, 3) := by decide +kernel
theorem dX11_people_54 : decode cX11_people 54 = .ok (.iload_n 1, 1) := by decide +kernel
theorem dX11_people_55 : decode cX11_people 55 = .ok (.ireturn, 1) := by decide +kernel
abbrev YX11_people : li_Y := (yX11_people, cX11_people, 2, (some .int))
theorem dX11_things_0 : decode cX11_things 0 = .ok (.aload_n 0, 1) := by decide +kernel
theorem dX11_things_1 : decode cX11_things 1 = .ok (.iconst 1, 1) := by decide +kernel
theorem dX11_things_2 : decode cX11_things 2 = .ok (.bipush 8, 2) := by decide +kernel
theorem dX11_things_4 : decode cX11_things 4 = .ok (.aload_n 0, 1) := by decide +kernel
theorem dX11_things_5 : decode cX11_things 5 = .ok (.getfield 26, 3) := by decide +kernel
theorem dX11_things_8 : decode cX11_things 8 = .ok (.getfield 118, 3) := by decide +kernel
theorem dX11_things_11 : decode cX11_things 11 = .ok (.isub, 1) := by decide +kernel
theorem dX11_things_12 : decode cX11_things 12 = .ok (.bipush 76, 2) := by decide +kernel
theorem dX11_things_14 : decode cX11_things 14 = .ok (.invokevirtual 107, 3) := by decide +kernel
theorem dX11_things_17 : decode cX11_things 17 = .ok (.istore_n 1, 1) := by decide +kernel
theorem dX11_things_18 : decode cX11_things 18 = .ok (.iload_n 1, 1) := by decide +kernel
theorem dX11_things_19 : decode cX11_things 19 = .ok (.ifCond .le 23, 3) := by decide +kernel
theorem dX11_things_42 : decode cX11_things 42 = .ok (.iload_n 1, 1) := by decide +kernel
theorem dX11_things_43 : decode cX11_things 43 = .ok (.ireturn, 1) := by decide +kernel
abbrev YX11_things : li_Y := (yX11_things, cX11_things, 2, (some .int))
theorem dX11_rule_0 : decode cX11_rule 0 = .ok (.aload_n 0, 1) := by decide +kernel
theorem dX11_rule_1 : decode cX11_rule 1 = .ok (.iconst 4, 1) := by decide +kernel
theorem dX11_rule_2 : decode cX11_rule 2 = .ok (.iconst 0, 1) := by decide +kernel
theorem dX11_rule_3 : decode cX11_rule 3 = .ok (.bipush 40, 2) := by decide +kernel
theorem dX11_rule_5 : decode cX11_rule 5 = .ok (.invokevirtual 107, 3) := by decide +kernel
theorem dX11_rule_8 : decode cX11_rule 8 = .ok (.istore_n 1, 1) := by decide +kernel
theorem dX11_rule_9 : decode cX11_rule 9 = .ok (.iload_n 1, 1) := by decide +kernel
theorem dX11_rule_10 : decode cX11_rule 10 = .ok (.ifCond .lt 14, 3) := by decide +kernel
theorem dX11_rule_13 : decode cX11_rule 13 = .ok (.aload_n 0, 1) := by decide +kernel
theorem dX11_rule_14 : decode cX11_rule 14 = .ok (.getfield 47, 3) := by decide +kernel
theorem dX11_rule_17 : decode cX11_rule 17 = .ok (.aload_n 0, 1) := by decide +kernel
theorem dX11_rule_18 : decode cX11_rule 18 = .ok (.getfield 51, 3) := by decide +kernel
theorem dX11_rule_21 : decode cX11_rule 21 = .ok (.invokevirtual 121, 3) := by decide +kernel
theorem dX11_rule_24 : decode cX11_rule 24 = .ok (.iload_n 1, 1) := by decide +kernel
theorem dX11_rule_25 : decode cX11_rule 25 = .ok (.ireturn, 1) := by decide +kernel
abbrev YX11_rule : li_Y := (yX11_rule, cX11_rule, 2, (some .int))
theorem dX11_move_0 : decode cX11_move 0 = .ok (.aload_n 0, 1) := by decide +kernel
theorem dX11_move_1 : decode cX11_move 1 = .ok (.getfield 26, 3) := by decide +kernel
theorem dX11_move_4 : decode cX11_move 4 = .ok (.iload_n 1, 1) := by decide +kernel
theorem dX11_move_5 : decode cX11_move 5 = .ok (.invokevirtual 125, 3) := by decide +kernel
theorem dX11_move_8 : decode cX11_move 8 = .ok (.ifCond .eq 13, 3) := by decide +kernel
theorem dX11_move_21 : decode cX11_move 21 = .ok (.iconst (-1), 1) := by decide +kernel
theorem dX11_move_22 : decode cX11_move 22 = .ok (.ireturn, 1) := by decide +kernel
abbrev YX11_move : li_Y := (yX11_move, cX11_move, 4, (some .int))
theorem dX11_sheet_0 : decode cX11_sheet 0 = .ok (.iload_n 1, 1) := by decide +kernel
theorem dX11_sheet_1 : decode cX11_sheet 1 = .ok (.iconst 0, 1) := by decide +kernel
theorem dX11_sheet_2 : decode cX11_sheet 2 = .ok (.iconst 3, 1) := by decide +kernel
theorem dX11_sheet_3 : decode cX11_sheet 3 = .ok (.invokestatic 128, 3) := by decide +kernel
theorem dX11_sheet_6 : decode cX11_sheet 6 = .ok (.ifCond .eq 9, 3) := by decide +kernel
theorem dX11_sheet_9 : decode cX11_sheet 9 = .ok (.iload_n 2, 1) := by decide +kernel
theorem dX11_sheet_10 : decode cX11_sheet 10 = .ok (.bipush 6, 2) := by decide +kernel
theorem dX11_sheet_12 : decode cX11_sheet 12 = .ok (.if_icmp .le 5, 3) := by decide +kernel
theorem dX11_sheet_15 : decode cX11_sheet 15 = .ok (.iconst (-1), 1) := by decide +kernel
theorem dX11_sheet_16 : decode cX11_sheet 16 = .ok (.ireturn, 1) := by decide +kernel
theorem dX11_sheet_17 : decode cX11_sheet 17 = .ok (.iload_n 1, 1) := by decide +kernel
theorem dX11_sheet_18 : decode cX11_sheet 18 = .ok (.iconst 3, 1) := by decide +kernel
theorem dX11_sheet_19 : decode cX11_sheet 19 = .ok (.if_icmp .eq 10, 3) := by decide +kernel
theorem dX11_sheet_22 : decode cX11_sheet 22 = .ok (.iload_n 2, 1) := by decide +kernel
theorem dX11_sheet_23 : decode cX11_sheet 23 = .ok (.ifCond .ge 6, 3) := by decide +kernel
theorem dX11_sheet_26 : decode cX11_sheet 26 = .ok (.bipush (-2), 2) := by decide +kernel
theorem dX11_sheet_28 : decode cX11_sheet 28 = .ok (.ireturn, 1) := by decide +kernel
theorem dX11_sheet_29 : decode cX11_sheet 29 = .ok (.iload_n 1, 1) := by decide +kernel
theorem dX11_sheet_30 : decode cX11_sheet 30 = .ok (.iconst 3, 1) := by decide +kernel
theorem dX11_sheet_31 : decode cX11_sheet 31 = .ok (.if_icmp .ne 7, 3) := by decide +kernel
theorem dX11_sheet_34 : decode cX11_sheet 34 = .ok (.iconst 0, 1) := by decide +kernel
theorem dX11_sheet_35 : decode cX11_sheet 35 = .ok (.goto 4, 3) := by decide +kernel
theorem dX11_sheet_38 : decode cX11_sheet 38 = .ok (.iload_n 2, 1) := by decide +kernel
theorem dX11_sheet_39 : decode cX11_sheet 39 = .ok (.istore 5, 2) := by decide +kernel
theorem dX11_sheet_41 : decode cX11_sheet 41 = .ok (.iconst 0, 1) := by decide +kernel
theorem dX11_sheet_42 : decode cX11_sheet 42 = .ok (.istore 6, 2) := by decide +kernel
theorem dX11_sheet_44 : decode cX11_sheet 44 = .ok (.iload 6, 2) := by decide +kernel
theorem dX11_sheet_46 : decode cX11_sheet 46 = .ok (.aload_n 0, 1) := by decide +kernel
theorem dX11_sheet_47 : decode cX11_sheet 47 = .ok (.getfield 26, 3) := by decide +kernel
theorem dX11_sheet_50 : decode cX11_sheet 50 = .ok (.getfield 104, 3) := by decide +kernel
theorem dX11_sheet_53 : decode cX11_sheet 53 = .ok (.if_icmp .ge 43, 3) := by decide +kernel
theorem dX11_sheet_56 : decode cX11_sheet 56 = .ok (.aload_n 0, 1) := by decide +kernel
theorem dX11_sheet_57 : decode cX11_sheet 57 = .ok (.getfield 33, 3) := by decide +kernel
theorem dX11_sheet_60 : decode cX11_sheet 60 = .ok (.getfield 146, 3) := by decide +kernel
theorem dX11_sheet_63 : decode cX11_sheet 63 = .ok (.iload 6, 2) := by decide +kernel
theorem dX11_sheet_65 : decode cX11_sheet 65 = .ok (.iload 6, 2) := by decide +kernel
theorem dX11_sheet_67 : decode cX11_sheet 67 = .ok (.iload 5, 2) := by decide +kernel
theorem dX11_sheet_69 : decode cX11_sheet 69 = .ok (.if_icmp .ge 17, 3) := by decide +kernel
theorem dX11_sheet_72 : decode cX11_sheet 72 = .ok (.iload_n 1, 1) := by decide +kernel
theorem dX11_sheet_73 : decode cX11_sheet 73 = .ok (.iload_n 3, 1) := by decide +kernel
theorem dX11_sheet_74 : decode cX11_sheet 74 = .ok (.iload 6, 2) := by decide +kernel
theorem dX11_sheet_76 : decode cX11_sheet 76 = .ok (.iload 4, 2) := by decide +kernel
theorem dX11_sheet_78 : decode cX11_sheet 78 = .ok (.imul, 1) := by decide +kernel
theorem dX11_sheet_79 : decode cX11_sheet 79 = .ok (.iadd, 1) := by decide +kernel
theorem dX11_sheet_80 : decode cX11_sheet 80 = .ok (.invokestatic 228, 3) := by decide +kernel
theorem dX11_sheet_83 : decode cX11_sheet 83 = .ok (.goto 4, 3) := by decide +kernel
theorem dX11_sheet_86 : decode cX11_sheet 86 = .ok (.iconst 0, 1) := by decide +kernel
theorem dX11_sheet_87 : decode cX11_sheet 87 = .ok (.invokestatic 224, 3) := by decide +kernel
theorem dX11_sheet_90 : decode cX11_sheet 90 = .ok (.iinc 6 1, 3) := by decide +kernel
theorem dX11_sheet_93 : decode cX11_sheet 93 = .ok (.goto (-49), 3) := by decide +kernel
theorem dX11_sheet_96 : decode cX11_sheet 96 = .ok (.iload_n 1, 1) := by decide +kernel
theorem dX11_sheet_97 : decode cX11_sheet 97 = .ok (.iconst 3, 1) := by decide +kernel
theorem dX11_sheet_98 : decode cX11_sheet 98 = .ok (.if_icmp .ne 8, 3) := by decide +kernel
theorem dX11_sheet_101 : decode cX11_sheet 101 = .ok (.bipush (-3), 2) := by decide +kernel
theorem dX11_sheet_103 : decode cX11_sheet 103 = .ok (.goto 17, 3) := by decide +kernel
theorem dX11_sheet_106 : decode cX11_sheet 106 = .ok (.aload_n 0, 1) := by decide +kernel
theorem dX11_sheet_107 : decode cX11_sheet 107 = .ok (.getfield 33, 3) := by decide +kernel
theorem dX11_sheet_110 : decode cX11_sheet 110 = .ok (.aload_n 0, 1) := by decide +kernel
theorem dX11_sheet_111 : decode cX11_sheet 111 = .ok (.getfield 26, 3) := by decide +kernel
theorem dX11_sheet_114 : decode cX11_sheet 114 = .ok (.getfield 104, 3) := by decide +kernel
theorem dX11_sheet_117 : decode cX11_sheet 117 = .ok (.invokevirtual 232, 3) := by decide +kernel
theorem dX11_sheet_120 : decode cX11_sheet 120 = .ok (.ireturn, 1) := by decide +kernel
abbrev YX11_sheet : li_Y := (yX11_sheet, cX11_sheet, 7, (some .int))
theorem dX11_cost_0 : decode cX11_cost 0 = .ok (.aload_n 0, 1) := by decide +kernel
theorem dX11_cost_1 : decode cX11_cost 1 = .ok (.getfield 26, 3) := by decide +kernel
theorem dX11_cost_4 : decode cX11_cost 4 = .ok (.iload_n 1, 1) := by decide +kernel
theorem dX11_cost_5 : decode cX11_cost 5 = .ok (.invokevirtual 170, 3) := by decide +kernel
theorem dX11_cost_8 : decode cX11_cost 8 = .ok (.ifCond .eq 12, 3) := by decide +kernel
theorem dX11_cost_20 : decode cX11_cost 20 = .ok (.iconst (-1), 1) := by decide +kernel
theorem dX11_cost_21 : decode cX11_cost 21 = .ok (.ireturn, 1) := by decide +kernel
abbrev YX11_cost : li_Y := (yX11_cost, cX11_cost, 3, (some .int))
theorem dX11_say_0 : decode cX11_say 0 = .ok (.aload_n 0, 1) := by decide +kernel
theorem dX11_say_1 : decode cX11_say 1 = .ok (.getfield 40, 3) := by decide +kernel
theorem dX11_say_4 : decode cX11_say 4 = .ok (.aload_n 0, 1) := by decide +kernel
theorem dX11_say_5 : decode cX11_say 5 = .ok (.getfield 33, 3) := by decide +kernel
theorem dX11_say_8 : decode cX11_say 8 = .ok (.invokevirtual 241, 3) := by decide +kernel
theorem dX11_say_11 : decode cX11_say 11 = .ok (.aload_n 0, 1) := by decide +kernel
theorem dX11_say_12 : decode cX11_say 12 = .ok (.aload_n 0, 1) := by decide +kernel
theorem dX11_say_13 : decode cX11_say 13 = .ok (.iload_n 1, 1) := by decide +kernel
theorem dX11_say_14 : decode cX11_say 14 = .ok (.iload_n 2, 1) := by decide +kernel
theorem dX11_say_15 : decode cX11_say 15 = .ok (.invokevirtual 245, 3) := by decide +kernel
theorem dX11_say_18 : decode cX11_say 18 = .ok (.invokevirtual 248, 3) := by decide +kernel
theorem dX11_say_21 : decode cX11_say 21 = .ok (.ireturn, 1) := by decide +kernel
abbrev YX11_say : li_Y := (yX11_say, cX11_say, 3, (some .int))
theorem dX11_give_0 : decode cX11_give 0 = .ok (.aload_n 0, 1) := by decide +kernel
theorem dX11_give_1 : decode cX11_give 1 = .ok (.getfield 40, 3) := by decide +kernel
theorem dX11_give_4 : decode cX11_give 4 = .ok (.aload_n 0, 1) := by decide +kernel
theorem dX11_give_5 : decode cX11_give 5 = .ok (.getfield 33, 3) := by decide +kernel
theorem dX11_give_8 : decode cX11_give 8 = .ok (.invokevirtual 241, 3) := by decide +kernel
theorem dX11_give_11 : decode cX11_give 11 = .ok (.aload_n 0, 1) := by decide +kernel
theorem dX11_give_12 : decode cX11_give 12 = .ok (.aload_n 0, 1) := by decide +kernel
theorem dX11_give_13 : decode cX11_give 13 = .ok (.iload_n 1, 1) := by decide +kernel
theorem dX11_give_14 : decode cX11_give 14 = .ok (.iload_n 2, 1) := by decide +kernel
theorem dX11_give_15 : decode cX11_give 15 = .ok (.iload_n 3, 1) := by decide +kernel
theorem dX11_give_16 : decode cX11_give 16 = .ok (.invokevirtual 251, 3) := by decide +kernel
theorem dX11_give_19 : decode cX11_give 19 = .ok (.invokevirtual 248, 3) := by decide +kernel
theorem dX11_give_22 : decode cX11_give 22 = .ok (.ireturn, 1) := by decide +kernel
abbrev YX11_give : li_Y := (yX11_give, cX11_give, 4, (some .int))
theorem dX11_lend_0 : decode cX11_lend 0 = .ok (.aload_n 0, 1) := by decide +kernel
theorem dX11_lend_1 : decode cX11_lend 1 = .ok (.getfield 26, 3) := by decide +kernel
theorem dX11_lend_4 : decode cX11_lend 4 = .ok (.iload_n 1, 1) := by decide +kernel
theorem dX11_lend_5 : decode cX11_lend 5 = .ok (.iload_n 2, 1) := by decide +kernel
theorem dX11_lend_6 : decode cX11_lend 6 = .ok (.invokevirtual 254, 3) := by decide +kernel
theorem dX11_lend_9 : decode cX11_lend 9 = .ok (.ifCond .eq 14, 3) := by decide +kernel
theorem dX11_lend_23 : decode cX11_lend 23 = .ok (.iconst (-1), 1) := by decide +kernel
theorem dX11_lend_24 : decode cX11_lend 24 = .ok (.ireturn, 1) := by decide +kernel
abbrev YX11_lend : li_Y := (yX11_lend, cX11_lend, 5, (some .int))
theorem dX11_days_0 : decode cX11_days 0 = .ok (.iload_n 1, 1) := by decide +kernel
theorem dX11_days_1 : decode cX11_days 1 = .ok (.iconst 0, 1) := by decide +kernel
theorem dX11_days_2 : decode cX11_days 2 = .ok (.bipush 99, 2) := by decide +kernel
theorem dX11_days_4 : decode cX11_days 4 = .ok (.invokestatic 128, 3) := by decide +kernel
theorem dX11_days_7 : decode cX11_days 7 = .ok (.ifCond .ne 5, 3) := by decide +kernel
theorem dX11_days_10 : decode cX11_days 10 = .ok (.iconst (-1), 1) := by decide +kernel
theorem dX11_days_11 : decode cX11_days 11 = .ok (.ireturn, 1) := by decide +kernel
theorem dX11_days_12 : decode cX11_days 12 = .ok (.aload_n 0, 1) := by decide +kernel
theorem dX11_days_13 : decode cX11_days 13 = .ok (.getfield 40, 3) := by decide +kernel
theorem dX11_days_16 : decode cX11_days 16 = .ok (.aload_n 0, 1) := by decide +kernel
theorem dX11_days_17 : decode cX11_days 17 = .ok (.getfield 33, 3) := by decide +kernel
theorem dX11_days_20 : decode cX11_days 20 = .ok (.invokevirtual 241, 3) := by decide +kernel
theorem dX11_days_23 : decode cX11_days 23 = .ok (.aload_n 0, 1) := by decide +kernel
theorem dX11_days_24 : decode cX11_days 24 = .ok (.getfield 33, 3) := by decide +kernel
theorem dX11_days_27 : decode cX11_days 27 = .ok (.invokevirtual 268, 3) := by decide +kernel
theorem dX11_days_30 : decode cX11_days 30 = .ok (.istore_n 2, 1) := by decide +kernel
theorem dX11_days_31 : decode cX11_days 31 = .ok (.aload_n 0, 1) := by decide +kernel
theorem dX11_days_32 : decode cX11_days 32 = .ok (.getfield 33, 3) := by decide +kernel
theorem dX11_days_35 : decode cX11_days 35 = .ok (.invokevirtual 272, 3) := by decide +kernel
theorem dX11_days_38 : decode cX11_days 38 = .ok (.lstore_n 3, 1) := by decide +kernel
theorem dX11_days_39 : decode cX11_days 39 = .ok (.aload_n 0, 1) := by decide +kernel
theorem dX11_days_40 : decode cX11_days 40 = .ok (.iload_n 1, 1) := by decide +kernel
theorem dX11_days_41 : decode cX11_days 41 = .ok (.invokevirtual 276, 3) := by decide +kernel
theorem dX11_days_44 : decode cX11_days 44 = .ok (.aload_n 0, 1) := by decide +kernel
theorem dX11_days_45 : decode cX11_days 45 = .ok (.getfield 19, 3) := by decide +kernel
theorem dX11_days_48 : decode cX11_days 48 = .ok (.aload_n 0, 1) := by decide +kernel
theorem dX11_days_49 : decode cX11_days 49 = .ok (.getfield 33, 3) := by decide +kernel
theorem dX11_days_52 : decode cX11_days 52 = .ok (.invokevirtual 268, 3) := by decide +kernel
theorem dX11_days_55 : decode cX11_days 55 = .ok (.iload_n 2, 1) := by decide +kernel
theorem dX11_days_56 : decode cX11_days 56 = .ok (.isub, 1) := by decide +kernel
theorem dX11_days_57 : decode cX11_days 57 = .ok (.aload_n 0, 1) := by decide +kernel
theorem dX11_days_58 : decode cX11_days 58 = .ok (.getfield 33, 3) := by decide +kernel
theorem dX11_days_61 : decode cX11_days 61 = .ok (.invokevirtual 272, 3) := by decide +kernel
theorem dX11_days_64 : decode cX11_days 64 = .ok (.lload_n 3, 1) := by decide +kernel
theorem dX11_days_65 : decode cX11_days 65 = .ok (.lsub, 1) := by decide +kernel
theorem dX11_days_66 : decode cX11_days 66 = .ok (.l2i, 1) := by decide +kernel
theorem dX11_days_67 : decode cX11_days 67 = .ok (.invokevirtual 280, 3) := by decide +kernel
theorem dX11_days_70 : decode cX11_days 70 = .ok (.iload_n 1, 1) := by decide +kernel
theorem dX11_days_71 : decode cX11_days 71 = .ok (.ifCond .le 10, 3) := by decide +kernel
theorem dX11_days_74 : decode cX11_days 74 = .ok (.aload_n 0, 1) := by decide +kernel
theorem dX11_days_75 : decode cX11_days 75 = .ok (.getfield 40, 3) := by decide +kernel
theorem dX11_days_78 : decode cX11_days 78 = .ok (.invokevirtual 284, 3) := by decide +kernel
theorem dX11_days_81 : decode cX11_days 81 = .ok (.aload_n 0, 1) := by decide +kernel
theorem dX11_days_82 : decode cX11_days 82 = .ok (.getfield 33, 3) := by decide +kernel
theorem dX11_days_85 : decode cX11_days 85 = .ok (.getfield 257, 3) := by decide +kernel
theorem dX11_days_88 : decode cX11_days 88 = .ok (.ireturn, 1) := by decide +kernel
abbrev YX11_days : li_Y := (yX11_days, cX11_days, 5, (some .int))
theorem dX11_talk_0 : decode cX11_talk 0 = .ok (.aload_n 0, 1) := by decide +kernel
theorem dX11_talk_1 : decode cX11_talk 1 = .ok (.iconst 2, 1) := by decide +kernel
theorem dX11_talk_2 : decode cX11_talk 2 = .ok (.bipush 40, 2) := by decide +kernel
theorem dX11_talk_4 : decode cX11_talk 4 = .ok (.bipush 60, 2) := by decide +kernel
theorem dX11_talk_6 : decode cX11_talk 6 = .ok (.invokevirtual 107, 3) := by decide +kernel
theorem dX11_talk_9 : decode cX11_talk 9 = .ok (.istore_n 1, 1) := by decide +kernel
theorem dX11_talk_10 : decode cX11_talk 10 = .ok (.iload_n 1, 1) := by decide +kernel
theorem dX11_talk_11 : decode cX11_talk 11 = .ok (.ifCond .ge 5, 3) := by decide +kernel
theorem dX11_talk_16 : decode cX11_talk 16 = .ok (.aload_n 0, 1) := by decide +kernel
theorem dX11_talk_17 : decode cX11_talk 17 = .ok (.getfield 40, 3) := by decide +kernel
theorem dX11_talk_20 : decode cX11_talk 20 = .ok (.aload_n 0, 1) := by decide +kernel
theorem dX11_talk_21 : decode cX11_talk 21 = .ok (.getfield 33, 3) := by decide +kernel
theorem dX11_talk_24 : decode cX11_talk 24 = .ok (.invokevirtual 241, 3) := by decide +kernel
theorem dX11_talk_27 : decode cX11_talk 27 = .ok (.iconst 0, 1) := by decide +kernel
theorem dX11_talk_28 : decode cX11_talk 28 = .ok (.istore_n 2, 1) := by decide +kernel
theorem dX11_talk_29 : decode cX11_talk 29 = .ok (.iconst 0, 1) := by decide +kernel
theorem dX11_talk_30 : decode cX11_talk 30 = .ok (.istore_n 3, 1) := by decide +kernel
theorem dX11_talk_31 : decode cX11_talk 31 = .ok (.iconst 0, 1) := by decide +kernel
theorem dX11_talk_32 : decode cX11_talk 32 = .ok (.istore 4, 2) := by decide +kernel
theorem dX11_talk_34 : decode cX11_talk 34 = .ok (.iload 4, 2) := by decide +kernel
theorem dX11_talk_36 : decode cX11_talk 36 = .ok (.iload_n 1, 1) := by decide +kernel
theorem dX11_talk_37 : decode cX11_talk 37 = .ok (.if_icmp .ge 46, 3) := by decide +kernel
theorem dX11_talk_83 : decode cX11_talk 83 = .ok (.iload_n 2, 1) := by decide +kernel
theorem dX11_talk_84 : decode cX11_talk 84 = .ok (.ifCond .le 10, 3) := by decide +kernel
theorem dX11_talk_94 : decode cX11_talk 94 = .ok (.aload_n 0, 1) := by decide +kernel
theorem dX11_talk_95 : decode cX11_talk 95 = .ok (.getfield 19, 3) := by decide +kernel
theorem dX11_talk_98 : decode cX11_talk 98 = .ok (.iload_n 2, 1) := by decide +kernel
theorem dX11_talk_99 : decode cX11_talk 99 = .ok (.iload_n 1, 1) := by decide +kernel
theorem dX11_talk_100 : decode cX11_talk 100 = .ok (.if_icmp .ge 7, 3) := by decide +kernel
theorem dX11_talk_103 : decode cX11_talk 103 = .ok (.iconst 1, 1) := by decide +kernel
theorem dX11_talk_104 : decode cX11_talk 104 = .ok (.goto 4, 3) := by decide +kernel
theorem dX11_talk_107 : decode cX11_talk 107 = .ok (.iconst 0, 1) := by decide +kernel
theorem dX11_talk_108 : decode cX11_talk 108 = .ok (.iload_n 3, 1) := by decide +kernel
theorem dX11_talk_109 : decode cX11_talk 109 = .ok (.invokevirtual 280, 3) := by decide +kernel
theorem dX11_talk_112 : decode cX11_talk 112 = .ok (.iload_n 2, 1) := by decide +kernel
theorem dX11_talk_113 : decode cX11_talk 113 = .ok (.ireturn, 1) := by decide +kernel
abbrev YX11_talk : li_Y := (yX11_talk, cX11_talk, 6, (some .int))
theorem dX11_undo_0 : decode cX11_undo 0 = .ok (.aload_n 0, 1) := by decide +kernel
theorem dX11_undo_1 : decode cX11_undo 1 = .ok (.getfield 40, 3) := by decide +kernel
theorem dX11_undo_4 : decode cX11_undo 4 = .ok (.aload_n 0, 1) := by decide +kernel
theorem dX11_undo_5 : decode cX11_undo 5 = .ok (.getfield 33, 3) := by decide +kernel
theorem dX11_undo_8 : decode cX11_undo 8 = .ok (.invokevirtual 293, 3) := by decide +kernel
theorem dX11_undo_11 : decode cX11_undo 11 = .ok (.ifCond .eq 13, 3) := by decide +kernel
theorem dX11_undo_24 : decode cX11_undo 24 = .ok (.iconst (-1), 1) := by decide +kernel
theorem dX11_undo_25 : decode cX11_undo 25 = .ok (.ireturn, 1) := by decide +kernel
abbrev YX11_undo : li_Y := (yX11_undo, cX11_undo, 1, (some .int))
