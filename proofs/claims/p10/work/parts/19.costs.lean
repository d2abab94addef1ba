theorem w_24 : (Jvm.Cond.selects "ClockForTalk$Costs" ({ cls := "ClockForTalk$Costs", name := "weigh", desc := "(II)V" } : Jvm.MethodName) ({ cls := "ClockForTalk$Costs", name := "weigh", desc := "(II)V" } : Jvm.MethodName)) ∈ li_ws := li_mem 24 (by decide +kernel) (by decide +kernel)
theorem w_109 : (Jvm.Cond.initialized "ClockForTalk$Costs") ∈ li_ws := li_mem 109 (by decide +kernel) (by decide +kernel)
theorem w_177 : (Jvm.Cond.fieldLink "ClockForTalk$Costs" (43 : Nat) "ClockForTalk$Town" "persons" "I") ∈ li_ws := li_mem 177 (by decide +kernel) (by decide +kernel)
theorem w_181 : (Jvm.Cond.fieldLink "ClockForTalk$Costs" (97 : Nat) "ClockForTalk$Town" "wishes" "I") ∈ li_ws := li_mem 181 (by decide +kernel) (by decide +kernel)
theorem w_189 : (Jvm.Cond.fieldLink "ClockForTalk$Costs" (80 : Nat) "ClockForTalk$Town" "who" "[I") ∈ li_ws := li_mem 189 (by decide +kernel) (by decide +kernel)
theorem w_192 : (Jvm.Cond.fieldLink "ClockForTalk$Costs" (90 : Nat) "ClockForTalk$Town" "whom" "[I") ∈ li_ws := li_mem 192 (by decide +kernel) (by decide +kernel)
theorem w_195 : (Jvm.Cond.fieldLink "ClockForTalk$Costs" (83 : Nat) "ClockForTalk$Town" "seconds" "[I") ∈ li_ws := li_mem 195 (by decide +kernel) (by decide +kernel)
theorem w_200 : (Jvm.Cond.fieldLink "ClockForTalk$Costs" (150 : Nat) "ClockForTalk$Town" "by" "[I") ∈ li_ws := li_mem 200 (by decide +kernel) (by decide +kernel)
theorem w_203 : (Jvm.Cond.fieldLink "ClockForTalk$Costs" (147 : Nat) "ClockForTalk$Town" "worth" "[I") ∈ li_ws := li_mem 203 (by decide +kernel) (by decide +kernel)
theorem w_230 : (Jvm.Cond.fieldLink "ClockForTalk$Costs" (65 : Nat) "ClockForTalk$Ledger" "day" "I") ∈ li_ws := li_mem 230 (by decide +kernel) (by decide +kernel)
theorem w_234 : (Jvm.Cond.fieldLink "ClockForTalk$Costs" (115 : Nat) "ClockForTalk$Ledger" "said" "I") ∈ li_ws := li_mem 234 (by decide +kernel) (by decide +kernel)
theorem w_242 : (Jvm.Cond.fieldLink "ClockForTalk$Costs" (60 : Nat) "ClockForTalk$Ledger" "clocks" "[I") ∈ li_ws := li_mem 242 (by decide +kernel) (by decide +kernel)
theorem w_318 : (Jvm.Cond.fieldLink "ClockForTalk$Costs" (51 : Nat) "ClockForTalk$Rule" "given" "[I") ∈ li_ws := li_mem 318 (by decide +kernel) (by decide +kernel)
theorem w_368 : (Jvm.Cond.fieldLink "ClockForTalk$Costs" (18 : Nat) "ClockForTalk$Costs" "town" "LClockForTalk$Town;") ∈ li_ws := li_mem 368 (by decide +kernel) (by decide +kernel)
theorem w_369 : (Jvm.Cond.fieldLink "ClockForTalk$Costs" (22 : Nat) "ClockForTalk$Costs" "ledger" "LClockForTalk$Ledger;") ∈ li_ws := li_mem 369 (by decide +kernel) (by decide +kernel)
theorem w_370 : (Jvm.Cond.fieldLink "ClockForTalk$Costs" (26 : Nat) "ClockForTalk$Costs" "law" "LClockForTalk$Rule;") ∈ li_ws := li_mem 370 (by decide +kernel) (by decide +kernel)
theorem w_371 : (Jvm.Cond.fieldLink "ClockForTalk$Costs" (9 : Nat) "ClockForTalk$Costs" "prices" "[I") ∈ li_ws := li_mem 371 (by decide +kernel) (by decide +kernel)
theorem w_373 : (Jvm.Cond.fieldLink "ClockForTalk$Costs" (15 : Nat) "ClockForTalk$Costs" "least" "[I") ∈ li_ws := li_mem 373 (by decide +kernel) (by decide +kernel)
theorem w_375 : (Jvm.Cond.fieldLink "ClockForTalk$Costs" (135 : Nat) "ClockForTalk$Costs" "chosen" "I") ∈ li_ws := li_mem 375 (by decide +kernel) (by decide +kernel)
theorem w_377 : (Jvm.Cond.fieldLink "ClockForTalk$Costs" (138 : Nat) "ClockForTalk$Costs" "chosenCost" "I") ∈ li_ws := li_mem 377 (by decide +kernel) (by decide +kernel)
theorem w_379 : (Jvm.Cond.fieldLink "ClockForTalk$Costs" (141 : Nat) "ClockForTalk$Costs" "chosenWorth" "I") ∈ li_ws := li_mem 379 (by decide +kernel) (by decide +kernel)
theorem w_789 : (Jvm.Cond.instanceMethod ({ cls := "ClockForTalk$Costs", name := "isHeard", desc := "(II)Z" } : Jvm.MethodName)) ∈ li_ws := li_mem 789 (by decide +kernel) (by decide +kernel)
theorem w_790 : (Jvm.Cond.selects "ClockForTalk$Costs" ({ cls := "ClockForTalk$Costs", name := "isHeard", desc := "(II)Z" } : Jvm.MethodName) ({ cls := "ClockForTalk$Costs", name := "isHeard", desc := "(II)Z" } : Jvm.MethodName)) ∈ li_ws := li_mem 790 (by decide +kernel) (by decide +kernel)
theorem w_791 : (Jvm.Cond.code ({ cls := "ClockForTalk$Costs", name := "isHeard", desc := "(II)Z" } : Jvm.MethodName) prog_2_method_2_code (3 : Nat) (Option.some Jvm.ClassFile.FieldType.boolean)) ∈ li_ws := li_mem 791 (by decide +kernel) (by decide +kernel)
theorem w_792 : (Jvm.Cond.methodLink "ClockForTalk$Costs" (30 : Nat) ({ cls := "ClockForTalk$Town", name := "apartFor", desc := "(I)I" } : Jvm.MethodName)) ∈ li_ws := li_mem 792 (by decide +kernel) (by decide +kernel)
theorem w_793 : (Jvm.Cond.instanceMethod ({ cls := "ClockForTalk$Town", name := "apartFor", desc := "(I)I" } : Jvm.MethodName)) ∈ li_ws := li_mem 793 (by decide +kernel) (by decide +kernel)
theorem w_794 : (Jvm.Cond.selects "ClockForTalk$Town" ({ cls := "ClockForTalk$Town", name := "apartFor", desc := "(I)I" } : Jvm.MethodName) ({ cls := "ClockForTalk$Town", name := "apartFor", desc := "(I)I" } : Jvm.MethodName)) ∈ li_ws := li_mem 794 (by decide +kernel) (by decide +kernel)
theorem w_795 : (Jvm.Cond.code ({ cls := "ClockForTalk$Town", name := "apartFor", desc := "(I)I" } : Jvm.MethodName) prog_9_method_6_code (2 : Nat) (Option.some Jvm.ClassFile.FieldType.int)) ∈ li_ws := li_mem 795 (by decide +kernel) (by decide +kernel)
theorem w_804 : (Jvm.Cond.fieldLink "ClockForTalk$Costs" (36 : Nat) "ClockForTalk$Costs" "REACH" "[I") ∈ li_ws := li_mem 804 (by decide +kernel) (by decide +kernel)
theorem w_808 : (Jvm.Cond.instanceMethod ({ cls := "ClockForTalk$Costs", name := "ofThing", desc := "(II)I" } : Jvm.MethodName)) ∈ li_ws := li_mem 808 (by decide +kernel) (by decide +kernel)
theorem w_809 : (Jvm.Cond.selects "ClockForTalk$Costs" ({ cls := "ClockForTalk$Costs", name := "ofThing", desc := "(II)I" } : Jvm.MethodName) ({ cls := "ClockForTalk$Costs", name := "ofThing", desc := "(II)I" } : Jvm.MethodName)) ∈ li_ws := li_mem 809 (by decide +kernel) (by decide +kernel)
theorem w_810 : (Jvm.Cond.code ({ cls := "ClockForTalk$Costs", name := "ofThing", desc := "(II)I" } : Jvm.MethodName) prog_2_method_5_code (3 : Nat) (Option.some Jvm.ClassFile.FieldType.int)) ∈ li_ws := li_mem 810 (by decide +kernel) (by decide +kernel)
theorem w_811 : (Jvm.Cond.methodLink "ClockForTalk$Costs" (86 : Nat) ({ cls := "ClockForTalk$Costs", name := "ofWord", desc := "(IIII)I" } : Jvm.MethodName)) ∈ li_ws := li_mem 811 (by decide +kernel) (by decide +kernel)
theorem w_812 : (Jvm.Cond.instanceMethod ({ cls := "ClockForTalk$Costs", name := "ofWord", desc := "(IIII)I" } : Jvm.MethodName)) ∈ li_ws := li_mem 812 (by decide +kernel) (by decide +kernel)
theorem w_813 : (Jvm.Cond.selects "ClockForTalk$Costs" ({ cls := "ClockForTalk$Costs", name := "ofWord", desc := "(IIII)I" } : Jvm.MethodName) ({ cls := "ClockForTalk$Costs", name := "ofWord", desc := "(IIII)I" } : Jvm.MethodName)) ∈ li_ws := li_mem 813 (by decide +kernel) (by decide +kernel)
theorem w_814 : (Jvm.Cond.code ({ cls := "ClockForTalk$Costs", name := "ofWord", desc := "(IIII)I" } : Jvm.MethodName) prog_2_method_4_code (5 : Nat) (Option.some Jvm.ClassFile.FieldType.int)) ∈ li_ws := li_mem 814 (by decide +kernel) (by decide +kernel)
theorem w_816 : (Jvm.Cond.methodLink "ClockForTalk$Costs" (68 : Nat) ({ cls := "ClockForTalk$Costs", name := "hearers", desc := "(II)I" } : Jvm.MethodName)) ∈ li_ws := li_mem 816 (by decide +kernel) (by decide +kernel)
theorem w_817 : (Jvm.Cond.instanceMethod ({ cls := "ClockForTalk$Costs", name := "hearers", desc := "(II)I" } : Jvm.MethodName)) ∈ li_ws := li_mem 817 (by decide +kernel) (by decide +kernel)
theorem w_818 : (Jvm.Cond.selects "ClockForTalk$Costs" ({ cls := "ClockForTalk$Costs", name := "hearers", desc := "(II)I" } : Jvm.MethodName) ({ cls := "ClockForTalk$Costs", name := "hearers", desc := "(II)I" } : Jvm.MethodName)) ∈ li_ws := li_mem 818 (by decide +kernel) (by decide +kernel)
theorem w_819 : (Jvm.Cond.code ({ cls := "ClockForTalk$Costs", name := "hearers", desc := "(II)I" } : Jvm.MethodName) prog_2_method_3_code (6 : Nat) (Option.some Jvm.ClassFile.FieldType.int)) ∈ li_ws := li_mem 819 (by decide +kernel) (by decide +kernel)
theorem w_820 : (Jvm.Cond.methodLink "ClockForTalk$Costs" (47 : Nat) ({ cls := "ClockForTalk$Town", name := "apart", desc := "(II)I" } : Jvm.MethodName)) ∈ li_ws := li_mem 820 (by decide +kernel) (by decide +kernel)
theorem w_821 : (Jvm.Cond.methodLink "ClockForTalk$Costs" (71 : Nat) ({ cls := "java/lang/Integer", name := "bitCount", desc := "(I)I" } : Jvm.MethodName)) ∈ li_ws := li_mem 821 (by decide +kernel) (by decide +kernel)
theorem w_827 : (Jvm.Cond.methodLink "ClockForTalk$Costs" (76 : Nat) ({ cls := "ClockForTalk$Rule", name := "evaluate", desc := "()I" } : Jvm.MethodName)) ∈ li_ws := li_mem 827 (by decide +kernel) (by decide +kernel)
theorem w_828 : (Jvm.Cond.instanceMethod ({ cls := "ClockForTalk$Rule", name := "evaluate", desc := "()I" } : Jvm.MethodName)) ∈ li_ws := li_mem 828 (by decide +kernel) (by decide +kernel)
theorem w_829 : (Jvm.Cond.selects "ClockForTalk$Rule" ({ cls := "ClockForTalk$Rule", name := "evaluate", desc := "()I" } : Jvm.MethodName) ({ cls := "ClockForTalk$Rule", name := "evaluate", desc := "()I" } : Jvm.MethodName)) ∈ li_ws := li_mem 829 (by decide +kernel) (by decide +kernel)
theorem w_830 : (Jvm.Cond.code ({ cls := "ClockForTalk$Rule", name := "evaluate", desc := "()I" } : Jvm.MethodName) prog_7_method_11_code (4 : Nat) (Option.some Jvm.ClassFile.FieldType.int)) ∈ li_ws := li_mem 830 (by decide +kernel) (by decide +kernel)
theorem w_860 : (Jvm.Cond.instanceMethod ({ cls := "ClockForTalk$Ledger", name := "isLate", desc := "(LClockForTalk$Town;I)Z" } : Jvm.MethodName)) ∈ li_ws := li_mem 860 (by decide +kernel) (by decide +kernel)
theorem w_861 : (Jvm.Cond.selects "ClockForTalk$Ledger" ({ cls := "ClockForTalk$Ledger", name := "isLate", desc := "(LClockForTalk$Town;I)Z" } : Jvm.MethodName) ({ cls := "ClockForTalk$Ledger", name := "isLate", desc := "(LClockForTalk$Town;I)Z" } : Jvm.MethodName)) ∈ li_ws := li_mem 861 (by decide +kernel) (by decide +kernel)
theorem w_862 : (Jvm.Cond.code ({ cls := "ClockForTalk$Ledger", name := "isLate", desc := "(LClockForTalk$Town;I)Z" } : Jvm.MethodName) prog_5_method_5_code (3 : Nat) (Option.some Jvm.ClassFile.FieldType.boolean)) ∈ li_ws := li_mem 862 (by decide +kernel) (by decide +kernel)
theorem w_968 : (Jvm.Cond.methodLink "ClockForTalk$Costs" (93 : Nat) ({ cls := "ClockForTalk$Costs", name := "cheapestWay", desc := "(III)I" } : Jvm.MethodName)) ∈ li_ws := li_mem 968 (by decide +kernel) (by decide +kernel)
theorem w_969 : (Jvm.Cond.instanceMethod ({ cls := "ClockForTalk$Costs", name := "cheapestWay", desc := "(III)I" } : Jvm.MethodName)) ∈ li_ws := li_mem 969 (by decide +kernel) (by decide +kernel)
theorem w_970 : (Jvm.Cond.selects "ClockForTalk$Costs" ({ cls := "ClockForTalk$Costs", name := "cheapestWay", desc := "(III)I" } : Jvm.MethodName) ({ cls := "ClockForTalk$Costs", name := "cheapestWay", desc := "(III)I" } : Jvm.MethodName)) ∈ li_ws := li_mem 970 (by decide +kernel) (by decide +kernel)
theorem w_971 : (Jvm.Cond.code ({ cls := "ClockForTalk$Costs", name := "cheapestWay", desc := "(III)I" } : Jvm.MethodName) prog_2_method_7_code (9 : Nat) (Option.some Jvm.ClassFile.FieldType.int)) ∈ li_ws := li_mem 971 (by decide +kernel) (by decide +kernel)
theorem w_992 : (Jvm.Cond.methodLink "ClockForTalk$Costs" (100 : Nat) ({ cls := "ClockForTalk$Costs", name := "isHeard", desc := "(II)Z" } : Jvm.MethodName)) ∈ li_ws := li_mem 992 (by decide +kernel) (by decide +kernel)
theorem w_993 : (Jvm.Cond.methodLink "ClockForTalk$Costs" (104 : Nat) ({ cls := "ClockForTalk$Costs", name := "ofThing", desc := "(II)I" } : Jvm.MethodName)) ∈ li_ws := li_mem 993 (by decide +kernel) (by decide +kernel)
theorem w_994 : (Jvm.Cond.methodLink "ClockForTalk$Costs" (107 : Nat) ({ cls := "java/lang/Math", name := "min", desc := "(II)I" } : Jvm.MethodName)) ∈ li_ws := li_mem 994 (by decide +kernel) (by decide +kernel)
theorem w_999 : (Jvm.Cond.methodLink "ClockForTalk$Costs" (128 : Nat) ({ cls := "ClockForTalk$Costs", name := "openThingsOf", desc := "(I)I" } : Jvm.MethodName)) ∈ li_ws := li_mem 999 (by decide +kernel) (by decide +kernel)
theorem w_1000 : (Jvm.Cond.instanceMethod ({ cls := "ClockForTalk$Costs", name := "openThingsOf", desc := "(I)I" } : Jvm.MethodName)) ∈ li_ws := li_mem 1000 (by decide +kernel) (by decide +kernel)
theorem w_1001 : (Jvm.Cond.selects "ClockForTalk$Costs" ({ cls := "ClockForTalk$Costs", name := "openThingsOf", desc := "(I)I" } : Jvm.MethodName) ({ cls := "ClockForTalk$Costs", name := "openThingsOf", desc := "(I)I" } : Jvm.MethodName)) ∈ li_ws := li_mem 1001 (by decide +kernel) (by decide +kernel)
theorem w_1002 : (Jvm.Cond.code ({ cls := "ClockForTalk$Costs", name := "openThingsOf", desc := "(I)I" } : Jvm.MethodName) prog_2_method_11_code (2 : Nat) (Option.some Jvm.ClassFile.FieldType.int)) ∈ li_ws := li_mem 1002 (by decide +kernel) (by decide +kernel)
theorem w_1003 : (Jvm.Cond.methodLink "ClockForTalk$Costs" (122 : Nat) ({ cls := "ClockForTalk$Costs", name := "openThings", desc := "()I" } : Jvm.MethodName)) ∈ li_ws := li_mem 1003 (by decide +kernel) (by decide +kernel)
theorem w_1004 : (Jvm.Cond.instanceMethod ({ cls := "ClockForTalk$Costs", name := "openThings", desc := "()I" } : Jvm.MethodName)) ∈ li_ws := li_mem 1004 (by decide +kernel) (by decide +kernel)
theorem w_1005 : (Jvm.Cond.selects "ClockForTalk$Costs" ({ cls := "ClockForTalk$Costs", name := "openThings", desc := "()I" } : Jvm.MethodName) ({ cls := "ClockForTalk$Costs", name := "openThings", desc := "()I" } : Jvm.MethodName)) ∈ li_ws := li_mem 1005 (by decide +kernel) (by decide +kernel)
theorem w_1006 : (Jvm.Cond.code ({ cls := "ClockForTalk$Costs", name := "openThings", desc := "()I" } : Jvm.MethodName) prog_2_method_10_code (3 : Nat) (Option.some Jvm.ClassFile.FieldType.int)) ∈ li_ws := li_mem 1006 (by decide +kernel) (by decide +kernel)
theorem w_1008 : (Jvm.Cond.methodLink "ClockForTalk$Costs" (118 : Nat) ({ cls := "ClockForTalk$Ledger", name := "isLate", desc := "(LClockForTalk$Town;I)Z" } : Jvm.MethodName)) ∈ li_ws := li_mem 1008 (by decide +kernel) (by decide +kernel)
theorem w_1009 : (Jvm.Cond.methodLink "ClockForTalk$Costs" (125 : Nat) ({ cls := "ClockForTalk$Town", name := "thingsOf", desc := "(I)I" } : Jvm.MethodName)) ∈ li_ws := li_mem 1009 (by decide +kernel) (by decide +kernel)
theorem w_1010 : (Jvm.Cond.instanceMethod ({ cls := "ClockForTalk$Town", name := "thingsOf", desc := "(I)I" } : Jvm.MethodName)) ∈ li_ws := li_mem 1010 (by decide +kernel) (by decide +kernel)
theorem w_1011 : (Jvm.Cond.selects "ClockForTalk$Town" ({ cls := "ClockForTalk$Town", name := "thingsOf", desc := "(I)I" } : Jvm.MethodName) ({ cls := "ClockForTalk$Town", name := "thingsOf", desc := "(I)I" } : Jvm.MethodName)) ∈ li_ws := li_mem 1011 (by decide +kernel) (by decide +kernel)
theorem w_1012 : (Jvm.Cond.code ({ cls := "ClockForTalk$Town", name := "thingsOf", desc := "(I)I" } : Jvm.MethodName) prog_9_method_7_code (4 : Nat) (Option.some Jvm.ClassFile.FieldType.int)) ∈ li_ws := li_mem 1012 (by decide +kernel) (by decide +kernel)
theorem w_1013 : (Jvm.Cond.methodLink "ClockForTalk$Costs" (131 : Nat) ({ cls := "ClockForTalk$Costs", name := "choose", desc := "(II)V" } : Jvm.MethodName)) ∈ li_ws := li_mem 1013 (by decide +kernel) (by decide +kernel)
theorem w_1014 : (Jvm.Cond.instanceMethod ({ cls := "ClockForTalk$Costs", name := "choose", desc := "(II)V" } : Jvm.MethodName)) ∈ li_ws := li_mem 1014 (by decide +kernel) (by decide +kernel)
theorem w_1015 : (Jvm.Cond.selects "ClockForTalk$Costs" ({ cls := "ClockForTalk$Costs", name := "choose", desc := "(II)V" } : Jvm.MethodName) ({ cls := "ClockForTalk$Costs", name := "choose", desc := "(II)V" } : Jvm.MethodName)) ∈ li_ws := li_mem 1015 (by decide +kernel) (by decide +kernel)
theorem w_1016 : (Jvm.Cond.code ({ cls := "ClockForTalk$Costs", name := "choose", desc := "(II)V" } : Jvm.MethodName) prog_2_method_13_code (4 : Nat) (Option.none : Option Jvm.ClassFile.FieldType)) ∈ li_ws := li_mem 1016 (by decide +kernel) (by decide +kernel)
theorem w_1017 : (Jvm.Cond.methodLink "ClockForTalk$Costs" (144 : Nat) ({ cls := "ClockForTalk$Costs", name := "weigh", desc := "(II)V" } : Jvm.MethodName)) ∈ li_ws := li_mem 1017 (by decide +kernel) (by decide +kernel)
theorem w_1019 : (Jvm.Cond.instanceMethod ({ cls := "ClockForTalk$Costs", name := "weigh", desc := "(II)V" } : Jvm.MethodName)) ∈ li_ws := li_mem 1019 (by decide +kernel) (by decide +kernel)
theorem w_1020 : (Jvm.Cond.code ({ cls := "ClockForTalk$Costs", name := "weigh", desc := "(II)V" } : Jvm.MethodName) prog_2_method_14_code (6 : Nat) (Option.none : Option Jvm.ClassFile.FieldType)) ∈ li_ws := li_mem 1020 (by decide +kernel) (by decide +kernel)
theorem dX0_isHeard_0 : decode cX0_isHeard 0 = .ok (.aload_n 0, 1) := by decide +kernel
theorem dX0_isHeard_1 : decode cX0_isHeard 1 = .ok (.getfield 18, 3) := by decide +kernel
theorem dX0_isHeard_4 : decode cX0_isHeard 4 = .ok (.iload_n 1, 1) := by decide +kernel
theorem dX0_isHeard_5 : decode cX0_isHeard 5 = .ok (.invokevirtual 30, 3) := by decide +kernel
theorem dX0_isHeard_8 : decode cX0_isHeard 8 = .ok (.getstatic 36, 3) := by decide +kernel
theorem dX0_isHeard_11 : decode cX0_isHeard 11 = .ok (.iload_n 2, 1) := by decide +kernel
theorem dX0_isHeard_12 : decode cX0_isHeard 12 = .ok (.invokestatic 39, 3) := by decide +kernel
theorem dX0_isHeard_15 : decode cX0_isHeard 15 = .ok (.if_icmp .gt 7, 3) := by decide +kernel
theorem dX0_isHeard_18 : decode cX0_isHeard 18 = .ok (.iconst 1, 1) := by decide +kernel
theorem dX0_isHeard_19 : decode cX0_isHeard 19 = .ok (.goto 4, 3) := by decide +kernel
theorem dX0_isHeard_22 : decode cX0_isHeard 22 = .ok (.iconst 0, 1) := by decide +kernel
theorem dX0_isHeard_23 : decode cX0_isHeard 23 = .ok (.ireturn, 1) := by decide +kernel
abbrev YX0_isHeard : li_Y := (yX0_isHeard, cX0_isHeard, 3, (some .boolean))
theorem dX0_hearers_0 : decode cX0_hearers 0 = .ok (.getstatic 36, 3) := by decide +kernel
theorem dX0_hearers_3 : decode cX0_hearers 3 = .ok (.iload_n 2, 1) := by decide +kernel
theorem dX0_hearers_4 : decode cX0_hearers 4 = .ok (.invokestatic 39, 3) := by decide +kernel
theorem dX0_hearers_7 : decode cX0_hearers 7 = .ok (.istore_n 3, 1) := by decide +kernel
theorem dX0_hearers_8 : decode cX0_hearers 8 = .ok (.iconst 0, 1) := by decide +kernel
theorem dX0_hearers_9 : decode cX0_hearers 9 = .ok (.istore 4, 2) := by decide +kernel
theorem dX0_hearers_11 : decode cX0_hearers 11 = .ok (.iconst 0, 1) := by decide +kernel
theorem dX0_hearers_12 : decode cX0_hearers 12 = .ok (.istore 5, 2) := by decide +kernel
theorem dX0_hearers_14 : decode cX0_hearers 14 = .ok (.iload 5, 2) := by decide +kernel
theorem dX0_hearers_16 : decode cX0_hearers 16 = .ok (.aload_n 0, 1) := by decide +kernel
theorem dX0_hearers_17 : decode cX0_hearers 17 = .ok (.getfield 18, 3) := by decide +kernel
theorem dX0_hearers_20 : decode cX0_hearers 20 = .ok (.getfield 43, 3) := by decide +kernel
theorem dX0_hearers_23 : decode cX0_hearers 23 = .ok (.if_icmp .ge 38, 3) := by decide +kernel
theorem dX0_hearers_26 : decode cX0_hearers 26 = .ok (.iload 5, 2) := by decide +kernel
theorem dX0_hearers_28 : decode cX0_hearers 28 = .ok (.iload_n 1, 1) := by decide +kernel
theorem dX0_hearers_29 : decode cX0_hearers 29 = .ok (.if_icmp .eq 26, 3) := by decide +kernel
theorem dX0_hearers_32 : decode cX0_hearers 32 = .ok (.aload_n 0, 1) := by decide +kernel
theorem dX0_hearers_33 : decode cX0_hearers 33 = .ok (.getfield 18, 3) := by decide +kernel
theorem dX0_hearers_36 : decode cX0_hearers 36 = .ok (.iload_n 1, 1) := by decide +kernel
theorem dX0_hearers_37 : decode cX0_hearers 37 = .ok (.iload 5, 2) := by decide +kernel
theorem dX0_hearers_39 : decode cX0_hearers 39 = .ok (.invokevirtual 47, 3) := by decide +kernel
theorem dX0_hearers_42 : decode cX0_hearers 42 = .ok (.iload_n 3, 1) := by decide +kernel
theorem dX0_hearers_43 : decode cX0_hearers 43 = .ok (.if_icmp .gt 12, 3) := by decide +kernel
theorem dX0_hearers_46 : decode cX0_hearers 46 = .ok (.iload 4, 2) := by decide +kernel
theorem dX0_hearers_48 : decode cX0_hearers 48 = .ok (.iconst 1, 1) := by decide +kernel
theorem dX0_hearers_49 : decode cX0_hearers 49 = .ok (.iload 5, 2) := by decide +kernel
theorem dX0_hearers_51 : decode cX0_hearers 51 = .ok (.ishl, 1) := by decide +kernel
theorem dX0_hearers_52 : decode cX0_hearers 52 = .ok (.ior, 1) := by decide +kernel
theorem dX0_hearers_53 : decode cX0_hearers 53 = .ok (.istore 4, 2) := by decide +kernel
theorem dX0_hearers_55 : decode cX0_hearers 55 = .ok (.iinc 5 1, 3) := by decide +kernel
theorem dX0_hearers_58 : decode cX0_hearers 58 = .ok (.goto (-44), 3) := by decide +kernel
theorem dX0_hearers_61 : decode cX0_hearers 61 = .ok (.iload 4, 2) := by decide +kernel
theorem dX0_hearers_63 : decode cX0_hearers 63 = .ok (.ireturn, 1) := by decide +kernel
abbrev YX0_hearers : li_Y := (yX0_hearers, cX0_hearers, 6, (some .int))
theorem dX0_ofWord_0 : decode cX0_ofWord 0 = .ok (.aload_n 0, 1) := by decide +kernel
theorem dX0_ofWord_1 : decode cX0_ofWord 1 = .ok (.getfield 26, 3) := by decide +kernel
theorem dX0_ofWord_4 : decode cX0_ofWord 4 = .ok (.getfield 51, 3) := by decide +kernel
theorem dX0_ofWord_7 : decode cX0_ofWord 7 = .ok (.iconst 0, 1) := by decide +kernel
theorem dX0_ofWord_8 : decode cX0_ofWord 8 = .ok (.iload_n 2, 1) := by decide +kernel
theorem dX0_ofWord_9 : decode cX0_ofWord 9 = .ok (.invokestatic 56, 3) := by decide +kernel
theorem dX0_ofWord_12 : decode cX0_ofWord 12 = .ok (.aload_n 0, 1) := by decide +kernel
theorem dX0_ofWord_13 : decode cX0_ofWord 13 = .ok (.getfield 26, 3) := by decide +kernel
theorem dX0_ofWord_16 : decode cX0_ofWord 16 = .ok (.getfield 51, 3) := by decide +kernel
theorem dX0_ofWord_19 : decode cX0_ofWord 19 = .ok (.iconst 1, 1) := by decide +kernel
theorem dX0_ofWord_20 : decode cX0_ofWord 20 = .ok (.iload_n 3, 1) := by decide +kernel
theorem dX0_ofWord_21 : decode cX0_ofWord 21 = .ok (.invokestatic 56, 3) := by decide +kernel
theorem dX0_ofWord_24 : decode cX0_ofWord 24 = .ok (.aload_n 0, 1) := by decide +kernel
theorem dX0_ofWord_25 : decode cX0_ofWord 25 = .ok (.getfield 26, 3) := by decide +kernel
theorem dX0_ofWord_28 : decode cX0_ofWord 28 = .ok (.getfield 51, 3) := by decide +kernel
theorem dX0_ofWord_31 : decode cX0_ofWord 31 = .ok (.iconst 2, 1) := by decide +kernel
theorem dX0_ofWord_32 : decode cX0_ofWord 32 = .ok (.iload 4, 2) := by decide +kernel
theorem dX0_ofWord_34 : decode cX0_ofWord 34 = .ok (.invokestatic 56, 3) := by decide +kernel
theorem dX0_ofWord_37 : decode cX0_ofWord 37 = .ok (.aload_n 0, 1) := by decide +kernel
theorem dX0_ofWord_38 : decode cX0_ofWord 38 = .ok (.getfield 26, 3) := by decide +kernel
theorem dX0_ofWord_41 : decode cX0_ofWord 41 = .ok (.getfield 51, 3) := by decide +kernel
theorem dX0_ofWord_44 : decode cX0_ofWord 44 = .ok (.iconst 3, 1) := by decide +kernel
theorem dX0_ofWord_45 : decode cX0_ofWord 45 = .ok (.aload_n 0, 1) := by decide +kernel
theorem dX0_ofWord_46 : decode cX0_ofWord 46 = .ok (.getfield 22, 3) := by decide +kernel
theorem dX0_ofWord_49 : decode cX0_ofWord 49 = .ok (.getfield 60, 3) := by decide +kernel
theorem dX0_ofWord_52 : decode cX0_ofWord 52 = .ok (.iload_n 1, 1) := by decide +kernel
theorem dX0_ofWord_53 : decode cX0_ofWord 53 = .ok (.invokestatic 39, 3) := by decide +kernel
theorem dX0_ofWord_56 : decode cX0_ofWord 56 = .ok (.invokestatic 56, 3) := by decide +kernel
theorem dX0_ofWord_59 : decode cX0_ofWord 59 = .ok (.aload_n 0, 1) := by decide +kernel
theorem dX0_ofWord_60 : decode cX0_ofWord 60 = .ok (.getfield 26, 3) := by decide +kernel
theorem dX0_ofWord_63 : decode cX0_ofWord 63 = .ok (.getfield 51, 3) := by decide +kernel
theorem dX0_ofWord_66 : decode cX0_ofWord 66 = .ok (.iconst 4, 1) := by decide +kernel
theorem dX0_ofWord_67 : decode cX0_ofWord 67 = .ok (.aload_n 0, 1) := by decide +kernel
theorem dX0_ofWord_68 : decode cX0_ofWord 68 = .ok (.getfield 22, 3) := by decide +kernel
theorem dX0_ofWord_71 : decode cX0_ofWord 71 = .ok (.getfield 65, 3) := by decide +kernel
theorem dX0_ofWord_74 : decode cX0_ofWord 74 = .ok (.bipush 100, 2) := by decide +kernel
theorem dX0_ofWord_76 : decode cX0_ofWord 76 = .ok (.irem, 1) := by decide +kernel
theorem dX0_ofWord_77 : decode cX0_ofWord 77 = .ok (.invokestatic 56, 3) := by decide +kernel
theorem dX0_ofWord_80 : decode cX0_ofWord 80 = .ok (.aload_n 0, 1) := by decide +kernel
theorem dX0_ofWord_81 : decode cX0_ofWord 81 = .ok (.getfield 26, 3) := by decide +kernel
theorem dX0_ofWord_84 : decode cX0_ofWord 84 = .ok (.getfield 51, 3) := by decide +kernel
theorem dX0_ofWord_87 : decode cX0_ofWord 87 = .ok (.iconst 5, 1) := by decide +kernel
theorem dX0_ofWord_88 : decode cX0_ofWord 88 = .ok (.aload_n 0, 1) := by decide +kernel
theorem dX0_ofWord_89 : decode cX0_ofWord 89 = .ok (.iload_n 1, 1) := by decide +kernel
theorem dX0_ofWord_90 : decode cX0_ofWord 90 = .ok (.iload_n 3, 1) := by decide +kernel
theorem dX0_ofWord_91 : decode cX0_ofWord 91 = .ok (.invokevirtual 68, 3) := by decide +kernel
theorem dX0_ofWord_94 : decode cX0_ofWord 94 = .ok (.invokestatic 71, 3) := by decide +kernel
theorem dX0_ofWord_97 : decode cX0_ofWord 97 = .ok (.invokestatic 56, 3) := by decide +kernel
theorem dX0_ofWord_100 : decode cX0_ofWord 100 = .ok (.aload_n 0, 1) := by decide +kernel
theorem dX0_ofWord_101 : decode cX0_ofWord 101 = .ok (.getfield 26, 3) := by decide +kernel
theorem dX0_ofWord_104 : decode cX0_ofWord 104 = .ok (.invokevirtual 76, 3) := by decide +kernel
theorem dX0_ofWord_107 : decode cX0_ofWord 107 = .ok (.ireturn, 1) := by decide +kernel
abbrev YX0_ofWord : li_Y := (yX0_ofWord, cX0_ofWord, 5, (some .int))
theorem dX0_ofThing_0 : decode cX0_ofThing 0 = .ok (.aload_n 0, 1) := by decide +kernel
theorem dX0_ofThing_1 : decode cX0_ofThing 1 = .ok (.aload_n 0, 1) := by decide +kernel
theorem dX0_ofThing_2 : decode cX0_ofThing 2 = .ok (.getfield 18, 3) := by decide +kernel
theorem dX0_ofThing_5 : decode cX0_ofThing 5 = .ok (.getfield 80, 3) := by decide +kernel
theorem dX0_ofThing_8 : decode cX0_ofThing 8 = .ok (.iload_n 1, 1) := by decide +kernel
theorem dX0_ofThing_9 : decode cX0_ofThing 9 = .ok (.invokestatic 39, 3) := by decide +kernel
theorem dX0_ofThing_12 : decode cX0_ofThing 12 = .ok (.aload_n 0, 1) := by decide +kernel
theorem dX0_ofThing_13 : decode cX0_ofThing 13 = .ok (.getfield 18, 3) := by decide +kernel
theorem dX0_ofThing_16 : decode cX0_ofThing 16 = .ok (.getfield 83, 3) := by decide +kernel
theorem dX0_ofThing_19 : decode cX0_ofThing 19 = .ok (.iload_n 1, 1) := by decide +kernel
theorem dX0_ofThing_20 : decode cX0_ofThing 20 = .ok (.invokestatic 39, 3) := by decide +kernel
theorem dX0_ofThing_23 : decode cX0_ofThing 23 = .ok (.iload_n 2, 1) := by decide +kernel
theorem dX0_ofThing_24 : decode cX0_ofThing 24 = .ok (.aload_n 0, 1) := by decide +kernel
theorem dX0_ofThing_25 : decode cX0_ofThing 25 = .ok (.getfield 18, 3) := by decide +kernel
theorem dX0_ofThing_28 : decode cX0_ofThing 28 = .ok (.iload_n 1, 1) := by decide +kernel
theorem dX0_ofThing_29 : decode cX0_ofThing 29 = .ok (.invokevirtual 30, 3) := by decide +kernel
theorem dX0_ofThing_32 : decode cX0_ofThing 32 = .ok (.invokevirtual 86, 3) := by decide +kernel
theorem dX0_ofThing_35 : decode cX0_ofThing 35 = .ok (.ireturn, 1) := by decide +kernel
abbrev YX0_ofThing : li_Y := (yX0_ofThing, cX0_ofThing, 3, (some .int))
theorem dX0_cheapestWay_0 : decode cX0_cheapestWay 0 = .ok (.aload_n 0, 1) := by decide +kernel
theorem dX0_cheapestWay_1 : decode cX0_cheapestWay 1 = .ok (.getfield 18, 3) := by decide +kernel
theorem dX0_cheapestWay_4 : decode cX0_cheapestWay 4 = .ok (.iload_n 1, 1) := by decide +kernel
theorem dX0_cheapestWay_5 : decode cX0_cheapestWay 5 = .ok (.iload_n 2, 1) := by decide +kernel
theorem dX0_cheapestWay_6 : decode cX0_cheapestWay 6 = .ok (.invokevirtual 47, 3) := by decide +kernel
theorem dX0_cheapestWay_9 : decode cX0_cheapestWay 9 = .ok (.istore 4, 2) := by decide +kernel
theorem dX0_cheapestWay_11 : decode cX0_cheapestWay 11 = .ok (.iconst 3, 1) := by decide +kernel
theorem dX0_cheapestWay_12 : decode cX0_cheapestWay 12 = .ok (.istore 5, 2) := by decide +kernel
theorem dX0_cheapestWay_14 : decode cX0_cheapestWay 14 = .ok (.sipush 1000, 3) := by decide +kernel
theorem dX0_cheapestWay_17 : decode cX0_cheapestWay 17 = .ok (.istore 6, 2) := by decide +kernel
theorem dX0_cheapestWay_19 : decode cX0_cheapestWay 19 = .ok (.iconst 0, 1) := by decide +kernel
theorem dX0_cheapestWay_20 : decode cX0_cheapestWay 20 = .ok (.istore 7, 2) := by decide +kernel
theorem dX0_cheapestWay_22 : decode cX0_cheapestWay 22 = .ok (.iload 7, 2) := by decide +kernel
theorem dX0_cheapestWay_24 : decode cX0_cheapestWay 24 = .ok (.iconst 4, 1) := by decide +kernel
theorem dX0_cheapestWay_25 : decode cX0_cheapestWay 25 = .ok (.if_icmp .ge 49, 3) := by decide +kernel
theorem dX0_cheapestWay_28 : decode cX0_cheapestWay 28 = .ok (.iload 4, 2) := by decide +kernel
theorem dX0_cheapestWay_30 : decode cX0_cheapestWay 30 = .ok (.getstatic 36, 3) := by decide +kernel
theorem dX0_cheapestWay_33 : decode cX0_cheapestWay 33 = .ok (.iload 7, 2) := by decide +kernel
theorem dX0_cheapestWay_35 : decode cX0_cheapestWay 35 = .ok (.invokestatic 39, 3) := by decide +kernel
theorem dX0_cheapestWay_38 : decode cX0_cheapestWay 38 = .ok (.if_icmp .gt 30, 3) := by decide +kernel
theorem dX0_cheapestWay_41 : decode cX0_cheapestWay 41 = .ok (.aload_n 0, 1) := by decide +kernel
theorem dX0_cheapestWay_42 : decode cX0_cheapestWay 42 = .ok (.iload_n 1, 1) := by decide +kernel
theorem dX0_cheapestWay_43 : decode cX0_cheapestWay 43 = .ok (.iload_n 3, 1) := by decide +kernel
theorem dX0_cheapestWay_44 : decode cX0_cheapestWay 44 = .ok (.iload 7, 2) := by decide +kernel
theorem dX0_cheapestWay_46 : decode cX0_cheapestWay 46 = .ok (.iload 4, 2) := by decide +kernel
theorem dX0_cheapestWay_48 : decode cX0_cheapestWay 48 = .ok (.invokevirtual 86, 3) := by decide +kernel
theorem dX0_cheapestWay_51 : decode cX0_cheapestWay 51 = .ok (.istore 8, 2) := by decide +kernel
theorem dX0_cheapestWay_53 : decode cX0_cheapestWay 53 = .ok (.iload 8, 2) := by decide +kernel
theorem dX0_cheapestWay_55 : decode cX0_cheapestWay 55 = .ok (.iload 6, 2) := by decide +kernel
theorem dX0_cheapestWay_57 : decode cX0_cheapestWay 57 = .ok (.if_icmp .ge 11, 3) := by decide +kernel
theorem dX0_cheapestWay_60 : decode cX0_cheapestWay 60 = .ok (.iload 8, 2) := by decide +kernel
theorem dX0_cheapestWay_62 : decode cX0_cheapestWay 62 = .ok (.istore 6, 2) := by decide +kernel
theorem dX0_cheapestWay_64 : decode cX0_cheapestWay 64 = .ok (.iload 7, 2) := by decide +kernel
theorem dX0_cheapestWay_66 : decode cX0_cheapestWay 66 = .ok (.istore 5, 2) := by decide +kernel
theorem dX0_cheapestWay_68 : decode cX0_cheapestWay 68 = .ok (.iinc 7 1, 3) := by decide +kernel
theorem dX0_cheapestWay_71 : decode cX0_cheapestWay 71 = .ok (.goto (-49), 3) := by decide +kernel
theorem dX0_cheapestWay_74 : decode cX0_cheapestWay 74 = .ok (.iload 5, 2) := by decide +kernel
theorem dX0_cheapestWay_76 : decode cX0_cheapestWay 76 = .ok (.ireturn, 1) := by decide +kernel
abbrev YX0_cheapestWay : li_Y := (yX0_cheapestWay, cX0_cheapestWay, 9, (some .int))
theorem dX0_leastWay_0 : decode cX0_leastWay 0 = .ok (.aload_n 0, 1) := by decide +kernel
theorem dX0_leastWay_1 : decode cX0_leastWay 1 = .ok (.aload_n 0, 1) := by decide +kernel
theorem dX0_leastWay_2 : decode cX0_leastWay 2 = .ok (.getfield 18, 3) := by decide +kernel
theorem dX0_leastWay_5 : decode cX0_leastWay 5 = .ok (.getfield 80, 3) := by decide +kernel
theorem dX0_leastWay_8 : decode cX0_leastWay 8 = .ok (.iload_n 1, 1) := by decide +kernel
theorem dX0_leastWay_9 : decode cX0_leastWay 9 = .ok (.invokestatic 39, 3) := by decide +kernel
theorem dX0_leastWay_12 : decode cX0_leastWay 12 = .ok (.aload_n 0, 1) := by decide +kernel
theorem dX0_leastWay_13 : decode cX0_leastWay 13 = .ok (.getfield 18, 3) := by decide +kernel
theorem dX0_leastWay_16 : decode cX0_leastWay 16 = .ok (.getfield 90, 3) := by decide +kernel
theorem dX0_leastWay_19 : decode cX0_leastWay 19 = .ok (.iload_n 1, 1) := by decide +kernel
theorem dX0_leastWay_20 : decode cX0_leastWay 20 = .ok (.invokestatic 39, 3) := by decide +kernel
theorem dX0_leastWay_23 : decode cX0_leastWay 23 = .ok (.aload_n 0, 1) := by decide +kernel
theorem dX0_leastWay_24 : decode cX0_leastWay 24 = .ok (.getfield 18, 3) := by decide +kernel
theorem dX0_leastWay_27 : decode cX0_leastWay 27 = .ok (.getfield 83, 3) := by decide +kernel
theorem dX0_leastWay_30 : decode cX0_leastWay 30 = .ok (.iload_n 1, 1) := by decide +kernel
theorem dX0_leastWay_31 : decode cX0_leastWay 31 = .ok (.invokestatic 39, 3) := by decide +kernel
theorem dX0_leastWay_34 : decode cX0_leastWay 34 = .ok (.invokevirtual 93, 3) := by decide +kernel
theorem dX0_leastWay_37 : decode cX0_leastWay 37 = .ok (.ireturn, 1) := by decide +kernel
abbrev YX0_leastWay : li_Y := (yX0_leastWay, cX0_leastWay, 2, (some .int))
theorem dX0_fill_0 : decode cX0_fill 0 = .ok (.iconst 0, 1) := by decide +kernel
theorem dX0_fill_1 : decode cX0_fill 1 = .ok (.istore_n 1, 1) := by decide +kernel
theorem dX0_fill_2 : decode cX0_fill 2 = .ok (.iload_n 1, 1) := by decide +kernel
theorem dX0_fill_3 : decode cX0_fill 3 = .ok (.aload_n 0, 1) := by decide +kernel
theorem dX0_fill_4 : decode cX0_fill 4 = .ok (.getfield 18, 3) := by decide +kernel
theorem dX0_fill_7 : decode cX0_fill 7 = .ok (.getfield 97, 3) := by decide +kernel
theorem dX0_fill_10 : decode cX0_fill 10 = .ok (.if_icmp .ge 86, 3) := by decide +kernel
theorem dX0_fill_13 : decode cX0_fill 13 = .ok (.sipush 999, 3) := by decide +kernel
theorem dX0_fill_16 : decode cX0_fill 16 = .ok (.istore_n 2, 1) := by decide +kernel
theorem dX0_fill_17 : decode cX0_fill 17 = .ok (.iconst 0, 1) := by decide +kernel
theorem dX0_fill_18 : decode cX0_fill 18 = .ok (.istore_n 3, 1) := by decide +kernel
theorem dX0_fill_19 : decode cX0_fill 19 = .ok (.iload_n 3, 1) := by decide +kernel
theorem dX0_fill_20 : decode cX0_fill 20 = .ok (.iconst 4, 1) := by decide +kernel
theorem dX0_fill_21 : decode cX0_fill 21 = .ok (.if_icmp .ge 60, 3) := by decide +kernel
theorem dX0_fill_24 : decode cX0_fill 24 = .ok (.aload_n 0, 1) := by decide +kernel
theorem dX0_fill_25 : decode cX0_fill 25 = .ok (.iload_n 1, 1) := by decide +kernel
theorem dX0_fill_26 : decode cX0_fill 26 = .ok (.iload_n 3, 1) := by decide +kernel
theorem dX0_fill_27 : decode cX0_fill 27 = .ok (.invokevirtual 100, 3) := by decide +kernel
theorem dX0_fill_30 : decode cX0_fill 30 = .ok (.ifCond .eq 12, 3) := by decide +kernel
theorem dX0_fill_33 : decode cX0_fill 33 = .ok (.aload_n 0, 1) := by decide +kernel
theorem dX0_fill_34 : decode cX0_fill 34 = .ok (.iload_n 1, 1) := by decide +kernel
theorem dX0_fill_35 : decode cX0_fill 35 = .ok (.iload_n 3, 1) := by decide +kernel
theorem dX0_fill_36 : decode cX0_fill 36 = .ok (.invokevirtual 104, 3) := by decide +kernel
theorem dX0_fill_39 : decode cX0_fill 39 = .ok (.goto 4, 3) := by decide +kernel
theorem dX0_fill_42 : decode cX0_fill 42 = .ok (.iconst (-1), 1) := by decide +kernel
theorem dX0_fill_43 : decode cX0_fill 43 = .ok (.istore 4, 2) := by decide +kernel
theorem dX0_fill_45 : decode cX0_fill 45 = .ok (.aload_n 0, 1) := by decide +kernel
theorem dX0_fill_46 : decode cX0_fill 46 = .ok (.getfield 9, 3) := by decide +kernel
theorem dX0_fill_49 : decode cX0_fill 49 = .ok (.iload_n 1, 1) := by decide +kernel
theorem dX0_fill_50 : decode cX0_fill 50 = .ok (.iconst 4, 1) := by decide +kernel
theorem dX0_fill_51 : decode cX0_fill 51 = .ok (.imul, 1) := by decide +kernel
theorem dX0_fill_52 : decode cX0_fill 52 = .ok (.iload_n 3, 1) := by decide +kernel
theorem dX0_fill_53 : decode cX0_fill 53 = .ok (.iadd, 1) := by decide +kernel
theorem dX0_fill_54 : decode cX0_fill 54 = .ok (.iload 4, 2) := by decide +kernel
theorem dX0_fill_56 : decode cX0_fill 56 = .ok (.invokestatic 56, 3) := by decide +kernel
theorem dX0_fill_59 : decode cX0_fill 59 = .ok (.iload 4, 2) := by decide +kernel
theorem dX0_fill_61 : decode cX0_fill 61 = .ok (.ifCond .lt 12, 3) := by decide +kernel
theorem dX0_fill_64 : decode cX0_fill 64 = .ok (.iload_n 2, 1) := by decide +kernel
theorem dX0_fill_65 : decode cX0_fill 65 = .ok (.iload 4, 2) := by decide +kernel
theorem dX0_fill_67 : decode cX0_fill 67 = .ok (.invokestatic 107, 3) := by decide +kernel
theorem dX0_fill_70 : decode cX0_fill 70 = .ok (.goto 4, 3) := by decide +kernel
theorem dX0_fill_73 : decode cX0_fill 73 = .ok (.iload_n 2, 1) := by decide +kernel
theorem dX0_fill_74 : decode cX0_fill 74 = .ok (.istore_n 2, 1) := by decide +kernel
theorem dX0_fill_75 : decode cX0_fill 75 = .ok (.iinc 3 1, 3) := by decide +kernel
theorem dX0_fill_78 : decode cX0_fill 78 = .ok (.goto (-59), 3) := by decide +kernel
theorem dX0_fill_81 : decode cX0_fill 81 = .ok (.aload_n 0, 1) := by decide +kernel
theorem dX0_fill_82 : decode cX0_fill 82 = .ok (.getfield 15, 3) := by decide +kernel
theorem dX0_fill_85 : decode cX0_fill 85 = .ok (.iload_n 1, 1) := by decide +kernel
theorem dX0_fill_86 : decode cX0_fill 86 = .ok (.iload_n 2, 1) := by decide +kernel
theorem dX0_fill_87 : decode cX0_fill 87 = .ok (.invokestatic 56, 3) := by decide +kernel
theorem dX0_fill_90 : decode cX0_fill 90 = .ok (.iinc 1 1, 3) := by decide +kernel
theorem dX0_fill_93 : decode cX0_fill 93 = .ok (.goto (-91), 3) := by decide +kernel
theorem dX0_fill_96 : decode cX0_fill 96 = .ok (.return_, 1) := by decide +kernel
abbrev YX0_fill : li_Y := (yX0_fill, cX0_fill, 5, none)
theorem dX0_leastOfAll_0 : decode cX0_leastOfAll 0 = .ok (.iconst 0, 1) := by decide +kernel
theorem dX0_leastOfAll_1 : decode cX0_leastOfAll 1 = .ok (.istore_n 2, 1) := by decide +kernel
theorem dX0_leastOfAll_2 : decode cX0_leastOfAll 2 = .ok (.iconst 0, 1) := by decide +kernel
theorem dX0_leastOfAll_3 : decode cX0_leastOfAll 3 = .ok (.istore_n 3, 1) := by decide +kernel
theorem dX0_leastOfAll_4 : decode cX0_leastOfAll 4 = .ok (.iload_n 3, 1) := by decide +kernel
theorem dX0_leastOfAll_5 : decode cX0_leastOfAll 5 = .ok (.aload_n 0, 1) := by decide +kernel
theorem dX0_leastOfAll_6 : decode cX0_leastOfAll 6 = .ok (.getfield 18, 3) := by decide +kernel
theorem dX0_leastOfAll_9 : decode cX0_leastOfAll 9 = .ok (.getfield 97, 3) := by decide +kernel
theorem dX0_leastOfAll_12 : decode cX0_leastOfAll 12 = .ok (.if_icmp .ge 28, 3) := by decide +kernel
theorem dX0_leastOfAll_15 : decode cX0_leastOfAll 15 = .ok (.iload_n 1, 1) := by decide +kernel
theorem dX0_leastOfAll_16 : decode cX0_leastOfAll 16 = .ok (.iload_n 3, 1) := by decide +kernel
theorem dX0_leastOfAll_17 : decode cX0_leastOfAll 17 = .ok (.invokestatic 112, 3) := by decide +kernel
theorem dX0_leastOfAll_20 : decode cX0_leastOfAll 20 = .ok (.ifCond .eq 14, 3) := by decide +kernel
theorem dX0_leastOfAll_23 : decode cX0_leastOfAll 23 = .ok (.iload_n 2, 1) := by decide +kernel
theorem dX0_leastOfAll_24 : decode cX0_leastOfAll 24 = .ok (.aload_n 0, 1) := by decide +kernel
theorem dX0_leastOfAll_25 : decode cX0_leastOfAll 25 = .ok (.getfield 15, 3) := by decide +kernel
theorem dX0_leastOfAll_28 : decode cX0_leastOfAll 28 = .ok (.iload_n 3, 1) := by decide +kernel
theorem dX0_leastOfAll_29 : decode cX0_leastOfAll 29 = .ok (.invokestatic 39, 3) := by decide +kernel
theorem dX0_leastOfAll_32 : decode cX0_leastOfAll 32 = .ok (.iadd, 1) := by decide +kernel
theorem dX0_leastOfAll_33 : decode cX0_leastOfAll 33 = .ok (.istore_n 2, 1) := by decide +kernel
theorem dX0_leastOfAll_34 : decode cX0_leastOfAll 34 = .ok (.iinc 3 1, 3) := by decide +kernel
theorem dX0_leastOfAll_37 : decode cX0_leastOfAll 37 = .ok (.goto (-33), 3) := by decide +kernel
theorem dX0_leastOfAll_40 : decode cX0_leastOfAll 40 = .ok (.iload_n 2, 1) := by decide +kernel
theorem dX0_leastOfAll_41 : decode cX0_leastOfAll 41 = .ok (.ireturn, 1) := by decide +kernel
abbrev YX0_leastOfAll : li_Y := (yX0_leastOfAll, cX0_leastOfAll, 4, (some .int))
theorem dX0_openThings_0 : decode cX0_openThings 0 = .ok (.iconst 0, 1) := by decide +kernel
theorem dX0_openThings_1 : decode cX0_openThings 1 = .ok (.istore_n 1, 1) := by decide +kernel
theorem dX0_openThings_2 : decode cX0_openThings 2 = .ok (.iconst 0, 1) := by decide +kernel
theorem dX0_openThings_3 : decode cX0_openThings 3 = .ok (.istore_n 2, 1) := by decide +kernel
theorem dX0_openThings_4 : decode cX0_openThings 4 = .ok (.iload_n 2, 1) := by decide +kernel
theorem dX0_openThings_5 : decode cX0_openThings 5 = .ok (.aload_n 0, 1) := by decide +kernel
theorem dX0_openThings_6 : decode cX0_openThings 6 = .ok (.getfield 18, 3) := by decide +kernel
theorem dX0_openThings_9 : decode cX0_openThings 9 = .ok (.getfield 97, 3) := by decide +kernel
theorem dX0_openThings_12 : decode cX0_openThings 12 = .ok (.if_icmp .ge 44, 3) := by decide +kernel
theorem dX0_openThings_15 : decode cX0_openThings 15 = .ok (.aload_n 0, 1) := by decide +kernel
theorem dX0_openThings_16 : decode cX0_openThings 16 = .ok (.getfield 22, 3) := by decide +kernel
theorem dX0_openThings_19 : decode cX0_openThings 19 = .ok (.getfield 115, 3) := by decide +kernel
theorem dX0_openThings_22 : decode cX0_openThings 22 = .ok (.iload_n 2, 1) := by decide +kernel
theorem dX0_openThings_23 : decode cX0_openThings 23 = .ok (.invokestatic 112, 3) := by decide +kernel
theorem dX0_openThings_26 : decode cX0_openThings 26 = .ok (.ifCond .ne 24, 3) := by decide +kernel
theorem dX0_openThings_29 : decode cX0_openThings 29 = .ok (.aload_n 0, 1) := by decide +kernel
theorem dX0_openThings_30 : decode cX0_openThings 30 = .ok (.getfield 22, 3) := by decide +kernel
theorem dX0_openThings_33 : decode cX0_openThings 33 = .ok (.aload_n 0, 1) := by decide +kernel
theorem dX0_openThings_34 : decode cX0_openThings 34 = .ok (.getfield 18, 3) := by decide +kernel
theorem dX0_openThings_37 : decode cX0_openThings 37 = .ok (.iload_n 2, 1) := by decide +kernel
theorem dX0_openThings_38 : decode cX0_openThings 38 = .ok (.invokevirtual 118, 3) := by decide +kernel
theorem dX0_openThings_41 : decode cX0_openThings 41 = .ok (.ifCond .ne 9, 3) := by decide +kernel
theorem dX0_openThings_44 : decode cX0_openThings 44 = .ok (.iload_n 1, 1) := by decide +kernel
theorem dX0_openThings_45 : decode cX0_openThings 45 = .ok (.iconst 1, 1) := by decide +kernel
theorem dX0_openThings_46 : decode cX0_openThings 46 = .ok (.iload_n 2, 1) := by decide +kernel
theorem dX0_openThings_47 : decode cX0_openThings 47 = .ok (.ishl, 1) := by decide +kernel
theorem dX0_openThings_48 : decode cX0_openThings 48 = .ok (.ior, 1) := by decide +kernel
theorem dX0_openThings_49 : decode cX0_openThings 49 = .ok (.istore_n 1, 1) := by decide +kernel
theorem dX0_openThings_50 : decode cX0_openThings 50 = .ok (.iinc 2 1, 3) := by decide +kernel
theorem dX0_openThings_53 : decode cX0_openThings 53 = .ok (.goto (-49), 3) := by decide +kernel
theorem dX0_openThings_56 : decode cX0_openThings 56 = .ok (.iload_n 1, 1) := by decide +kernel
theorem dX0_openThings_57 : decode cX0_openThings 57 = .ok (.ireturn, 1) := by decide +kernel
abbrev YX0_openThings : li_Y := (yX0_openThings, cX0_openThings, 3, (some .int))
theorem dX0_openThingsOf_0 : decode cX0_openThingsOf 0 = .ok (.aload_n 0, 1) := by decide +kernel
theorem dX0_openThingsOf_1 : decode cX0_openThingsOf 1 = .ok (.invokevirtual 122, 3) := by decide +kernel
theorem dX0_openThingsOf_4 : decode cX0_openThingsOf 4 = .ok (.aload_n 0, 1) := by decide +kernel
theorem dX0_openThingsOf_5 : decode cX0_openThingsOf 5 = .ok (.getfield 18, 3) := by decide +kernel
theorem dX0_openThingsOf_8 : decode cX0_openThingsOf 8 = .ok (.iload_n 1, 1) := by decide +kernel
theorem dX0_openThingsOf_9 : decode cX0_openThingsOf 9 = .ok (.invokevirtual 125, 3) := by decide +kernel
theorem dX0_openThingsOf_12 : decode cX0_openThingsOf 12 = .ok (.iand, 1) := by decide +kernel
theorem dX0_openThingsOf_13 : decode cX0_openThingsOf 13 = .ok (.ireturn, 1) := by decide +kernel
abbrev YX0_openThingsOf : li_Y := (yX0_openThingsOf, cX0_openThingsOf, 2, (some .int))
theorem dX0_weigh_0 : decode cX0_weigh 0 = .ok (.iconst 0, 1) := by decide +kernel
theorem dX0_weigh_1 : decode cX0_weigh 1 = .ok (.istore_n 3, 1) := by decide +kernel
theorem dX0_weigh_2 : decode cX0_weigh 2 = .ok (.iconst 0, 1) := by decide +kernel
theorem dX0_weigh_3 : decode cX0_weigh 3 = .ok (.istore 4, 2) := by decide +kernel
theorem dX0_weigh_5 : decode cX0_weigh 5 = .ok (.iconst 0, 1) := by decide +kernel
theorem dX0_weigh_6 : decode cX0_weigh 6 = .ok (.istore 5, 2) := by decide +kernel
theorem dX0_weigh_8 : decode cX0_weigh 8 = .ok (.iload 5, 2) := by decide +kernel
theorem dX0_weigh_10 : decode cX0_weigh 10 = .ok (.aload_n 0, 1) := by decide +kernel
theorem dX0_weigh_11 : decode cX0_weigh 11 = .ok (.getfield 18, 3) := by decide +kernel
theorem dX0_weigh_14 : decode cX0_weigh 14 = .ok (.getfield 97, 3) := by decide +kernel
theorem dX0_weigh_17 : decode cX0_weigh 17 = .ok (.if_icmp .ge 47, 3) := by decide +kernel
theorem dX0_weigh_20 : decode cX0_weigh 20 = .ok (.iload_n 1, 1) := by decide +kernel
theorem dX0_weigh_21 : decode cX0_weigh 21 = .ok (.iload 5, 2) := by decide +kernel
theorem dX0_weigh_23 : decode cX0_weigh 23 = .ok (.invokestatic 112, 3) := by decide +kernel
theorem dX0_weigh_26 : decode cX0_weigh 26 = .ok (.ifCond .eq 32, 3) := by decide +kernel
theorem dX0_weigh_29 : decode cX0_weigh 29 = .ok (.iload_n 3, 1) := by decide +kernel
theorem dX0_weigh_30 : decode cX0_weigh 30 = .ok (.aload_n 0, 1) := by decide +kernel
theorem dX0_weigh_31 : decode cX0_weigh 31 = .ok (.getfield 15, 3) := by decide +kernel
theorem dX0_weigh_34 : decode cX0_weigh 34 = .ok (.iload 5, 2) := by decide +kernel
theorem dX0_weigh_36 : decode cX0_weigh 36 = .ok (.invokestatic 39, 3) := by decide +kernel
theorem dX0_weigh_39 : decode cX0_weigh 39 = .ok (.iadd, 1) := by decide +kernel
theorem dX0_weigh_40 : decode cX0_weigh 40 = .ok (.istore_n 3, 1) := by decide +kernel
theorem dX0_weigh_41 : decode cX0_weigh 41 = .ok (.iload 4, 2) := by decide +kernel
theorem dX0_weigh_43 : decode cX0_weigh 43 = .ok (.aload_n 0, 1) := by decide +kernel
theorem dX0_weigh_44 : decode cX0_weigh 44 = .ok (.getfield 18, 3) := by decide +kernel
theorem dX0_weigh_47 : decode cX0_weigh 47 = .ok (.getfield 147, 3) := by decide +kernel
theorem dX0_weigh_50 : decode cX0_weigh 50 = .ok (.iload 5, 2) := by decide +kernel
theorem dX0_weigh_52 : decode cX0_weigh 52 = .ok (.invokestatic 39, 3) := by decide +kernel
theorem dX0_weigh_55 : decode cX0_weigh 55 = .ok (.iadd, 1) := by decide +kernel
theorem dX0_weigh_56 : decode cX0_weigh 56 = .ok (.istore 4, 2) := by decide +kernel
theorem dX0_weigh_58 : decode cX0_weigh 58 = .ok (.iinc 5 1, 3) := by decide +kernel
theorem dX0_weigh_61 : decode cX0_weigh 61 = .ok (.goto (-53), 3) := by decide +kernel
theorem dX0_weigh_64 : decode cX0_weigh 64 = .ok (.iload 4, 2) := by decide +kernel
theorem dX0_weigh_66 : decode cX0_weigh 66 = .ok (.aload_n 0, 1) := by decide +kernel
theorem dX0_weigh_67 : decode cX0_weigh 67 = .ok (.getfield 141, 3) := by decide +kernel
theorem dX0_weigh_70 : decode cX0_weigh 70 = .ok (.if_icmp .gt 20, 3) := by decide +kernel
theorem dX0_weigh_73 : decode cX0_weigh 73 = .ok (.iload 4, 2) := by decide +kernel
theorem dX0_weigh_75 : decode cX0_weigh 75 = .ok (.aload_n 0, 1) := by decide +kernel
theorem dX0_weigh_76 : decode cX0_weigh 76 = .ok (.getfield 141, 3) := by decide +kernel
theorem dX0_weigh_79 : decode cX0_weigh 79 = .ok (.if_icmp .ne 15, 3) := by decide +kernel
theorem dX0_weigh_82 : decode cX0_weigh 82 = .ok (.iload_n 3, 1) := by decide +kernel
theorem dX0_weigh_83 : decode cX0_weigh 83 = .ok (.aload_n 0, 1) := by decide +kernel
theorem dX0_weigh_84 : decode cX0_weigh 84 = .ok (.getfield 138, 3) := by decide +kernel
theorem dX0_weigh_87 : decode cX0_weigh 87 = .ok (.if_icmp .ge 7, 3) := by decide +kernel
theorem dX0_weigh_90 : decode cX0_weigh 90 = .ok (.iconst 1, 1) := by decide +kernel
theorem dX0_weigh_91 : decode cX0_weigh 91 = .ok (.goto 4, 3) := by decide +kernel
theorem dX0_weigh_94 : decode cX0_weigh 94 = .ok (.iconst 0, 1) := by decide +kernel
theorem dX0_weigh_95 : decode cX0_weigh 95 = .ok (.istore 5, 2) := by decide +kernel
theorem dX0_weigh_97 : decode cX0_weigh 97 = .ok (.iload_n 3, 1) := by decide +kernel
theorem dX0_weigh_98 : decode cX0_weigh 98 = .ok (.iload_n 2, 1) := by decide +kernel
theorem dX0_weigh_99 : decode cX0_weigh 99 = .ok (.if_icmp .gt 24, 3) := by decide +kernel
theorem dX0_weigh_102 : decode cX0_weigh 102 = .ok (.iload 5, 2) := by decide +kernel
theorem dX0_weigh_104 : decode cX0_weigh 104 = .ok (.ifCond .eq 19, 3) := by decide +kernel
theorem dX0_weigh_107 : decode cX0_weigh 107 = .ok (.aload_n 0, 1) := by decide +kernel
theorem dX0_weigh_108 : decode cX0_weigh 108 = .ok (.iload_n 1, 1) := by decide +kernel
theorem dX0_weigh_109 : decode cX0_weigh 109 = .ok (.putfield 135, 3) := by decide +kernel
theorem dX0_weigh_112 : decode cX0_weigh 112 = .ok (.aload_n 0, 1) := by decide +kernel
theorem dX0_weigh_113 : decode cX0_weigh 113 = .ok (.iload_n 3, 1) := by decide +kernel
theorem dX0_weigh_114 : decode cX0_weigh 114 = .ok (.putfield 138, 3) := by decide +kernel
theorem dX0_weigh_117 : decode cX0_weigh 117 = .ok (.aload_n 0, 1) := by decide +kernel
theorem dX0_weigh_118 : decode cX0_weigh 118 = .ok (.iload 4, 2) := by decide +kernel
theorem dX0_weigh_120 : decode cX0_weigh 120 = .ok (.putfield 141, 3) := by decide +kernel
theorem dX0_weigh_123 : decode cX0_weigh 123 = .ok (.return_, 1) := by decide +kernel
abbrev YX0_weigh : li_Y := (yX0_weigh, cX0_weigh, 6, none)
theorem dX0_choose_0 : decode cX0_choose 0 = .ok (.aload_n 0, 1) := by decide +kernel
theorem dX0_choose_1 : decode cX0_choose 1 = .ok (.iconst 0, 1) := by decide +kernel
theorem dX0_choose_2 : decode cX0_choose 2 = .ok (.putfield 135, 3) := by decide +kernel
theorem dX0_choose_5 : decode cX0_choose 5 = .ok (.aload_n 0, 1) := by decide +kernel
theorem dX0_choose_6 : decode cX0_choose 6 = .ok (.iconst 0, 1) := by decide +kernel
theorem dX0_choose_7 : decode cX0_choose 7 = .ok (.putfield 138, 3) := by decide +kernel
theorem dX0_choose_10 : decode cX0_choose 10 = .ok (.aload_n 0, 1) := by decide +kernel
theorem dX0_choose_11 : decode cX0_choose 11 = .ok (.iconst 0, 1) := by decide +kernel
theorem dX0_choose_12 : decode cX0_choose 12 = .ok (.putfield 141, 3) := by decide +kernel
theorem dX0_choose_15 : decode cX0_choose 15 = .ok (.iconst 1, 1) := by decide +kernel
theorem dX0_choose_16 : decode cX0_choose 16 = .ok (.istore_n 3, 1) := by decide +kernel
theorem dX0_choose_17 : decode cX0_choose 17 = .ok (.iload_n 3, 1) := by decide +kernel
theorem dX0_choose_18 : decode cX0_choose 18 = .ok (.sipush 256, 3) := by decide +kernel
theorem dX0_choose_21 : decode cX0_choose 21 = .ok (.if_icmp .ge 23, 3) := by decide +kernel
theorem dX0_choose_24 : decode cX0_choose 24 = .ok (.iload_n 3, 1) := by decide +kernel
theorem dX0_choose_25 : decode cX0_choose 25 = .ok (.iload_n 1, 1) := by decide +kernel
theorem dX0_choose_26 : decode cX0_choose 26 = .ok (.iconst (-1), 1) := by decide +kernel
theorem dX0_choose_27 : decode cX0_choose 27 = .ok (.ixor, 1) := by decide +kernel
theorem dX0_choose_28 : decode cX0_choose 28 = .ok (.iand, 1) := by decide +kernel
theorem dX0_choose_29 : decode cX0_choose 29 = .ok (.ifCond .ne 9, 3) := by decide +kernel
theorem dX0_choose_32 : decode cX0_choose 32 = .ok (.aload_n 0, 1) := by decide +kernel
theorem dX0_choose_33 : decode cX0_choose 33 = .ok (.iload_n 3, 1) := by decide +kernel
theorem dX0_choose_34 : decode cX0_choose 34 = .ok (.iload_n 2, 1) := by decide +kernel
theorem dX0_choose_35 : decode cX0_choose 35 = .ok (.invokevirtual 144, 3) := by decide +kernel
theorem dX0_choose_38 : decode cX0_choose 38 = .ok (.iinc 3 1, 3) := by decide +kernel
theorem dX0_choose_41 : decode cX0_choose 41 = .ok (.goto (-24), 3) := by decide +kernel
theorem dX0_choose_44 : decode cX0_choose 44 = .ok (.return_, 1) := by decide +kernel
abbrev YX0_choose : li_Y := (yX0_choose, cX0_choose, 4, none)
theorem dX0_chooseFor_0 : decode cX0_chooseFor 0 = .ok (.aload_n 0, 1) := by decide +kernel
theorem dX0_chooseFor_1 : decode cX0_chooseFor 1 = .ok (.aload_n 0, 1) := by decide +kernel
theorem dX0_chooseFor_2 : decode cX0_chooseFor 2 = .ok (.iload_n 1, 1) := by decide +kernel
theorem dX0_chooseFor_3 : decode cX0_chooseFor 3 = .ok (.invokevirtual 128, 3) := by decide +kernel
theorem dX0_chooseFor_6 : decode cX0_chooseFor 6 = .ok (.aload_n 0, 1) := by decide +kernel
theorem dX0_chooseFor_7 : decode cX0_chooseFor 7 = .ok (.getfield 22, 3) := by decide +kernel
theorem dX0_chooseFor_10 : decode cX0_chooseFor 10 = .ok (.getfield 60, 3) := by decide +kernel
theorem dX0_chooseFor_13 : decode cX0_chooseFor 13 = .ok (.iload_n 1, 1) := by decide +kernel
theorem dX0_chooseFor_14 : decode cX0_chooseFor 14 = .ok (.invokestatic 39, 3) := by decide +kernel
theorem dX0_chooseFor_17 : decode cX0_chooseFor 17 = .ok (.invokevirtual 131, 3) := by decide +kernel
theorem dX0_chooseFor_20 : decode cX0_chooseFor 20 = .ok (.return_, 1) := by decide +kernel
abbrev YX0_chooseFor : li_Y := (yX0_chooseFor, cX0_chooseFor, 2, none)
theorem dX0_firstUnpayable_0 : decode cX0_firstUnpayable 0 = .ok (.aload_n 0, 1) := by decide +kernel
theorem dX0_firstUnpayable_1 : decode cX0_firstUnpayable 1 = .ok (.invokevirtual 122, 3) := by decide +kernel
theorem dX0_firstUnpayable_4 : decode cX0_firstUnpayable 4 = .ok (.istore_n 1, 1) := by decide +kernel
theorem dX0_firstUnpayable_5 : decode cX0_firstUnpayable 5 = .ok (.iconst (-1), 1) := by decide +kernel
theorem dX0_firstUnpayable_6 : decode cX0_firstUnpayable 6 = .ok (.istore_n 2, 1) := by decide +kernel
theorem dX0_firstUnpayable_7 : decode cX0_firstUnpayable 7 = .ok (.iconst 0, 1) := by decide +kernel
theorem dX0_firstUnpayable_8 : decode cX0_firstUnpayable 8 = .ok (.istore_n 3, 1) := by decide +kernel
theorem dX0_firstUnpayable_9 : decode cX0_firstUnpayable 9 = .ok (.iload_n 3, 1) := by decide +kernel
theorem dX0_firstUnpayable_10 : decode cX0_firstUnpayable 10 = .ok (.aload_n 0, 1) := by decide +kernel
theorem dX0_firstUnpayable_11 : decode cX0_firstUnpayable 11 = .ok (.getfield 18, 3) := by decide +kernel
theorem dX0_firstUnpayable_14 : decode cX0_firstUnpayable 14 = .ok (.getfield 97, 3) := by decide +kernel
theorem dX0_firstUnpayable_17 : decode cX0_firstUnpayable 17 = .ok (.if_icmp .ge 92, 3) := by decide +kernel
theorem dX0_firstUnpayable_20 : decode cX0_firstUnpayable 20 = .ok (.iload_n 2, 1) := by decide +kernel
theorem dX0_firstUnpayable_21 : decode cX0_firstUnpayable 21 = .ok (.ifCond .lt 28, 3) := by decide +kernel
theorem dX0_firstUnpayable_24 : decode cX0_firstUnpayable 24 = .ok (.aload_n 0, 1) := by decide +kernel
theorem dX0_firstUnpayable_25 : decode cX0_firstUnpayable 25 = .ok (.getfield 18, 3) := by decide +kernel
theorem dX0_firstUnpayable_28 : decode cX0_firstUnpayable 28 = .ok (.getfield 150, 3) := by decide +kernel
theorem dX0_firstUnpayable_31 : decode cX0_firstUnpayable 31 = .ok (.iload_n 3, 1) := by decide +kernel
theorem dX0_firstUnpayable_32 : decode cX0_firstUnpayable 32 = .ok (.invokestatic 39, 3) := by decide +kernel
theorem dX0_firstUnpayable_35 : decode cX0_firstUnpayable 35 = .ok (.aload_n 0, 1) := by decide +kernel
theorem dX0_firstUnpayable_36 : decode cX0_firstUnpayable 36 = .ok (.getfield 18, 3) := by decide +kernel
theorem dX0_firstUnpayable_39 : decode cX0_firstUnpayable 39 = .ok (.getfield 150, 3) := by decide +kernel
theorem dX0_firstUnpayable_42 : decode cX0_firstUnpayable 42 = .ok (.iload_n 2, 1) := by decide +kernel
theorem dX0_firstUnpayable_43 : decode cX0_firstUnpayable 43 = .ok (.invokestatic 39, 3) := by decide +kernel
theorem dX0_firstUnpayable_46 : decode cX0_firstUnpayable 46 = .ok (.if_icmp .ge 7, 3) := by decide +kernel
theorem dX0_firstUnpayable_49 : decode cX0_firstUnpayable 49 = .ok (.iconst 1, 1) := by decide +kernel
theorem dX0_firstUnpayable_50 : decode cX0_firstUnpayable 50 = .ok (.goto 4, 3) := by decide +kernel
theorem dX0_firstUnpayable_53 : decode cX0_firstUnpayable 53 = .ok (.iconst 0, 1) := by decide +kernel
theorem dX0_firstUnpayable_54 : decode cX0_firstUnpayable 54 = .ok (.istore 4, 2) := by decide +kernel
theorem dX0_firstUnpayable_56 : decode cX0_firstUnpayable 56 = .ok (.iload 4, 2) := by decide +kernel
theorem dX0_firstUnpayable_58 : decode cX0_firstUnpayable 58 = .ok (.ifCond .eq 45, 3) := by decide +kernel
theorem dX0_firstUnpayable_61 : decode cX0_firstUnpayable 61 = .ok (.iload_n 1, 1) := by decide +kernel
theorem dX0_firstUnpayable_62 : decode cX0_firstUnpayable 62 = .ok (.iload_n 3, 1) := by decide +kernel
theorem dX0_firstUnpayable_63 : decode cX0_firstUnpayable 63 = .ok (.invokestatic 112, 3) := by decide +kernel
theorem dX0_firstUnpayable_66 : decode cX0_firstUnpayable 66 = .ok (.ifCond .eq 37, 3) := by decide +kernel
theorem dX0_firstUnpayable_69 : decode cX0_firstUnpayable 69 = .ok (.aload_n 0, 1) := by decide +kernel
theorem dX0_firstUnpayable_70 : decode cX0_firstUnpayable 70 = .ok (.getfield 15, 3) := by decide +kernel
theorem dX0_firstUnpayable_73 : decode cX0_firstUnpayable 73 = .ok (.iload_n 3, 1) := by decide +kernel
theorem dX0_firstUnpayable_74 : decode cX0_firstUnpayable 74 = .ok (.invokestatic 39, 3) := by decide +kernel
theorem dX0_firstUnpayable_77 : decode cX0_firstUnpayable 77 = .ok (.aload_n 0, 1) := by decide +kernel
theorem dX0_firstUnpayable_78 : decode cX0_firstUnpayable 78 = .ok (.getfield 22, 3) := by decide +kernel
theorem dX0_firstUnpayable_81 : decode cX0_firstUnpayable 81 = .ok (.getfield 60, 3) := by decide +kernel
theorem dX0_firstUnpayable_84 : decode cX0_firstUnpayable 84 = .ok (.aload_n 0, 1) := by decide +kernel
theorem dX0_firstUnpayable_85 : decode cX0_firstUnpayable 85 = .ok (.getfield 18, 3) := by decide +kernel
theorem dX0_firstUnpayable_88 : decode cX0_firstUnpayable 88 = .ok (.getfield 80, 3) := by decide +kernel
theorem dX0_firstUnpayable_91 : decode cX0_firstUnpayable 91 = .ok (.iload_n 3, 1) := by decide +kernel
theorem dX0_firstUnpayable_92 : decode cX0_firstUnpayable 92 = .ok (.invokestatic 39, 3) := by decide +kernel
theorem dX0_firstUnpayable_95 : decode cX0_firstUnpayable 95 = .ok (.invokestatic 39, 3) := by decide +kernel
theorem dX0_firstUnpayable_98 : decode cX0_firstUnpayable 98 = .ok (.if_icmp .le 5, 3) := by decide +kernel
theorem dX0_firstUnpayable_101 : decode cX0_firstUnpayable 101 = .ok (.iload_n 3, 1) := by decide +kernel
theorem dX0_firstUnpayable_102 : decode cX0_firstUnpayable 102 = .ok (.istore_n 2, 1) := by decide +kernel
theorem dX0_firstUnpayable_103 : decode cX0_firstUnpayable 103 = .ok (.iinc 3 1, 3) := by decide +kernel
theorem dX0_firstUnpayable_106 : decode cX0_firstUnpayable 106 = .ok (.goto (-97), 3) := by decide +kernel
theorem dX0_firstUnpayable_109 : decode cX0_firstUnpayable 109 = .ok (.iload_n 2, 1) := by decide +kernel
theorem dX0_firstUnpayable_110 : decode cX0_firstUnpayable 110 = .ok (.ireturn, 1) := by decide +kernel
abbrev YX0_firstUnpayable : li_Y := (yX0_firstUnpayable, cX0_firstUnpayable, 5, (some .int))
set_option maxRecDepth 100000 in
set_option maxHeartbeats 4000000 in
theorem k_X0_isHeard {l : Launch} {Z : li_Z} (d : Nat) (hd : 4 ≤ d) {c : Nat} (hc : li_co c) (p1 p2 : Int32) (M0 : li_M) : li_Met l Z YX0_isHeard d [.ref (Z.2.2 c), .int p1, .int p2] M0 (li_SZ (fun i => False) M0) := by
  refine li_enter (by decide +kernel) (Nat.le_of_ble_eq_true rfl) ?_
  show li_T l Z YX0_isHeard d 0 [(0, .ref (Z.2.2 c)), (1, .int p1), (2, .int p2)] [] M0 _
  have hf : li_fr (fun i => False) M0 M0 := li_fr_refl
  refine li_aload_n 0 dX0_isHeard_0 rfl ?_
  refine li_getr (k := 0) (N := 8) (T := TX0) (C0 := RX0) dX0_isHeard_1 (snC0 hc) (shC0 hc) rfl rfl (by decide) (by decide) li_in0 w_368 ?_
  refine li_iload_n 1 dX0_isHeard_4 rfl ?_
  refine li_callV (n := 1) (As := [.int p1]) dX0_isHeard_5 (k_X8_apartFor (d - 1) (by omega) p1 M0) (by omega) (Nat.le_of_ble_eq_true rfl) w_792 w_793 w_794 w_104 w_795 (by decide +kernel) rfl (by decide) sh_5 rfl rfl (Nat.le_of_ble_eq_true rfl) (fun r M2 h3 => ?_)
  obtain ⟨⟨x1, rfl⟩, h3⟩ := h3
  have hf := li_fr_trans hf h3 (fun i h => False.elim h)
  refine li_reach dX0_isHeard_8 w_804 ?_
  refine li_iload_n 2 dX0_isHeard_11 rfl ?_
  refine li_callN (n := 2) (As := [.ref (Z.2.2 2000), .int p2]) dX0_isHeard_12 (k_X11_atR (d - 1) (by omega) p2 M2) (by omega) (Nat.le_of_ble_eq_true rfl) nw_16 w_569 w_101 w_570 (by decide +kernel) rfl rfl (Nat.le_of_ble_eq_true rfl) (fun r M5 h6 => ?_)
  obtain ⟨⟨x4, rfl⟩, h6⟩ := h6
  have hf := li_fr_trans hf h6 (fun i h => False.elim h)
  refine li_icmp_gt 22 dX0_isHeard_15 (by decide) (fun c7 => ?_) (fun c7 => ?_)
  · refine li_iconst 0 dX0_isHeard_22 (by decide) ?_
    exact li_iret dX0_isHeard_23 rfl (li_nz (Or.inl rfl)) ⟨⟨_, rfl, Or.inl rfl⟩, hf⟩
  · refine li_iconst 1 dX0_isHeard_18 (by decide) ?_
    refine li_goto 23 dX0_isHeard_19 (by decide) ?_
    exact li_iret dX0_isHeard_23 rfl (li_nz (Or.inr rfl)) ⟨⟨_, rfl, Or.inr rfl⟩, hf⟩
set_option maxRecDepth 100000 in
set_option maxHeartbeats 4000000 in
theorem k_X0_hearers {l : Launch} {Z : li_Z} (d : Nat) (hd : 3 ≤ d) {c : Nat} (hc : li_co c) (p1 p2 : Int32) (M0 : li_M) : li_Met l Z YX0_hearers d [.ref (Z.2.2 c), .int p1, .int p2] M0 (li_SI (fun i => False) M0) := by
  refine li_enter (by decide +kernel) (Nat.le_of_ble_eq_true rfl) ?_
  show li_T l Z YX0_hearers d 0 [(0, .ref (Z.2.2 c)), (1, .int p1), (2, .int p2)] [] M0 _
  have hf : li_fr (fun i => False) M0 M0 := li_fr_refl
  refine li_reach dX0_hearers_0 w_804 ?_
  refine li_iload_n 2 dX0_hearers_3 rfl ?_
  refine li_callN (n := 2) (As := [.ref (Z.2.2 2000), .int p2]) dX0_hearers_4 (k_X11_atR (d - 1) (by omega) p2 M0) (by omega) (Nat.le_of_ble_eq_true rfl) nw_16 w_569 w_101 w_570 (by decide +kernel) rfl rfl (Nat.le_of_ble_eq_true rfl) (fun r M2 h3 => ?_)
  obtain ⟨⟨x1, rfl⟩, h3⟩ := h3
  have hf := li_fr_trans hf h3 (fun i h => False.elim h)
  refine li_istore_n [(3, .int x1), (0, .ref (Z.2.2 c)), (1, .int p1), (2, .int p2)] dX0_hearers_7 (by decide) rfl ?_
  refine li_iconst 0 dX0_hearers_8 (by decide) ?_
  refine li_istore [(4, .int 0), (3, .int x1), (0, .ref (Z.2.2 c)), (1, .int p1), (2, .int p2)] dX0_hearers_9 (by decide) rfl ?_
  refine li_iconst 0 dX0_hearers_11 (by decide) ?_
  refine li_istore [(5, .int 0), (4, .int 0), (3, .int x1), (0, .ref (Z.2.2 c)), (1, .int p1), (2, .int p2)] dX0_hearers_12 (by decide) rfl ?_
  have L14 : ∀ (n : Nat) (x4 : Int32) (x5 : Int32) (M6 : li_M), (2147483647 - (x4 : Int32).toInt).toNat < n → li_fr (fun i => False) M0 M6 → li_T l Z YX0_hearers d 14 [(5, .int x4), (4, .int x5), (3, .int x1), (0, .ref (Z.2.2 c)), (1, .int p1), (2, .int p2)] [] M6 (li_SI (fun i => False) M0) := by
    intro n
    induction n with
    | zero => intro x4 x5 M6 hn; exact absurd hn (Nat.not_lt_zero _)
    | succ n ih14 =>
      intro x4 x5 M6 hn hf
      refine li_iload 0 dX0_hearers_14 rfl ?_
      refine li_aload_n 3 dX0_hearers_16 rfl ?_
      refine li_getr (k := 0) (N := 8) (T := TX0) (C0 := RX0) dX0_hearers_17 (snC0 hc) (shC0 hc) rfl rfl (by decide) (by decide) li_in0 w_368 ?_
      refine li_geti (k := 0) (N := 9) (T := TX8) (C0 := RX8) dX0_hearers_20 (by decide) sh_5 rfl rfl (by decide) li_in8 w_177 ?_
      refine li_top (fun x7 ex7 => ?_)
      refine li_icmp_ge 61 dX0_hearers_23 (by decide) (fun c8 => ?_) (fun c8 => ?_)
      · refine li_iload 1 dX0_hearers_61 rfl ?_
        exact li_iret dX0_hearers_63 rfl rfl ⟨⟨_, rfl⟩, hf⟩
      · refine li_iload 0 dX0_hearers_26 rfl ?_
        refine li_iload_n 4 dX0_hearers_28 rfl ?_
        have J55 : ∀ (x10 : Int32) (M11 : li_M), li_fr (fun i => False) M0 M11 → li_T l Z YX0_hearers d 55 [(5, .int x4), (4, .int x10), (3, .int x1), (0, .ref (Z.2.2 c)), (1, .int p1), (2, .int p2)] [] M11 (li_SI (fun i => False) M0) := by
          intro x10 M11 hf
          obtain ⟨x12, ex12⟩ : ∃ y : Int32, y = x4 + 1 := ⟨_, rfl⟩
          refine li_iinc 0 [(5, .int x12), (4, .int x10), (3, .int x1), (0, .ref (Z.2.2 c)), (1, .int p1), (2, .int p2)] x12 dX0_hearers_55 rfl (by rw [ex12]; rfl) (by decide) rfl ?_
          refine li_goto 14 dX0_hearers_58 (by decide) ?_
          refine li_pick [0, 1, 2, 3, 4, 5] [(5, .int x12), (4, .int x10), (3, .int x1), (0, .ref (Z.2.2 c)), (1, .int p1), (2, .int p2)] rfl ?_
          exact ih14 x12 x10 M11 (by have h9 := li_up (li_gt c8); rw [← ex12] at h9; omega) hf
        refine li_icmp_eq 55 dX0_hearers_29 (by decide) (fun c9 => ?_) (fun c9 => ?_)
        · refine li_pick [0, 1, 2, 3, 4, 5] [(5, .int x4), (4, .int x5), (3, .int x1), (0, .ref (Z.2.2 c)), (1, .int p1), (2, .int p2)] rfl ?_
          exact J55 x5 M6 hf
        · refine li_aload_n 3 dX0_hearers_32 rfl ?_
          refine li_getr (k := 0) (N := 8) (T := TX0) (C0 := RX0) dX0_hearers_33 (snC0 hc) (shC0 hc) rfl rfl (by decide) (by decide) li_in0 w_368 ?_
          refine li_iload_n 4 dX0_hearers_36 rfl ?_
          refine li_iload 0 dX0_hearers_37 rfl ?_
          refine li_callV (n := 2) (As := [.int p1, .int x4]) dX0_hearers_39 (k_X8_apart (d - 1) (by omega) p1 x4 M6) (by omega) (Nat.le_of_ble_eq_true rfl) w_820 w_798 w_799 w_104 w_800 (by decide +kernel) rfl (by decide) sh_5 rfl rfl (Nat.le_of_ble_eq_true rfl) (fun r M14 h15 => ?_)
          obtain ⟨⟨x13, rfl⟩, h15⟩ := h15
          have hf := li_fr_trans hf h15 (fun i h => False.elim h)
          refine li_iload_n 2 dX0_hearers_42 rfl ?_
          refine li_icmp_gt 55 dX0_hearers_43 (by decide) (fun c16 => ?_) (fun c16 => ?_)
          · refine li_pick [0, 1, 2, 3, 4, 5] [(5, .int x4), (4, .int x5), (3, .int x1), (0, .ref (Z.2.2 c)), (1, .int p1), (2, .int p2)] rfl ?_
            exact J55 x5 M14 hf
          · refine li_iload 1 dX0_hearers_46 rfl ?_
            refine li_iconst 1 dX0_hearers_48 (by decide) ?_
            refine li_iload 0 dX0_hearers_49 rfl ?_
            refine li_ishl dX0_hearers_51 ?_
            refine li_top (fun x17 ex17 => ?_)
            refine li_ior dX0_hearers_52 ?_
            refine li_top (fun x18 ex18 => ?_)
            refine li_istore [(4, .int x18), (5, .int x4), (3, .int x1), (0, .ref (Z.2.2 c)), (1, .int p1), (2, .int p2)] dX0_hearers_53 (by decide) rfl ?_
            refine li_pick [1, 0, 2, 3, 4, 5] [(5, .int x4), (4, .int x18), (3, .int x1), (0, .ref (Z.2.2 c)), (1, .int p1), (2, .int p2)] rfl ?_
            exact J55 x18 M14 hf
  exact L14 _ 0 0 M2 (Nat.lt_succ_self _) hf
set_option maxRecDepth 100000 in
set_option maxHeartbeats 4000000 in
theorem k_X0_ofWord {l : Launch} {Z : li_Z} (d : Nat) (hd : 4 ≤ d) {c : Nat} (hc : li_co c) (p1 p2 p3 p4 : Int32) (M0 : li_M) : li_Met l Z YX0_ofWord d [.ref (Z.2.2 c), .int p1, .int p2, .int p3, .int p4] M0 (li_SI (fun i => i = (c - 4) + 2 ∨ i = (c - 4) + 3) M0) := by
  refine li_enter (by decide +kernel) (Nat.le_of_ble_eq_true rfl) ?_
  show li_T l Z YX0_ofWord d 0 [(0, .ref (Z.2.2 c)), (1, .int p1), (2, .int p2), (3, .int p3), (4, .int p4)] [] M0 _
  have hf : li_fr (fun i => i = (c - 4) + 2 ∨ i = (c - 4) + 3) M0 M0 := li_fr_refl
  refine li_aload_n 0 dX0_ofWord_0 rfl ?_
  refine li_getr (k := 2) (N := 8) (T := TX0) (C0 := RX0) dX0_ofWord_1 (snC0 hc) (shC0 hc) rfl rfl (lkR0 (li_co_ru hc)) (by decide) li_in0 w_370 ?_
  refine li_getr (k := 2) (N := 4) (T := TX6) (C0 := RX6) dX0_ofWord_4 (snR0 (li_co_ru hc)) (shR0 (li_co_ru hc)) rfl rfl (lkR3 (li_co_ru hc)) (by decide) li_in6 w_318 ?_
  refine li_iconst 0 dX0_ofWord_7 (by decide) ?_
  refine li_iload_n 2 dX0_ofWord_8 rfl ?_
  refine li_callN (n := 3) (As := [.ref (Z.2.2 ((c - 4) + 3)), .int 0, .int p2]) dX0_ofWord_9 (k_X11_put (d - 1) (by omega) (snR3 (li_co_ru hc)) (shR3 (li_co_ru hc)) (by decide) 0 p2 M0) (by omega) (Nat.le_of_ble_eq_true rfl) nw_17 w_522 w_101 w_523 (by decide +kernel) rfl rfl (Nat.le_of_ble_eq_true rfl) (fun r M2 h3 => ?_)
  obtain ⟨rfl, h3⟩ := h3
  have hf := li_fr_trans hf h3 (fun i (h : i = (c - 4) + 3) => (show i = (c - 4) + 2 ∨ i = (c - 4) + 3 by omega))
  refine li_aload_n 0 dX0_ofWord_12 rfl ?_
  refine li_getr (k := 2) (N := 8) (T := TX0) (C0 := RX0) dX0_ofWord_13 (snC0 hc) (shC0 hc) rfl rfl (lkR0 (li_co_ru hc)) (by decide) li_in0 w_370 ?_
  refine li_getr (k := 2) (N := 4) (T := TX6) (C0 := RX6) dX0_ofWord_16 (snR0 (li_co_ru hc)) (shR0 (li_co_ru hc)) rfl rfl (lkR3 (li_co_ru hc)) (by decide) li_in6 w_318 ?_
  refine li_iconst 1 dX0_ofWord_19 (by decide) ?_
  refine li_iload_n 3 dX0_ofWord_20 rfl ?_
  refine li_callN (n := 3) (As := [.ref (Z.2.2 ((c - 4) + 3)), .int 1, .int p3]) dX0_ofWord_21 (k_X11_put (d - 1) (by omega) (snR3 (li_co_ru hc)) (shR3 (li_co_ru hc)) (by decide) 1 p3 M2) (by omega) (Nat.le_of_ble_eq_true rfl) nw_17 w_522 w_101 w_523 (by decide +kernel) rfl rfl (Nat.le_of_ble_eq_true rfl) (fun r M5 h6 => ?_)
  obtain ⟨rfl, h6⟩ := h6
  have hf := li_fr_trans hf h6 (fun i (h : i = (c - 4) + 3) => (show i = (c - 4) + 2 ∨ i = (c - 4) + 3 by omega))
  refine li_aload_n 0 dX0_ofWord_24 rfl ?_
  refine li_getr (k := 2) (N := 8) (T := TX0) (C0 := RX0) dX0_ofWord_25 (snC0 hc) (shC0 hc) rfl rfl (lkR0 (li_co_ru hc)) (by decide) li_in0 w_370 ?_
  refine li_getr (k := 2) (N := 4) (T := TX6) (C0 := RX6) dX0_ofWord_28 (snR0 (li_co_ru hc)) (shR0 (li_co_ru hc)) rfl rfl (lkR3 (li_co_ru hc)) (by decide) li_in6 w_318 ?_
  refine li_iconst 2 dX0_ofWord_31 (by decide) ?_
  refine li_iload 4 dX0_ofWord_32 rfl ?_
  refine li_callN (n := 3) (As := [.ref (Z.2.2 ((c - 4) + 3)), .int 2, .int p4]) dX0_ofWord_34 (k_X11_put (d - 1) (by omega) (snR3 (li_co_ru hc)) (shR3 (li_co_ru hc)) (by decide) 2 p4 M5) (by omega) (Nat.le_of_ble_eq_true rfl) nw_17 w_522 w_101 w_523 (by decide +kernel) rfl rfl (Nat.le_of_ble_eq_true rfl) (fun r M8 h9 => ?_)
  obtain ⟨rfl, h9⟩ := h9
  have hf := li_fr_trans hf h9 (fun i (h : i = (c - 4) + 3) => (show i = (c - 4) + 2 ∨ i = (c - 4) + 3 by omega))
  refine li_aload_n 0 dX0_ofWord_37 rfl ?_
  refine li_getr (k := 2) (N := 8) (T := TX0) (C0 := RX0) dX0_ofWord_38 (snC0 hc) (shC0 hc) rfl rfl (lkR0 (li_co_ru hc)) (by decide) li_in0 w_370 ?_
  refine li_getr (k := 2) (N := 4) (T := TX6) (C0 := RX6) dX0_ofWord_41 (snR0 (li_co_ru hc)) (shR0 (li_co_ru hc)) rfl rfl (lkR3 (li_co_ru hc)) (by decide) li_in6 w_318 ?_
  refine li_iconst 3 dX0_ofWord_44 (by decide) ?_
  refine li_aload_n 0 dX0_ofWord_45 rfl ?_
  refine li_getr (k := 1) (N := 8) (T := TX0) (C0 := RX0) dX0_ofWord_46 (snC0 hc) (shC0 hc) rfl rfl (by decide) (by decide) li_in0 w_369 ?_
  refine li_getr (k := 4) (N := 11) (T := TX4) (C0 := RX4) dX0_ofWord_49 (by decide) sh_13 rfl rfl (by decide) (by decide) li_in4 w_242 ?_
  refine li_iload_n 1 dX0_ofWord_52 rfl ?_
  refine li_callN (n := 2) (As := [.ref (Z.2.2 14), .int p1]) dX0_ofWord_53 (k_X11_at (d - 1) (by omega) (by decide) sh_14 (by decide) p1 M8) (by omega) (Nat.le_of_ble_eq_true rfl) nw_16 w_569 w_101 w_570 (by decide +kernel) rfl rfl (Nat.le_of_ble_eq_true rfl) (fun r M11 h12 => ?_)
  obtain ⟨⟨x10, rfl⟩, h12⟩ := h12
  have hf := li_fr_trans hf h12 (fun i h => False.elim h)
  refine li_callN (n := 3) (As := [.ref (Z.2.2 ((c - 4) + 3)), .int 3, .int x10]) dX0_ofWord_56 (k_X11_put (d - 1) (by omega) (snR3 (li_co_ru hc)) (shR3 (li_co_ru hc)) (by decide) 3 x10 M11) (by omega) (Nat.le_of_ble_eq_true rfl) nw_17 w_522 w_101 w_523 (by decide +kernel) rfl rfl (Nat.le_of_ble_eq_true rfl) (fun r M14 h15 => ?_)
  obtain ⟨rfl, h15⟩ := h15
  have hf := li_fr_trans hf h15 (fun i (h : i = (c - 4) + 3) => (show i = (c - 4) + 2 ∨ i = (c - 4) + 3 by omega))
  refine li_aload_n 0 dX0_ofWord_59 rfl ?_
  refine li_getr (k := 2) (N := 8) (T := TX0) (C0 := RX0) dX0_ofWord_60 (snC0 hc) (shC0 hc) rfl rfl (lkR0 (li_co_ru hc)) (by decide) li_in0 w_370 ?_
  refine li_getr (k := 2) (N := 4) (T := TX6) (C0 := RX6) dX0_ofWord_63 (snR0 (li_co_ru hc)) (shR0 (li_co_ru hc)) rfl rfl (lkR3 (li_co_ru hc)) (by decide) li_in6 w_318 ?_
  refine li_iconst 4 dX0_ofWord_66 (by decide) ?_
  refine li_aload_n 0 dX0_ofWord_67 rfl ?_
  refine li_getr (k := 1) (N := 8) (T := TX0) (C0 := RX0) dX0_ofWord_68 (snC0 hc) (shC0 hc) rfl rfl (by decide) (by decide) li_in0 w_369 ?_
  refine li_geti (k := 0) (N := 11) (T := TX4) (C0 := RX4) dX0_ofWord_71 (by decide) sh_13 rfl rfl (by decide) li_in4 w_230 ?_
  refine li_top (fun x16 ex16 => ?_)
  refine li_bipush 100 dX0_ofWord_74 (by decide) ?_
  refine li_irem dX0_ofWord_76 (by decide) ?_
  refine li_top (fun x17 ex17 => ?_)
  refine li_callN (n := 3) (As := [.ref (Z.2.2 ((c - 4) + 3)), .int 4, .int x17]) dX0_ofWord_77 (k_X11_put (d - 1) (by omega) (snR3 (li_co_ru hc)) (shR3 (li_co_ru hc)) (by decide) 4 x17 M14) (by omega) (Nat.le_of_ble_eq_true rfl) nw_17 w_522 w_101 w_523 (by decide +kernel) rfl rfl (Nat.le_of_ble_eq_true rfl) (fun r M19 h20 => ?_)
  obtain ⟨rfl, h20⟩ := h20
  have hf := li_fr_trans hf h20 (fun i (h : i = (c - 4) + 3) => (show i = (c - 4) + 2 ∨ i = (c - 4) + 3 by omega))
  refine li_aload_n 0 dX0_ofWord_80 rfl ?_
  refine li_getr (k := 2) (N := 8) (T := TX0) (C0 := RX0) dX0_ofWord_81 (snC0 hc) (shC0 hc) rfl rfl (lkR0 (li_co_ru hc)) (by decide) li_in0 w_370 ?_
  refine li_getr (k := 2) (N := 4) (T := TX6) (C0 := RX6) dX0_ofWord_84 (snR0 (li_co_ru hc)) (shR0 (li_co_ru hc)) rfl rfl (lkR3 (li_co_ru hc)) (by decide) li_in6 w_318 ?_
  refine li_iconst 5 dX0_ofWord_87 (by decide) ?_
  refine li_aload_n 0 dX0_ofWord_88 rfl ?_
  refine li_iload_n 1 dX0_ofWord_89 rfl ?_
  refine li_iload_n 3 dX0_ofWord_90 rfl ?_
  refine li_callV (n := 2) (As := [.int p1, .int p3]) dX0_ofWord_91 (k_X0_hearers (d - 1) (by omega) hc p1 p3 M19) (by omega) (Nat.le_of_ble_eq_true rfl) w_816 w_817 w_818 w_109 w_819 (by decide +kernel) rfl (snC0 hc) (shC0 hc) rfl rfl (Nat.le_of_ble_eq_true rfl) (fun r M22 h23 => ?_)
  obtain ⟨⟨x21, rfl⟩, h23⟩ := h23
  have hf := li_fr_trans hf h23 (fun i h => False.elim h)
  refine li_callS (n := 1) (As := [.int x21]) dX0_ofWord_94 (k_J6_bitCount_0f7a4 (d - 1) (by omega) x21 M22) (by omega) (Nat.le_of_ble_eq_true rfl) w_821 w_822 w_123 w_823 (by decide +kernel) rfl rfl (Nat.le_of_ble_eq_true rfl) (fun r M25 h26 => ?_)
  obtain ⟨⟨x24, rfl⟩, h26⟩ := h26
  have hf := li_fr_trans hf h26 (fun i h => False.elim h)
  refine li_callN (n := 3) (As := [.ref (Z.2.2 ((c - 4) + 3)), .int 5, .int x24]) dX0_ofWord_97 (k_X11_put (d - 1) (by omega) (snR3 (li_co_ru hc)) (shR3 (li_co_ru hc)) (by decide) 5 x24 M25) (by omega) (Nat.le_of_ble_eq_true rfl) nw_17 w_522 w_101 w_523 (by decide +kernel) rfl rfl (Nat.le_of_ble_eq_true rfl) (fun r M28 h29 => ?_)
  obtain ⟨rfl, h29⟩ := h29
  have hf := li_fr_trans hf h29 (fun i (h : i = (c - 4) + 3) => (show i = (c - 4) + 2 ∨ i = (c - 4) + 3 by omega))
  refine li_aload_n 0 dX0_ofWord_100 rfl ?_
  refine li_getr (k := 2) (N := 8) (T := TX0) (C0 := RX0) dX0_ofWord_101 (snC0 hc) (shC0 hc) rfl rfl (lkR0 (li_co_ru hc)) (by decide) li_in0 w_370 ?_
  refine li_callV (n := 0) (As := []) dX0_ofWord_104 (k_X6_evaluate (d - 1) (by omega) (li_co_ru hc) M28) (by omega) (Nat.le_of_ble_eq_true rfl) w_827 w_828 w_829 w_107 w_830 (by decide +kernel) rfl (snR0 (li_co_ru hc)) (shR0 (li_co_ru hc)) rfl rfl (Nat.le_of_ble_eq_true rfl) (fun r M31 h32 => ?_)
  obtain ⟨⟨x30, rfl⟩, h32⟩ := h32
  have hf := li_fr_trans hf h32 (fun i (h : i = (c - 4) + 2) => (show i = (c - 4) + 2 ∨ i = (c - 4) + 3 by omega))
  exact li_iret dX0_ofWord_107 rfl rfl ⟨⟨_, rfl⟩, hf⟩
set_option maxRecDepth 100000 in
set_option maxHeartbeats 4000000 in
theorem k_X0_ofThing {l : Launch} {Z : li_Z} (d : Nat) (hd : 5 ≤ d) {c : Nat} (hc : li_co c) (p1 p2 : Int32) (M0 : li_M) : li_Met l Z YX0_ofThing d [.ref (Z.2.2 c), .int p1, .int p2] M0 (li_SI (fun i => i = (c - 4) + 2 ∨ i = (c - 4) + 3) M0) := by
  refine li_enter (by decide +kernel) (Nat.le_of_ble_eq_true rfl) ?_
  show li_T l Z YX0_ofThing d 0 [(0, .ref (Z.2.2 c)), (1, .int p1), (2, .int p2)] [] M0 _
  have hf : li_fr (fun i => i = (c - 4) + 2 ∨ i = (c - 4) + 3) M0 M0 := li_fr_refl
  refine li_aload_n 0 dX0_ofThing_0 rfl ?_
  refine li_aload_n 0 dX0_ofThing_1 rfl ?_
  refine li_getr (k := 0) (N := 8) (T := TX0) (C0 := RX0) dX0_ofThing_2 (snC0 hc) (shC0 hc) rfl rfl (by decide) (by decide) li_in0 w_368 ?_
  refine li_getr (k := 4) (N := 9) (T := TX8) (C0 := RX8) dX0_ofThing_5 (by decide) sh_5 rfl rfl (by decide) (by decide) li_in8 w_189 ?_
  refine li_iload_n 1 dX0_ofThing_8 rfl ?_
  refine li_callN (n := 2) (As := [.ref (Z.2.2 8), .int p1]) dX0_ofThing_9 (k_X11_at (d - 1) (by omega) (by decide) sh_8 (by decide) p1 M0) (by omega) (Nat.le_of_ble_eq_true rfl) nw_16 w_569 w_101 w_570 (by decide +kernel) rfl rfl (Nat.le_of_ble_eq_true rfl) (fun r M2 h3 => ?_)
  obtain ⟨⟨x1, rfl⟩, h3⟩ := h3
  have hf := li_fr_trans hf h3 (fun i h => False.elim h)
  refine li_aload_n 0 dX0_ofThing_12 rfl ?_
  refine li_getr (k := 0) (N := 8) (T := TX0) (C0 := RX0) dX0_ofThing_13 (snC0 hc) (shC0 hc) rfl rfl (by decide) (by decide) li_in0 w_368 ?_
  refine li_getr (k := 6) (N := 9) (T := TX8) (C0 := RX8) dX0_ofThing_16 (by decide) sh_5 rfl rfl (by decide) (by decide) li_in8 w_195 ?_
  refine li_iload_n 1 dX0_ofThing_19 rfl ?_
  refine li_callN (n := 2) (As := [.ref (Z.2.2 10), .int p1]) dX0_ofThing_20 (k_X11_at (d - 1) (by omega) (by decide) sh_10 (by decide) p1 M2) (by omega) (Nat.le_of_ble_eq_true rfl) nw_16 w_569 w_101 w_570 (by decide +kernel) rfl rfl (Nat.le_of_ble_eq_true rfl) (fun r M5 h6 => ?_)
  obtain ⟨⟨x4, rfl⟩, h6⟩ := h6
  have hf := li_fr_trans hf h6 (fun i h => False.elim h)
  refine li_iload_n 2 dX0_ofThing_23 rfl ?_
  refine li_aload_n 0 dX0_ofThing_24 rfl ?_
  refine li_getr (k := 0) (N := 8) (T := TX0) (C0 := RX0) dX0_ofThing_25 (snC0 hc) (shC0 hc) rfl rfl (by decide) (by decide) li_in0 w_368 ?_
  refine li_iload_n 1 dX0_ofThing_28 rfl ?_
  refine li_callV (n := 1) (As := [.int p1]) dX0_ofThing_29 (k_X8_apartFor (d - 1) (by omega) p1 M5) (by omega) (Nat.le_of_ble_eq_true rfl) w_792 w_793 w_794 w_104 w_795 (by decide +kernel) rfl (by decide) sh_5 rfl rfl (Nat.le_of_ble_eq_true rfl) (fun r M8 h9 => ?_)
  obtain ⟨⟨x7, rfl⟩, h9⟩ := h9
  have hf := li_fr_trans hf h9 (fun i h => False.elim h)
  refine li_callV (n := 4) (As := [.int x1, .int x4, .int p2, .int x7]) dX0_ofThing_32 (k_X0_ofWord (d - 1) (by omega) hc x1 x4 p2 x7 M8) (by omega) (Nat.le_of_ble_eq_true rfl) w_811 w_812 w_813 w_109 w_814 (by decide +kernel) rfl (snC0 hc) (shC0 hc) rfl rfl (Nat.le_of_ble_eq_true rfl) (fun r M11 h12 => ?_)
  obtain ⟨⟨x10, rfl⟩, h12⟩ := h12
  have hf := li_fr_trans hf h12 (fun i (h : i = (c - 4) + 2 ∨ i = (c - 4) + 3) => (show i = (c - 4) + 2 ∨ i = (c - 4) + 3 by omega))
  exact li_iret dX0_ofThing_35 rfl rfl ⟨⟨_, rfl⟩, hf⟩
set_option maxRecDepth 100000 in
set_option maxHeartbeats 4000000 in
theorem k_X0_cheapestWay {l : Launch} {Z : li_Z} (d : Nat) (hd : 5 ≤ d) {c : Nat} (hc : li_co c) (p1 p2 p3 : Int32) (M0 : li_M) : li_Met l Z YX0_cheapestWay d [.ref (Z.2.2 c), .int p1, .int p2, .int p3] M0 (li_SI (fun i => i = (c - 4) + 2 ∨ i = (c - 4) + 3) M0) := by
  refine li_enter (by decide +kernel) (Nat.le_of_ble_eq_true rfl) ?_
  show li_T l Z YX0_cheapestWay d 0 [(0, .ref (Z.2.2 c)), (1, .int p1), (2, .int p2), (3, .int p3)] [] M0 _
  have hf : li_fr (fun i => i = (c - 4) + 2 ∨ i = (c - 4) + 3) M0 M0 := li_fr_refl
  refine li_aload_n 0 dX0_cheapestWay_0 rfl ?_
  refine li_getr (k := 0) (N := 8) (T := TX0) (C0 := RX0) dX0_cheapestWay_1 (snC0 hc) (shC0 hc) rfl rfl (by decide) (by decide) li_in0 w_368 ?_
  refine li_iload_n 1 dX0_cheapestWay_4 rfl ?_
  refine li_iload_n 2 dX0_cheapestWay_5 rfl ?_
  refine li_callV (n := 2) (As := [.int p1, .int p2]) dX0_cheapestWay_6 (k_X8_apart (d - 1) (by omega) p1 p2 M0) (by omega) (Nat.le_of_ble_eq_true rfl) w_820 w_798 w_799 w_104 w_800 (by decide +kernel) rfl (by decide) sh_5 rfl rfl (Nat.le_of_ble_eq_true rfl) (fun r M2 h3 => ?_)
  obtain ⟨⟨x1, rfl⟩, h3⟩ := h3
  have hf := li_fr_trans hf h3 (fun i h => False.elim h)
  refine li_istore [(4, .int x1), (0, .ref (Z.2.2 c)), (1, .int p1), (2, .int p2), (3, .int p3)] dX0_cheapestWay_9 (by decide) rfl ?_
  refine li_iconst 3 dX0_cheapestWay_11 (by decide) ?_
  refine li_istore [(5, .int 3), (4, .int x1), (0, .ref (Z.2.2 c)), (1, .int p1), (2, .int p2), (3, .int p3)] dX0_cheapestWay_12 (by decide) rfl ?_
  refine li_sipush 1000 dX0_cheapestWay_14 (by decide) ?_
  refine li_istore [(6, .int 1000), (5, .int 3), (4, .int x1), (0, .ref (Z.2.2 c)), (1, .int p1), (2, .int p2), (3, .int p3)] dX0_cheapestWay_17 (by decide) rfl ?_
  refine li_iconst 0 dX0_cheapestWay_19 (by decide) ?_
  refine li_istore [(7, .int 0), (6, .int 1000), (5, .int 3), (4, .int x1), (0, .ref (Z.2.2 c)), (1, .int p1), (2, .int p2), (3, .int p3)] dX0_cheapestWay_20 (by decide) rfl ?_
  have L22 : ∀ (n : Nat) (x4 : Int32) (x5 : Int32) (x6 : Int32) (M7 : li_M), (2147483647 - (x4 : Int32).toInt).toNat < n → li_fr (fun i => i = (c - 4) + 2 ∨ i = (c - 4) + 3) M0 M7 → li_T l Z YX0_cheapestWay d 22 [(7, .int x4), (6, .int x5), (5, .int x6), (4, .int x1), (0, .ref (Z.2.2 c)), (1, .int p1), (2, .int p2), (3, .int p3)] [] M7 (li_SI (fun i => i = (c - 4) + 2 ∨ i = (c - 4) + 3) M0) := by
    intro n
    induction n with
    | zero => intro x4 x5 x6 M7 hn; exact absurd hn (Nat.not_lt_zero _)
    | succ n ih22 =>
      intro x4 x5 x6 M7 hn hf
      refine li_iload 0 dX0_cheapestWay_22 rfl ?_
      refine li_iconst 4 dX0_cheapestWay_24 (by decide) ?_
      refine li_icmp_ge 74 dX0_cheapestWay_25 (by decide) (fun c8 => ?_) (fun c8 => ?_)
      · refine li_iload 2 dX0_cheapestWay_74 rfl ?_
        exact li_iret dX0_cheapestWay_76 rfl rfl ⟨⟨_, rfl⟩, hf⟩
      · refine li_iload 3 dX0_cheapestWay_28 rfl ?_
        refine li_reach dX0_cheapestWay_30 w_804 ?_
        refine li_iload 0 dX0_cheapestWay_33 rfl ?_
        refine li_callN (n := 2) (As := [.ref (Z.2.2 2000), .int x4]) dX0_cheapestWay_35 (k_X11_atR (d - 1) (by omega) x4 M7) (by omega) (Nat.le_of_ble_eq_true rfl) nw_16 w_569 w_101 w_570 (by decide +kernel) rfl rfl (Nat.le_of_ble_eq_true rfl) (fun r M10 h11 => ?_)
        obtain ⟨⟨x9, rfl⟩, h11⟩ := h11
        have hf := li_fr_trans hf h11 (fun i h => False.elim h)
        have J68 : ∀ (x13 : Int32) (x14 : Int32) (M15 : li_M), li_fr (fun i => i = (c - 4) + 2 ∨ i = (c - 4) + 3) M0 M15 → li_T l Z YX0_cheapestWay d 68 [(7, .int x4), (6, .int x13), (5, .int x14), (4, .int x1), (0, .ref (Z.2.2 c)), (1, .int p1), (2, .int p2), (3, .int p3)] [] M15 (li_SI (fun i => i = (c - 4) + 2 ∨ i = (c - 4) + 3) M0) := by
          intro x13 x14 M15 hf
          obtain ⟨x16, ex16⟩ : ∃ y : Int32, y = x4 + 1 := ⟨_, rfl⟩
          refine li_iinc 0 [(7, .int x16), (6, .int x13), (5, .int x14), (4, .int x1), (0, .ref (Z.2.2 c)), (1, .int p1), (2, .int p2), (3, .int p3)] x16 dX0_cheapestWay_68 rfl (by rw [ex16]; rfl) (by decide) rfl ?_
          refine li_goto 22 dX0_cheapestWay_71 (by decide) ?_
          refine li_pick [0, 1, 2, 3, 4, 5, 6, 7] [(7, .int x16), (6, .int x13), (5, .int x14), (4, .int x1), (0, .ref (Z.2.2 c)), (1, .int p1), (2, .int p2), (3, .int p3)] rfl ?_
          exact ih22 x16 x13 x14 M15 (by have h9 := li_up (li_gt c8); rw [← ex16] at h9; omega) hf
        refine li_icmp_gt 68 dX0_cheapestWay_38 (by decide) (fun c12 => ?_) (fun c12 => ?_)
        · refine li_pick [0, 1, 2, 3, 4, 5, 6, 7] [(7, .int x4), (6, .int x5), (5, .int x6), (4, .int x1), (0, .ref (Z.2.2 c)), (1, .int p1), (2, .int p2), (3, .int p3)] rfl ?_
          exact J68 x5 x6 M10 hf
        · refine li_aload_n 4 dX0_cheapestWay_41 rfl ?_
          refine li_iload_n 5 dX0_cheapestWay_42 rfl ?_
          refine li_iload_n 7 dX0_cheapestWay_43 rfl ?_
          refine li_iload 0 dX0_cheapestWay_44 rfl ?_
          refine li_iload 3 dX0_cheapestWay_46 rfl ?_
          refine li_callV (n := 4) (As := [.int p1, .int p3, .int x4, .int x1]) dX0_cheapestWay_48 (k_X0_ofWord (d - 1) (by omega) hc p1 p3 x4 x1 M10) (by omega) (Nat.le_of_ble_eq_true rfl) w_811 w_812 w_813 w_109 w_814 (by decide +kernel) rfl (snC0 hc) (shC0 hc) rfl rfl (Nat.le_of_ble_eq_true rfl) (fun r M18 h19 => ?_)
          obtain ⟨⟨x17, rfl⟩, h19⟩ := h19
          have hf := li_fr_trans hf h19 (fun i (h : i = (c - 4) + 2 ∨ i = (c - 4) + 3) => (show i = (c - 4) + 2 ∨ i = (c - 4) + 3 by omega))
          refine li_istore [(8, .int x17), (7, .int x4), (6, .int x5), (5, .int x6), (4, .int x1), (0, .ref (Z.2.2 c)), (1, .int p1), (2, .int p2), (3, .int p3)] dX0_cheapestWay_51 (by decide) rfl ?_
          refine li_iload 0 dX0_cheapestWay_53 rfl ?_
          refine li_iload 2 dX0_cheapestWay_55 rfl ?_
          refine li_icmp_ge 68 dX0_cheapestWay_57 (by decide) (fun c20 => ?_) (fun c20 => ?_)
          · refine li_pick [1, 2, 3, 4, 5, 6, 7, 8] [(7, .int x4), (6, .int x5), (5, .int x6), (4, .int x1), (0, .ref (Z.2.2 c)), (1, .int p1), (2, .int p2), (3, .int p3)] rfl ?_
            exact J68 x5 x6 M18 hf
          · refine li_iload 0 dX0_cheapestWay_60 rfl ?_
            refine li_istore [(6, .int x17), (8, .int x17), (7, .int x4), (5, .int x6), (4, .int x1), (0, .ref (Z.2.2 c)), (1, .int p1), (2, .int p2), (3, .int p3)] dX0_cheapestWay_62 (by decide) rfl ?_
            refine li_iload 2 dX0_cheapestWay_64 rfl ?_
            refine li_istore [(5, .int x4), (6, .int x17), (8, .int x17), (7, .int x4), (4, .int x1), (0, .ref (Z.2.2 c)), (1, .int p1), (2, .int p2), (3, .int p3)] dX0_cheapestWay_66 (by decide) rfl ?_
            refine li_pick [3, 1, 0, 4, 5, 6, 7, 8] [(7, .int x4), (6, .int x17), (5, .int x4), (4, .int x1), (0, .ref (Z.2.2 c)), (1, .int p1), (2, .int p2), (3, .int p3)] rfl ?_
            exact J68 x17 x4 M18 hf
  exact L22 _ 0 1000 3 M2 (Nat.lt_succ_self _) hf
set_option maxRecDepth 100000 in
set_option maxHeartbeats 4000000 in
theorem k_X0_leastWay {l : Launch} {Z : li_Z} (d : Nat) (hd : 6 ≤ d) {c : Nat} (hc : li_co c) (p1 : Int32) (M0 : li_M) : li_Met l Z YX0_leastWay d [.ref (Z.2.2 c), .int p1] M0 (li_SI (fun i => i = (c - 4) + 2 ∨ i = (c - 4) + 3) M0) := by
  refine li_enter (by decide +kernel) (Nat.le_of_ble_eq_true rfl) ?_
  show li_T l Z YX0_leastWay d 0 [(0, .ref (Z.2.2 c)), (1, .int p1)] [] M0 _
  have hf : li_fr (fun i => i = (c - 4) + 2 ∨ i = (c - 4) + 3) M0 M0 := li_fr_refl
  refine li_aload_n 0 dX0_leastWay_0 rfl ?_
  refine li_aload_n 0 dX0_leastWay_1 rfl ?_
  refine li_getr (k := 0) (N := 8) (T := TX0) (C0 := RX0) dX0_leastWay_2 (snC0 hc) (shC0 hc) rfl rfl (by decide) (by decide) li_in0 w_368 ?_
  refine li_getr (k := 4) (N := 9) (T := TX8) (C0 := RX8) dX0_leastWay_5 (by decide) sh_5 rfl rfl (by decide) (by decide) li_in8 w_189 ?_
  refine li_iload_n 1 dX0_leastWay_8 rfl ?_
  refine li_callN (n := 2) (As := [.ref (Z.2.2 8), .int p1]) dX0_leastWay_9 (k_X11_at (d - 1) (by omega) (by decide) sh_8 (by decide) p1 M0) (by omega) (Nat.le_of_ble_eq_true rfl) nw_16 w_569 w_101 w_570 (by decide +kernel) rfl rfl (Nat.le_of_ble_eq_true rfl) (fun r M2 h3 => ?_)
  obtain ⟨⟨x1, rfl⟩, h3⟩ := h3
  have hf := li_fr_trans hf h3 (fun i h => False.elim h)
  refine li_aload_n 0 dX0_leastWay_12 rfl ?_
  refine li_getr (k := 0) (N := 8) (T := TX0) (C0 := RX0) dX0_leastWay_13 (snC0 hc) (shC0 hc) rfl rfl (by decide) (by decide) li_in0 w_368 ?_
  refine li_getr (k := 5) (N := 9) (T := TX8) (C0 := RX8) dX0_leastWay_16 (by decide) sh_5 rfl rfl (by decide) (by decide) li_in8 w_192 ?_
  refine li_iload_n 1 dX0_leastWay_19 rfl ?_
  refine li_callN (n := 2) (As := [.ref (Z.2.2 9), .int p1]) dX0_leastWay_20 (k_X11_at (d - 1) (by omega) (by decide) sh_9 (by decide) p1 M2) (by omega) (Nat.le_of_ble_eq_true rfl) nw_16 w_569 w_101 w_570 (by decide +kernel) rfl rfl (Nat.le_of_ble_eq_true rfl) (fun r M5 h6 => ?_)
  obtain ⟨⟨x4, rfl⟩, h6⟩ := h6
  have hf := li_fr_trans hf h6 (fun i h => False.elim h)
  refine li_aload_n 0 dX0_leastWay_23 rfl ?_
  refine li_getr (k := 0) (N := 8) (T := TX0) (C0 := RX0) dX0_leastWay_24 (snC0 hc) (shC0 hc) rfl rfl (by decide) (by decide) li_in0 w_368 ?_
  refine li_getr (k := 6) (N := 9) (T := TX8) (C0 := RX8) dX0_leastWay_27 (by decide) sh_5 rfl rfl (by decide) (by decide) li_in8 w_195 ?_
  refine li_iload_n 1 dX0_leastWay_30 rfl ?_
  refine li_callN (n := 2) (As := [.ref (Z.2.2 10), .int p1]) dX0_leastWay_31 (k_X11_at (d - 1) (by omega) (by decide) sh_10 (by decide) p1 M5) (by omega) (Nat.le_of_ble_eq_true rfl) nw_16 w_569 w_101 w_570 (by decide +kernel) rfl rfl (Nat.le_of_ble_eq_true rfl) (fun r M8 h9 => ?_)
  obtain ⟨⟨x7, rfl⟩, h9⟩ := h9
  have hf := li_fr_trans hf h9 (fun i h => False.elim h)
  refine li_callV (n := 3) (As := [.int x1, .int x4, .int x7]) dX0_leastWay_34 (k_X0_cheapestWay (d - 1) (by omega) hc x1 x4 x7 M8) (by omega) (Nat.le_of_ble_eq_true rfl) w_968 w_969 w_970 w_109 w_971 (by decide +kernel) rfl (snC0 hc) (shC0 hc) rfl rfl (Nat.le_of_ble_eq_true rfl) (fun r M11 h12 => ?_)
  obtain ⟨⟨x10, rfl⟩, h12⟩ := h12
  have hf := li_fr_trans hf h12 (fun i (h : i = (c - 4) + 2 ∨ i = (c - 4) + 3) => (show i = (c - 4) + 2 ∨ i = (c - 4) + 3 by omega))
  exact li_iret dX0_leastWay_37 rfl rfl ⟨⟨_, rfl⟩, hf⟩
set_option maxRecDepth 100000 in
set_option maxHeartbeats 4000000 in
theorem k_X0_fill {l : Launch} {Z : li_Z} (d : Nat) (hd : 6 ≤ d) {c : Nat} (hc : li_co c) (M0 : li_M) : li_Met l Z YX0_fill d [.ref (Z.2.2 c)] M0 (li_SV (fun i => i = c + 1 ∨ i = c + 2 ∨ i = (c - 4) + 2 ∨ i = (c - 4) + 3) M0) := by
  refine li_enter (by decide +kernel) (Nat.le_of_ble_eq_true rfl) ?_
  show li_T l Z YX0_fill d 0 [(0, .ref (Z.2.2 c))] [] M0 _
  have hf : li_fr (fun i => i = c + 1 ∨ i = c + 2 ∨ i = (c - 4) + 2 ∨ i = (c - 4) + 3) M0 M0 := li_fr_refl
  refine li_iconst 0 dX0_fill_0 (by decide) ?_
  refine li_istore_n [(1, .int 0), (0, .ref (Z.2.2 c))] dX0_fill_1 (by decide) rfl ?_
  have L2 : ∀ (n : Nat) (x1 : Int32) (M2 : li_M), (2147483647 - (x1 : Int32).toInt).toNat < n → li_fr (fun i => i = c + 1 ∨ i = c + 2 ∨ i = (c - 4) + 2 ∨ i = (c - 4) + 3) M0 M2 → li_T l Z YX0_fill d 2 [(1, .int x1), (0, .ref (Z.2.2 c))] [] M2 (li_SV (fun i => i = c + 1 ∨ i = c + 2 ∨ i = (c - 4) + 2 ∨ i = (c - 4) + 3) M0) := by
    intro n
    induction n with
    | zero => intro x1 M2 hn; exact absurd hn (Nat.not_lt_zero _)
    | succ n ih2 =>
      intro x1 M2 hn hf
      refine li_iload_n 0 dX0_fill_2 rfl ?_
      refine li_aload_n 1 dX0_fill_3 rfl ?_
      refine li_getr (k := 0) (N := 8) (T := TX0) (C0 := RX0) dX0_fill_4 (snC0 hc) (shC0 hc) rfl rfl (by decide) (by decide) li_in0 w_368 ?_
      refine li_geti (k := 1) (N := 9) (T := TX8) (C0 := RX8) dX0_fill_7 (by decide) sh_5 rfl rfl (by decide) li_in8 w_181 ?_
      refine li_top (fun x3 ex3 => ?_)
      refine li_icmp_ge 96 dX0_fill_10 (by decide) (fun c4 => ?_) (fun c4 => ?_)
      · exact li_vret dX0_fill_96 rfl ⟨rfl, hf⟩
      · refine li_sipush 999 dX0_fill_13 (by decide) ?_
        refine li_istore_n [(2, .int 999), (1, .int x1), (0, .ref (Z.2.2 c))] dX0_fill_16 (by decide) rfl ?_
        refine li_iconst 0 dX0_fill_17 (by decide) ?_
        refine li_istore_n [(3, .int 0), (2, .int 999), (1, .int x1), (0, .ref (Z.2.2 c))] dX0_fill_18 (by decide) rfl ?_
        have L19 : ∀ (n : Nat) (x5 : Int32) (x6 : Int32) (M7 : li_M), (2147483647 - (x5 : Int32).toInt).toNat < n → li_fr (fun i => i = c + 1 ∨ i = c + 2 ∨ i = (c - 4) + 2 ∨ i = (c - 4) + 3) M0 M7 → li_T l Z YX0_fill d 19 [(3, .int x5), (2, .int x6), (1, .int x1), (0, .ref (Z.2.2 c))] [] M7 (li_SV (fun i => i = c + 1 ∨ i = c + 2 ∨ i = (c - 4) + 2 ∨ i = (c - 4) + 3) M0) := by
          intro n
          induction n with
          | zero => intro x5 x6 M7 hn; exact absurd hn (Nat.not_lt_zero _)
          | succ n ih19 =>
            intro x5 x6 M7 hn hf
            refine li_iload_n 0 dX0_fill_19 rfl ?_
            refine li_iconst 4 dX0_fill_20 (by decide) ?_
            refine li_icmp_ge 81 dX0_fill_21 (by decide) (fun c8 => ?_) (fun c8 => ?_)
            · refine li_aload_n 3 dX0_fill_81 rfl ?_
              refine li_getr (k := 4) (N := 8) (T := TX0) (C0 := RX0) dX0_fill_82 (snC0 hc) (shC0 hc) rfl rfl (lkC2 hc) (by decide) li_in0 w_373 ?_
              refine li_iload_n 2 dX0_fill_85 rfl ?_
              refine li_iload_n 1 dX0_fill_86 rfl ?_
              refine li_callN (n := 3) (As := [.ref (Z.2.2 (c + 2)), .int x1, .int x6]) dX0_fill_87 (k_X11_put (d - 1) (by omega) (snC2 hc) (shC2 hc) (by decide) x1 x6 M7) (by omega) (Nat.le_of_ble_eq_true rfl) nw_17 w_522 w_101 w_523 (by decide +kernel) rfl rfl (Nat.le_of_ble_eq_true rfl) (fun r M10 h11 => ?_)
              obtain ⟨rfl, h11⟩ := h11
              have hf := li_fr_trans hf h11 (fun i (h : i = c + 2) => (show i = c + 1 ∨ i = c + 2 ∨ i = (c - 4) + 2 ∨ i = (c - 4) + 3 by omega))
              obtain ⟨x12, ex12⟩ : ∃ y : Int32, y = x1 + 1 := ⟨_, rfl⟩
              refine li_iinc 2 [(1, .int x12), (3, .int x5), (2, .int x6), (0, .ref (Z.2.2 c))] x12 dX0_fill_90 rfl (by rw [ex12]; rfl) (by decide) rfl ?_
              refine li_goto 2 dX0_fill_93 (by decide) ?_
              refine li_pick [0, 3] [(1, .int x12), (0, .ref (Z.2.2 c))] rfl ?_
              exact ih2 x12 M10 (by have h9 := li_up (li_gt c4); rw [← ex12] at h9; omega) hf
            · refine li_aload_n 3 dX0_fill_24 rfl ?_
              refine li_iload_n 2 dX0_fill_25 rfl ?_
              refine li_iload_n 0 dX0_fill_26 rfl ?_
              refine li_callV (n := 2) (As := [.int x1, .int x5]) dX0_fill_27 (k_X0_isHeard (d - 1) (by omega) hc x1 x5 M7) (by omega) (Nat.le_of_ble_eq_true rfl) w_992 w_789 w_790 w_109 w_791 (by decide +kernel) rfl (snC0 hc) (shC0 hc) rfl rfl (Nat.le_of_ble_eq_true rfl) (fun r M14 h15 => ?_)
              obtain ⟨⟨x13, rfl, bx13⟩, h15⟩ := h15
              have hf := li_fr_trans hf h15 (fun i h => False.elim h)
              have J43 : ∀ (x17 : Int32) (M18 : li_M), li_fr (fun i => i = c + 1 ∨ i = c + 2 ∨ i = (c - 4) + 2 ∨ i = (c - 4) + 3) M0 M18 → li_T l Z YX0_fill d 43 [(3, .int x5), (2, .int x6), (1, .int x1), (0, .ref (Z.2.2 c))] [.int x17] M18 (li_SV (fun i => i = c + 1 ∨ i = c + 2 ∨ i = (c - 4) + 2 ∨ i = (c - 4) + 3) M0) := by
                intro x17 M18 hf
                refine li_istore [(4, .int x17), (3, .int x5), (2, .int x6), (1, .int x1), (0, .ref (Z.2.2 c))] dX0_fill_43 (by decide) rfl ?_
                refine li_aload_n 4 dX0_fill_45 rfl ?_
                refine li_getr (k := 3) (N := 8) (T := TX0) (C0 := RX0) dX0_fill_46 (snC0 hc) (shC0 hc) rfl rfl (lkC1 hc) (by decide) li_in0 w_371 ?_
                refine li_iload_n 3 dX0_fill_49 rfl ?_
                refine li_iconst 4 dX0_fill_50 (by decide) ?_
                refine li_imul dX0_fill_51 ?_
                refine li_top (fun x19 ex19 => ?_)
                refine li_iload_n 1 dX0_fill_52 rfl ?_
                refine li_iadd dX0_fill_53 ?_
                refine li_top (fun x20 ex20 => ?_)
                refine li_iload 0 dX0_fill_54 rfl ?_
                refine li_callN (n := 3) (As := [.ref (Z.2.2 (c + 1)), .int x20, .int x17]) dX0_fill_56 (k_X11_put (d - 1) (by omega) (snC1 hc) (shC1 hc) (by decide) x20 x17 M18) (by omega) (Nat.le_of_ble_eq_true rfl) nw_17 w_522 w_101 w_523 (by decide +kernel) rfl rfl (Nat.le_of_ble_eq_true rfl) (fun r M22 h23 => ?_)
                obtain ⟨rfl, h23⟩ := h23
                have hf := li_fr_trans hf h23 (fun i (h : i = c + 1) => (show i = c + 1 ∨ i = c + 2 ∨ i = (c - 4) + 2 ∨ i = (c - 4) + 3 by omega))
                refine li_iload 0 dX0_fill_59 rfl ?_
                have J74 : ∀ (x25 : Int32) (M26 : li_M), li_fr (fun i => i = c + 1 ∨ i = c + 2 ∨ i = (c - 4) + 2 ∨ i = (c - 4) + 3) M0 M26 → li_T l Z YX0_fill d 74 [(4, .int x17), (3, .int x5), (2, .int x6), (1, .int x1), (0, .ref (Z.2.2 c))] [.int x25] M26 (li_SV (fun i => i = c + 1 ∨ i = c + 2 ∨ i = (c - 4) + 2 ∨ i = (c - 4) + 3) M0) := by
                  intro x25 M26 hf
                  refine li_istore_n [(2, .int x25), (4, .int x17), (3, .int x5), (1, .int x1), (0, .ref (Z.2.2 c))] dX0_fill_74 (by decide) rfl ?_
                  obtain ⟨x27, ex27⟩ : ∃ y : Int32, y = x5 + 1 := ⟨_, rfl⟩
                  refine li_iinc 2 [(3, .int x27), (2, .int x25), (4, .int x17), (1, .int x1), (0, .ref (Z.2.2 c))] x27 dX0_fill_75 rfl (by rw [ex27]; rfl) (by decide) rfl ?_
                  refine li_goto 19 dX0_fill_78 (by decide) ?_
                  refine li_pick [0, 1, 3, 4] [(3, .int x27), (2, .int x25), (1, .int x1), (0, .ref (Z.2.2 c))] rfl ?_
                  exact ih19 x27 x25 M26 (by have h9 := li_up (li_gt c8); rw [← ex27] at h9; omega) hf
                refine li_if_lt 73 dX0_fill_61 (by decide) (fun c24 => ?_) (fun c24 => ?_)
                · refine li_iload_n 2 dX0_fill_73 rfl ?_
                  refine li_pick [0, 1, 2, 3, 4] [(4, .int x17), (3, .int x5), (2, .int x6), (1, .int x1), (0, .ref (Z.2.2 c))] rfl ?_
                  exact J74 x6 M22 hf
                · refine li_iload_n 2 dX0_fill_64 rfl ?_
                  refine li_iload 0 dX0_fill_65 rfl ?_
                  refine li_mmin dX0_fill_67 (by omega) w_994 w_726 w_113 w_727 (Nat.le_of_ble_eq_true rfl) ?_
                  refine li_top (fun x28 ex28 => ?_)
                  refine li_goto 74 dX0_fill_70 (by decide) ?_
                  refine li_pick [0, 1, 2, 3, 4] [(4, .int x17), (3, .int x5), (2, .int x6), (1, .int x1), (0, .ref (Z.2.2 c))] rfl ?_
                  exact J74 x28 M22 hf
              refine li_if_eq 42 dX0_fill_30 (by decide) (fun c16 => ?_) (fun c16 => ?_)
              · refine li_iconst (-1) dX0_fill_42 (by decide) ?_
                refine li_pick [0, 1, 2, 3] [(3, .int x5), (2, .int x6), (1, .int x1), (0, .ref (Z.2.2 c))] rfl ?_
                exact J43 (-1) M14 hf
              · refine li_aload_n 3 dX0_fill_33 rfl ?_
                refine li_iload_n 2 dX0_fill_34 rfl ?_
                refine li_iload_n 0 dX0_fill_35 rfl ?_
                refine li_callV (n := 2) (As := [.int x1, .int x5]) dX0_fill_36 (k_X0_ofThing (d - 1) (by omega) hc x1 x5 M14) (by omega) (Nat.le_of_ble_eq_true rfl) w_993 w_808 w_809 w_109 w_810 (by decide +kernel) rfl (snC0 hc) (shC0 hc) rfl rfl (Nat.le_of_ble_eq_true rfl) (fun r M30 h31 => ?_)
                obtain ⟨⟨x29, rfl⟩, h31⟩ := h31
                have hf := li_fr_trans hf h31 (fun i (h : i = (c - 4) + 2 ∨ i = (c - 4) + 3) => (show i = c + 1 ∨ i = c + 2 ∨ i = (c - 4) + 2 ∨ i = (c - 4) + 3 by omega))
                refine li_goto 43 dX0_fill_39 (by decide) ?_
                refine li_pick [0, 1, 2, 3] [(3, .int x5), (2, .int x6), (1, .int x1), (0, .ref (Z.2.2 c))] rfl ?_
                exact J43 x29 M30 hf
        exact L19 _ 0 999 M2 (Nat.lt_succ_self _) hf
  exact L2 _ 0 M0 (Nat.lt_succ_self _) hf
set_option maxRecDepth 100000 in
set_option maxHeartbeats 4000000 in
theorem k_X0_leastOfAll {l : Launch} {Z : li_Z} (d : Nat) (hd : 2 ≤ d) {c : Nat} (hc : li_co c) (p1 : Int32) (M0 : li_M) : li_Met l Z YX0_leastOfAll d [.ref (Z.2.2 c), .int p1] M0 (li_SI (fun i => False) M0) := by
  refine li_enter (by decide +kernel) (Nat.le_of_ble_eq_true rfl) ?_
  show li_T l Z YX0_leastOfAll d 0 [(0, .ref (Z.2.2 c)), (1, .int p1)] [] M0 _
  have hf : li_fr (fun i => False) M0 M0 := li_fr_refl
  refine li_iconst 0 dX0_leastOfAll_0 (by decide) ?_
  refine li_istore_n [(2, .int 0), (0, .ref (Z.2.2 c)), (1, .int p1)] dX0_leastOfAll_1 (by decide) rfl ?_
  refine li_iconst 0 dX0_leastOfAll_2 (by decide) ?_
  refine li_istore_n [(3, .int 0), (2, .int 0), (0, .ref (Z.2.2 c)), (1, .int p1)] dX0_leastOfAll_3 (by decide) rfl ?_
  have L4 : ∀ (n : Nat) (x1 : Int32) (x2 : Int32) (M3 : li_M), (2147483647 - (x1 : Int32).toInt).toNat < n → li_fr (fun i => False) M0 M3 → li_T l Z YX0_leastOfAll d 4 [(3, .int x1), (2, .int x2), (0, .ref (Z.2.2 c)), (1, .int p1)] [] M3 (li_SI (fun i => False) M0) := by
    intro n
    induction n with
    | zero => intro x1 x2 M3 hn; exact absurd hn (Nat.not_lt_zero _)
    | succ n ih4 =>
      intro x1 x2 M3 hn hf
      refine li_iload_n 0 dX0_leastOfAll_4 rfl ?_
      refine li_aload_n 2 dX0_leastOfAll_5 rfl ?_
      refine li_getr (k := 0) (N := 8) (T := TX0) (C0 := RX0) dX0_leastOfAll_6 (snC0 hc) (shC0 hc) rfl rfl (by decide) (by decide) li_in0 w_368 ?_
      refine li_geti (k := 1) (N := 9) (T := TX8) (C0 := RX8) dX0_leastOfAll_9 (by decide) sh_5 rfl rfl (by decide) li_in8 w_181 ?_
      refine li_top (fun x4 ex4 => ?_)
      refine li_icmp_ge 40 dX0_leastOfAll_12 (by decide) (fun c5 => ?_) (fun c5 => ?_)
      · refine li_iload_n 1 dX0_leastOfAll_40 rfl ?_
        exact li_iret dX0_leastOfAll_41 rfl rfl ⟨⟨_, rfl⟩, hf⟩
      · refine li_iload_n 3 dX0_leastOfAll_15 rfl ?_
        refine li_iload_n 0 dX0_leastOfAll_16 rfl ?_
        refine li_callN (n := 2) (As := [.int p1, .int x1]) dX0_leastOfAll_17 (k_X11_holds (d - 1) (by omega) p1 x1 M3) (by omega) (Nat.le_of_ble_eq_true rfl) nw_24 w_857 w_101 w_858 (by decide +kernel) rfl rfl (Nat.le_of_ble_eq_true rfl) (fun r M7 h8 => ?_)
        obtain ⟨⟨x6, rfl, bx6⟩, h8⟩ := h8
        have hf := li_fr_trans hf h8 (fun i h => False.elim h)
        have J34 : ∀ (x10 : Int32) (M11 : li_M), li_fr (fun i => False) M0 M11 → li_T l Z YX0_leastOfAll d 34 [(3, .int x1), (2, .int x10), (0, .ref (Z.2.2 c)), (1, .int p1)] [] M11 (li_SI (fun i => False) M0) := by
          intro x10 M11 hf
          obtain ⟨x12, ex12⟩ : ∃ y : Int32, y = x1 + 1 := ⟨_, rfl⟩
          refine li_iinc 0 [(3, .int x12), (2, .int x10), (0, .ref (Z.2.2 c)), (1, .int p1)] x12 dX0_leastOfAll_34 rfl (by rw [ex12]; rfl) (by decide) rfl ?_
          refine li_goto 4 dX0_leastOfAll_37 (by decide) ?_
          refine li_pick [0, 1, 2, 3] [(3, .int x12), (2, .int x10), (0, .ref (Z.2.2 c)), (1, .int p1)] rfl ?_
          exact ih4 x12 x10 M11 (by have h9 := li_up (li_gt c5); rw [← ex12] at h9; omega) hf
        refine li_if_eq 34 dX0_leastOfAll_20 (by decide) (fun c9 => ?_) (fun c9 => ?_)
        · refine li_pick [0, 1, 2, 3] [(3, .int x1), (2, .int x2), (0, .ref (Z.2.2 c)), (1, .int p1)] rfl ?_
          exact J34 x2 M7 hf
        · refine li_iload_n 1 dX0_leastOfAll_23 rfl ?_
          refine li_aload_n 2 dX0_leastOfAll_24 rfl ?_
          refine li_getr (k := 4) (N := 8) (T := TX0) (C0 := RX0) dX0_leastOfAll_25 (snC0 hc) (shC0 hc) rfl rfl (lkC2 hc) (by decide) li_in0 w_373 ?_
          refine li_iload_n 0 dX0_leastOfAll_28 rfl ?_
          refine li_callN (n := 2) (As := [.ref (Z.2.2 (c + 2)), .int x1]) dX0_leastOfAll_29 (k_X11_at (d - 1) (by omega) (snC2 hc) (shC2 hc) (by decide) x1 M7) (by omega) (Nat.le_of_ble_eq_true rfl) nw_16 w_569 w_101 w_570 (by decide +kernel) rfl rfl (Nat.le_of_ble_eq_true rfl) (fun r M14 h15 => ?_)
          obtain ⟨⟨x13, rfl⟩, h15⟩ := h15
          have hf := li_fr_trans hf h15 (fun i h => False.elim h)
          refine li_iadd dX0_leastOfAll_32 ?_
          refine li_top (fun x16 ex16 => ?_)
          refine li_istore_n [(2, .int x16), (3, .int x1), (0, .ref (Z.2.2 c)), (1, .int p1)] dX0_leastOfAll_33 (by decide) rfl ?_
          refine li_pick [1, 0, 2, 3] [(3, .int x1), (2, .int x16), (0, .ref (Z.2.2 c)), (1, .int p1)] rfl ?_
          exact J34 x16 M14 hf
  exact L4 _ 0 0 M0 (Nat.lt_succ_self _) hf
set_option maxRecDepth 100000 in
set_option maxHeartbeats 4000000 in
theorem k_X0_openThings {l : Launch} {Z : li_Z} (d : Nat) (hd : 3 ≤ d) {c : Nat} (hc : li_co c) (M0 : li_M) : li_Met l Z YX0_openThings d [.ref (Z.2.2 c)] M0 (li_SI (fun i => False) M0) := by
  refine li_enter (by decide +kernel) (Nat.le_of_ble_eq_true rfl) ?_
  show li_T l Z YX0_openThings d 0 [(0, .ref (Z.2.2 c))] [] M0 _
  have hf : li_fr (fun i => False) M0 M0 := li_fr_refl
  refine li_iconst 0 dX0_openThings_0 (by decide) ?_
  refine li_istore_n [(1, .int 0), (0, .ref (Z.2.2 c))] dX0_openThings_1 (by decide) rfl ?_
  refine li_iconst 0 dX0_openThings_2 (by decide) ?_
  refine li_istore_n [(2, .int 0), (1, .int 0), (0, .ref (Z.2.2 c))] dX0_openThings_3 (by decide) rfl ?_
  have L4 : ∀ (n : Nat) (x1 : Int32) (x2 : Int32) (M3 : li_M), (2147483647 - (x1 : Int32).toInt).toNat < n → li_fr (fun i => False) M0 M3 → li_T l Z YX0_openThings d 4 [(2, .int x1), (1, .int x2), (0, .ref (Z.2.2 c))] [] M3 (li_SI (fun i => False) M0) := by
    intro n
    induction n with
    | zero => intro x1 x2 M3 hn; exact absurd hn (Nat.not_lt_zero _)
    | succ n ih4 =>
      intro x1 x2 M3 hn hf
      refine li_iload_n 0 dX0_openThings_4 rfl ?_
      refine li_aload_n 2 dX0_openThings_5 rfl ?_
      refine li_getr (k := 0) (N := 8) (T := TX0) (C0 := RX0) dX0_openThings_6 (snC0 hc) (shC0 hc) rfl rfl (by decide) (by decide) li_in0 w_368 ?_
      refine li_geti (k := 1) (N := 9) (T := TX8) (C0 := RX8) dX0_openThings_9 (by decide) sh_5 rfl rfl (by decide) li_in8 w_181 ?_
      refine li_top (fun x4 ex4 => ?_)
      refine li_icmp_ge 56 dX0_openThings_12 (by decide) (fun c5 => ?_) (fun c5 => ?_)
      · refine li_iload_n 1 dX0_openThings_56 rfl ?_
        exact li_iret dX0_openThings_57 rfl rfl ⟨⟨_, rfl⟩, hf⟩
      · refine li_aload_n 2 dX0_openThings_15 rfl ?_
        refine li_getr (k := 1) (N := 8) (T := TX0) (C0 := RX0) dX0_openThings_16 (snC0 hc) (shC0 hc) rfl rfl (by decide) (by decide) li_in0 w_369 ?_
        refine li_geti (k := 1) (N := 11) (T := TX4) (C0 := RX4) dX0_openThings_19 (by decide) sh_13 rfl rfl (by decide) li_in4 w_234 ?_
        refine li_top (fun x6 ex6 => ?_)
        refine li_iload_n 0 dX0_openThings_22 rfl ?_
        refine li_callN (n := 2) (As := [.int x6, .int x1]) dX0_openThings_23 (k_X11_holds (d - 1) (by omega) x6 x1 M3) (by omega) (Nat.le_of_ble_eq_true rfl) nw_24 w_857 w_101 w_858 (by decide +kernel) rfl rfl (Nat.le_of_ble_eq_true rfl) (fun r M8 h9 => ?_)
        obtain ⟨⟨x7, rfl, bx7⟩, h9⟩ := h9
        have hf := li_fr_trans hf h9 (fun i h => False.elim h)
        have J50 : ∀ (x11 : Int32) (M12 : li_M), li_fr (fun i => False) M0 M12 → li_T l Z YX0_openThings d 50 [(2, .int x1), (1, .int x11), (0, .ref (Z.2.2 c))] [] M12 (li_SI (fun i => False) M0) := by
          intro x11 M12 hf
          obtain ⟨x13, ex13⟩ : ∃ y : Int32, y = x1 + 1 := ⟨_, rfl⟩
          refine li_iinc 0 [(2, .int x13), (1, .int x11), (0, .ref (Z.2.2 c))] x13 dX0_openThings_50 rfl (by rw [ex13]; rfl) (by decide) rfl ?_
          refine li_goto 4 dX0_openThings_53 (by decide) ?_
          refine li_pick [0, 1, 2] [(2, .int x13), (1, .int x11), (0, .ref (Z.2.2 c))] rfl ?_
          exact ih4 x13 x11 M12 (by have h9 := li_up (li_gt c5); rw [← ex13] at h9; omega) hf
        refine li_if_ne 50 dX0_openThings_26 (by decide) (fun c10 => ?_) (fun c10 => ?_)
        · refine li_pick [0, 1, 2] [(2, .int x1), (1, .int x2), (0, .ref (Z.2.2 c))] rfl ?_
          exact J50 x2 M8 hf
        · refine li_aload_n 2 dX0_openThings_29 rfl ?_
          refine li_getr (k := 1) (N := 8) (T := TX0) (C0 := RX0) dX0_openThings_30 (snC0 hc) (shC0 hc) rfl rfl (by decide) (by decide) li_in0 w_369 ?_
          refine li_aload_n 2 dX0_openThings_33 rfl ?_
          refine li_getr (k := 0) (N := 8) (T := TX0) (C0 := RX0) dX0_openThings_34 (snC0 hc) (shC0 hc) rfl rfl (by decide) (by decide) li_in0 w_368 ?_
          refine li_iload_n 0 dX0_openThings_37 rfl ?_
          refine li_callV (n := 2) (As := [.ref (Z.2.2 5), .int x1]) dX0_openThings_38 (k_X4_isLate (d - 1) (by omega) x1 M8) (by omega) (Nat.le_of_ble_eq_true rfl) w_1008 w_860 w_861 w_105 w_862 (by decide +kernel) rfl (by decide) sh_13 rfl rfl (Nat.le_of_ble_eq_true rfl) (fun r M15 h16 => ?_)
          obtain ⟨⟨x14, rfl, bx14⟩, h16⟩ := h16
          have hf := li_fr_trans hf h16 (fun i h => False.elim h)
          refine li_if_ne 50 dX0_openThings_41 (by decide) (fun c17 => ?_) (fun c17 => ?_)
          · refine li_pick [0, 1, 2] [(2, .int x1), (1, .int x2), (0, .ref (Z.2.2 c))] rfl ?_
            exact J50 x2 M15 hf
          · refine li_iload_n 1 dX0_openThings_44 rfl ?_
            refine li_iconst 1 dX0_openThings_45 (by decide) ?_
            refine li_iload_n 0 dX0_openThings_46 rfl ?_
            refine li_ishl dX0_openThings_47 ?_
            refine li_top (fun x18 ex18 => ?_)
            refine li_ior dX0_openThings_48 ?_
            refine li_top (fun x19 ex19 => ?_)
            refine li_istore_n [(1, .int x19), (2, .int x1), (0, .ref (Z.2.2 c))] dX0_openThings_49 (by decide) rfl ?_
            refine li_pick [1, 0, 2] [(2, .int x1), (1, .int x19), (0, .ref (Z.2.2 c))] rfl ?_
            exact J50 x19 M15 hf
  exact L4 _ 0 0 M0 (Nat.lt_succ_self _) hf
set_option maxRecDepth 100000 in
set_option maxHeartbeats 4000000 in
theorem k_X0_openThingsOf {l : Launch} {Z : li_Z} (d : Nat) (hd : 4 ≤ d) {c : Nat} (hc : li_co c) (p1 : Int32) (M0 : li_M) : li_Met l Z YX0_openThingsOf d [.ref (Z.2.2 c), .int p1] M0 (li_SI (fun i => False) M0) := by
  refine li_enter (by decide +kernel) (Nat.le_of_ble_eq_true rfl) ?_
  show li_T l Z YX0_openThingsOf d 0 [(0, .ref (Z.2.2 c)), (1, .int p1)] [] M0 _
  have hf : li_fr (fun i => False) M0 M0 := li_fr_refl
  refine li_aload_n 0 dX0_openThingsOf_0 rfl ?_
  refine li_callV (n := 0) (As := []) dX0_openThingsOf_1 (k_X0_openThings (d - 1) (by omega) hc M0) (by omega) (Nat.le_of_ble_eq_true rfl) w_1003 w_1004 w_1005 w_109 w_1006 (by decide +kernel) rfl (snC0 hc) (shC0 hc) rfl rfl (Nat.le_of_ble_eq_true rfl) (fun r M2 h3 => ?_)
  obtain ⟨⟨x1, rfl⟩, h3⟩ := h3
  have hf := li_fr_trans hf h3 (fun i h => False.elim h)
  refine li_aload_n 0 dX0_openThingsOf_4 rfl ?_
  refine li_getr (k := 0) (N := 8) (T := TX0) (C0 := RX0) dX0_openThingsOf_5 (snC0 hc) (shC0 hc) rfl rfl (by decide) (by decide) li_in0 w_368 ?_
  refine li_iload_n 1 dX0_openThingsOf_8 rfl ?_
  refine li_callV (n := 1) (As := [.int p1]) dX0_openThingsOf_9 (k_X8_thingsOf (d - 1) (by omega) p1 M2) (by omega) (Nat.le_of_ble_eq_true rfl) w_1009 w_1010 w_1011 w_104 w_1012 (by decide +kernel) rfl (by decide) sh_5 rfl rfl (Nat.le_of_ble_eq_true rfl) (fun r M5 h6 => ?_)
  obtain ⟨⟨x4, rfl⟩, h6⟩ := h6
  have hf := li_fr_trans hf h6 (fun i h => False.elim h)
  refine li_iand dX0_openThingsOf_12 ?_
  refine li_top (fun x7 ex7 => ?_)
  exact li_iret dX0_openThingsOf_13 rfl rfl ⟨⟨_, rfl⟩, hf⟩
set_option maxRecDepth 100000 in
set_option maxHeartbeats 4000000 in
theorem k_X0_weigh {l : Launch} {Z : li_Z} (d : Nat) (hd : 2 ≤ d) {c : Nat} (hc : li_co c) (p1 p2 : Int32) (M0 : li_M) : li_Met l Z YX0_weigh d [.ref (Z.2.2 c), .int p1, .int p2] M0 (li_SV (fun i => i = c) M0) := by
  refine li_enter (by decide +kernel) (Nat.le_of_ble_eq_true rfl) ?_
  show li_T l Z YX0_weigh d 0 [(0, .ref (Z.2.2 c)), (1, .int p1), (2, .int p2)] [] M0 _
  have hf : li_fr (fun i => i = c) M0 M0 := li_fr_refl
  refine li_iconst 0 dX0_weigh_0 (by decide) ?_
  refine li_istore_n [(3, .int 0), (0, .ref (Z.2.2 c)), (1, .int p1), (2, .int p2)] dX0_weigh_1 (by decide) rfl ?_
  refine li_iconst 0 dX0_weigh_2 (by decide) ?_
  refine li_istore [(4, .int 0), (3, .int 0), (0, .ref (Z.2.2 c)), (1, .int p1), (2, .int p2)] dX0_weigh_3 (by decide) rfl ?_
  refine li_iconst 0 dX0_weigh_5 (by decide) ?_
  refine li_istore [(5, .int 0), (4, .int 0), (3, .int 0), (0, .ref (Z.2.2 c)), (1, .int p1), (2, .int p2)] dX0_weigh_6 (by decide) rfl ?_
  have L8 : ∀ (n : Nat) (x1 : Int32) (x2 : Int32) (x3 : Int32) (M4 : li_M), (2147483647 - (x1 : Int32).toInt).toNat < n → li_fr (fun i => i = c) M0 M4 → li_T l Z YX0_weigh d 8 [(5, .int x1), (4, .int x2), (3, .int x3), (0, .ref (Z.2.2 c)), (1, .int p1), (2, .int p2)] [] M4 (li_SV (fun i => i = c) M0) := by
    intro n
    induction n with
    | zero => intro x1 x2 x3 M4 hn; exact absurd hn (Nat.not_lt_zero _)
    | succ n ih8 =>
      intro x1 x2 x3 M4 hn hf
      refine li_iload 0 dX0_weigh_8 rfl ?_
      refine li_aload_n 3 dX0_weigh_10 rfl ?_
      refine li_getr (k := 0) (N := 8) (T := TX0) (C0 := RX0) dX0_weigh_11 (snC0 hc) (shC0 hc) rfl rfl (by decide) (by decide) li_in0 w_368 ?_
      refine li_geti (k := 1) (N := 9) (T := TX8) (C0 := RX8) dX0_weigh_14 (by decide) sh_5 rfl rfl (by decide) li_in8 w_181 ?_
      refine li_top (fun x5 ex5 => ?_)
      refine li_icmp_ge 64 dX0_weigh_17 (by decide) (fun c6 => ?_) (fun c6 => ?_)
      · refine li_iload 1 dX0_weigh_64 rfl ?_
        refine li_aload_n 3 dX0_weigh_66 rfl ?_
        refine li_geti (k := 7) (N := 8) (T := TX0) (C0 := RX0) dX0_weigh_67 (snC0 hc) (shC0 hc) rfl rfl (by decide) li_in0 w_379 ?_
        refine li_top (fun x7 ex7 => ?_)
        have J95 : ∀ (x9 : Int32) (M10 : li_M), li_fr (fun i => i = c) M0 M10 → li_T l Z YX0_weigh d 95 [(5, .int x1), (4, .int x2), (3, .int x3), (0, .ref (Z.2.2 c)), (1, .int p1), (2, .int p2)] [.int x9] M10 (li_SV (fun i => i = c) M0) := by
          intro x9 M10 hf
          refine li_istore [(5, .int x9), (4, .int x2), (3, .int x3), (0, .ref (Z.2.2 c)), (1, .int p1), (2, .int p2)] dX0_weigh_95 (by decide) rfl ?_
          refine li_iload_n 2 dX0_weigh_97 rfl ?_
          refine li_iload_n 5 dX0_weigh_98 rfl ?_
          refine li_icmp_gt 123 dX0_weigh_99 (by decide) (fun c11 => ?_) (fun c11 => ?_)
          · exact li_vret dX0_weigh_123 rfl ⟨rfl, hf⟩
          · refine li_iload 0 dX0_weigh_102 rfl ?_
            refine li_if_eq 123 dX0_weigh_104 (by decide) (fun c12 => ?_) (fun c12 => ?_)
            · exact li_vret dX0_weigh_123 rfl ⟨rfl, hf⟩
            · refine li_aload_n 3 dX0_weigh_107 rfl ?_
              refine li_iload_n 4 dX0_weigh_108 rfl ?_
              refine li_puti (k := 5) (N := 8) (T := TX0) (C0 := RX0) dX0_weigh_109 (snC0 hc) (shC0 hc) rfl rfl (by decide) li_in0 tyX0_ok nmX0 rfl rfl rfl rfl w_375 ?_
              refine li_nm (fun M13 eM13 => ?_)
              have hf := li_fr_ui hf (show c = c by omega) eM13
              refine li_aload_n 3 dX0_weigh_112 rfl ?_
              refine li_iload_n 2 dX0_weigh_113 rfl ?_
              refine li_puti (k := 6) (N := 8) (T := TX0) (C0 := RX0) dX0_weigh_114 (snC0 hc) (shC0 hc) rfl rfl (by decide) li_in0 tyX0_ok nmX0 rfl rfl rfl rfl w_377 ?_
              refine li_nm (fun M14 eM14 => ?_)
              have hf := li_fr_ui hf (show c = c by omega) eM14
              refine li_aload_n 3 dX0_weigh_117 rfl ?_
              refine li_iload 1 dX0_weigh_118 rfl ?_
              refine li_puti (k := 7) (N := 8) (T := TX0) (C0 := RX0) dX0_weigh_120 (snC0 hc) (shC0 hc) rfl rfl (by decide) li_in0 tyX0_ok nmX0 rfl rfl rfl rfl w_379 ?_
              refine li_nm (fun M15 eM15 => ?_)
              have hf := li_fr_ui hf (show c = c by omega) eM15
              exact li_vret dX0_weigh_123 rfl ⟨rfl, hf⟩
        refine li_icmp_gt 90 dX0_weigh_70 (by decide) (fun c8 => ?_) (fun c8 => ?_)
        · refine li_iconst 1 dX0_weigh_90 (by decide) ?_
          refine li_goto 95 dX0_weigh_91 (by decide) ?_
          refine li_pick [0, 1, 2, 3, 4, 5] [(5, .int x1), (4, .int x2), (3, .int x3), (0, .ref (Z.2.2 c)), (1, .int p1), (2, .int p2)] rfl ?_
          exact J95 1 M4 hf
        · refine li_iload 1 dX0_weigh_73 rfl ?_
          refine li_aload_n 3 dX0_weigh_75 rfl ?_
          refine li_geti (k := 7) (N := 8) (T := TX0) (C0 := RX0) dX0_weigh_76 (snC0 hc) (shC0 hc) rfl rfl (by decide) li_in0 w_379 ?_
          refine li_top (fun x16 ex16 => ?_)
          refine li_icmp_ne 94 dX0_weigh_79 (by decide) (fun c17 => ?_) (fun c17 => ?_)
          · refine li_iconst 0 dX0_weigh_94 (by decide) ?_
            refine li_pick [0, 1, 2, 3, 4, 5] [(5, .int x1), (4, .int x2), (3, .int x3), (0, .ref (Z.2.2 c)), (1, .int p1), (2, .int p2)] rfl ?_
            exact J95 0 M4 hf
          · refine li_iload_n 2 dX0_weigh_82 rfl ?_
            refine li_aload_n 3 dX0_weigh_83 rfl ?_
            refine li_geti (k := 6) (N := 8) (T := TX0) (C0 := RX0) dX0_weigh_84 (snC0 hc) (shC0 hc) rfl rfl (by decide) li_in0 w_377 ?_
            refine li_top (fun x18 ex18 => ?_)
            refine li_icmp_ge 94 dX0_weigh_87 (by decide) (fun c19 => ?_) (fun c19 => ?_)
            · refine li_iconst 0 dX0_weigh_94 (by decide) ?_
              refine li_pick [0, 1, 2, 3, 4, 5] [(5, .int x1), (4, .int x2), (3, .int x3), (0, .ref (Z.2.2 c)), (1, .int p1), (2, .int p2)] rfl ?_
              exact J95 0 M4 hf
            · refine li_iconst 1 dX0_weigh_90 (by decide) ?_
              refine li_goto 95 dX0_weigh_91 (by decide) ?_
              refine li_pick [0, 1, 2, 3, 4, 5] [(5, .int x1), (4, .int x2), (3, .int x3), (0, .ref (Z.2.2 c)), (1, .int p1), (2, .int p2)] rfl ?_
              exact J95 1 M4 hf
      · refine li_iload_n 4 dX0_weigh_20 rfl ?_
        refine li_iload 0 dX0_weigh_21 rfl ?_
        refine li_callN (n := 2) (As := [.int p1, .int x1]) dX0_weigh_23 (k_X11_holds (d - 1) (by omega) p1 x1 M4) (by omega) (Nat.le_of_ble_eq_true rfl) nw_24 w_857 w_101 w_858 (by decide +kernel) rfl rfl (Nat.le_of_ble_eq_true rfl) (fun r M21 h22 => ?_)
        obtain ⟨⟨x20, rfl, bx20⟩, h22⟩ := h22
        have hf := li_fr_trans hf h22 (fun i h => False.elim h)
        have J58 : ∀ (x24 : Int32) (x25 : Int32) (M26 : li_M), li_fr (fun i => i = c) M0 M26 → li_T l Z YX0_weigh d 58 [(5, .int x1), (4, .int x24), (3, .int x25), (0, .ref (Z.2.2 c)), (1, .int p1), (2, .int p2)] [] M26 (li_SV (fun i => i = c) M0) := by
          intro x24 x25 M26 hf
          obtain ⟨x27, ex27⟩ : ∃ y : Int32, y = x1 + 1 := ⟨_, rfl⟩
          refine li_iinc 0 [(5, .int x27), (4, .int x24), (3, .int x25), (0, .ref (Z.2.2 c)), (1, .int p1), (2, .int p2)] x27 dX0_weigh_58 rfl (by rw [ex27]; rfl) (by decide) rfl ?_
          refine li_goto 8 dX0_weigh_61 (by decide) ?_
          refine li_pick [0, 1, 2, 3, 4, 5] [(5, .int x27), (4, .int x24), (3, .int x25), (0, .ref (Z.2.2 c)), (1, .int p1), (2, .int p2)] rfl ?_
          exact ih8 x27 x24 x25 M26 (by have h9 := li_up (li_gt c6); rw [← ex27] at h9; omega) hf
        refine li_if_eq 58 dX0_weigh_26 (by decide) (fun c23 => ?_) (fun c23 => ?_)
        · refine li_pick [0, 1, 2, 3, 4, 5] [(5, .int x1), (4, .int x2), (3, .int x3), (0, .ref (Z.2.2 c)), (1, .int p1), (2, .int p2)] rfl ?_
          exact J58 x2 x3 M21 hf
        · refine li_iload_n 2 dX0_weigh_29 rfl ?_
          refine li_aload_n 3 dX0_weigh_30 rfl ?_
          refine li_getr (k := 4) (N := 8) (T := TX0) (C0 := RX0) dX0_weigh_31 (snC0 hc) (shC0 hc) rfl rfl (lkC2 hc) (by decide) li_in0 w_373 ?_
          refine li_iload 0 dX0_weigh_34 rfl ?_
          refine li_callN (n := 2) (As := [.ref (Z.2.2 (c + 2)), .int x1]) dX0_weigh_36 (k_X11_at (d - 1) (by omega) (snC2 hc) (shC2 hc) (by decide) x1 M21) (by omega) (Nat.le_of_ble_eq_true rfl) nw_16 w_569 w_101 w_570 (by decide +kernel) rfl rfl (Nat.le_of_ble_eq_true rfl) (fun r M29 h30 => ?_)
          obtain ⟨⟨x28, rfl⟩, h30⟩ := h30
          have hf := li_fr_trans hf h30 (fun i h => False.elim h)
          refine li_iadd dX0_weigh_39 ?_
          refine li_top (fun x31 ex31 => ?_)
          refine li_istore_n [(3, .int x31), (5, .int x1), (4, .int x2), (0, .ref (Z.2.2 c)), (1, .int p1), (2, .int p2)] dX0_weigh_40 (by decide) rfl ?_
          refine li_iload 2 dX0_weigh_41 rfl ?_
          refine li_aload_n 3 dX0_weigh_43 rfl ?_
          refine li_getr (k := 0) (N := 8) (T := TX0) (C0 := RX0) dX0_weigh_44 (snC0 hc) (shC0 hc) rfl rfl (by decide) (by decide) li_in0 w_368 ?_
          refine li_getr (k := 8) (N := 9) (T := TX8) (C0 := RX8) dX0_weigh_47 (by decide) sh_5 rfl rfl (by decide) (by decide) li_in8 w_203 ?_
          refine li_iload 1 dX0_weigh_50 rfl ?_
          refine li_callN (n := 2) (As := [.ref (Z.2.2 12), .int x1]) dX0_weigh_52 (k_X11_at (d - 1) (by omega) (by decide) sh_12 (by decide) x1 M29) (by omega) (Nat.le_of_ble_eq_true rfl) nw_16 w_569 w_101 w_570 (by decide +kernel) rfl rfl (Nat.le_of_ble_eq_true rfl) (fun r M33 h34 => ?_)
          obtain ⟨⟨x32, rfl⟩, h34⟩ := h34
          have hf := li_fr_trans hf h34 (fun i h => False.elim h)
          refine li_iadd dX0_weigh_55 ?_
          refine li_top (fun x35 ex35 => ?_)
          refine li_istore [(4, .int x35), (3, .int x31), (5, .int x1), (0, .ref (Z.2.2 c)), (1, .int p1), (2, .int p2)] dX0_weigh_56 (by decide) rfl ?_
          refine li_pick [2, 0, 1, 3, 4, 5] [(5, .int x1), (4, .int x35), (3, .int x31), (0, .ref (Z.2.2 c)), (1, .int p1), (2, .int p2)] rfl ?_
          exact J58 x35 x31 M33 hf
  exact L8 _ 0 0 0 M0 (Nat.lt_succ_self _) hf
set_option maxRecDepth 100000 in
set_option maxHeartbeats 4000000 in
theorem k_X0_choose {l : Launch} {Z : li_Z} (d : Nat) (hd : 3 ≤ d) {c : Nat} (hc : li_co c) (p1 p2 : Int32) (M0 : li_M) : li_Met l Z YX0_choose d [.ref (Z.2.2 c), .int p1, .int p2] M0 (li_SV (fun i => i = c) M0) := by
  refine li_enter (by decide +kernel) (Nat.le_of_ble_eq_true rfl) ?_
  show li_T l Z YX0_choose d 0 [(0, .ref (Z.2.2 c)), (1, .int p1), (2, .int p2)] [] M0 _
  have hf : li_fr (fun i => i = c) M0 M0 := li_fr_refl
  refine li_aload_n 0 dX0_choose_0 rfl ?_
  refine li_iconst 0 dX0_choose_1 (by decide) ?_
  refine li_puti (k := 5) (N := 8) (T := TX0) (C0 := RX0) dX0_choose_2 (snC0 hc) (shC0 hc) rfl rfl (by decide) li_in0 tyX0_ok nmX0 rfl rfl rfl rfl w_375 ?_
  refine li_nm (fun M1 eM1 => ?_)
  have hf := li_fr_ui hf (show c = c by omega) eM1
  refine li_aload_n 0 dX0_choose_5 rfl ?_
  refine li_iconst 0 dX0_choose_6 (by decide) ?_
  refine li_puti (k := 6) (N := 8) (T := TX0) (C0 := RX0) dX0_choose_7 (snC0 hc) (shC0 hc) rfl rfl (by decide) li_in0 tyX0_ok nmX0 rfl rfl rfl rfl w_377 ?_
  refine li_nm (fun M2 eM2 => ?_)
  have hf := li_fr_ui hf (show c = c by omega) eM2
  refine li_aload_n 0 dX0_choose_10 rfl ?_
  refine li_iconst 0 dX0_choose_11 (by decide) ?_
  refine li_puti (k := 7) (N := 8) (T := TX0) (C0 := RX0) dX0_choose_12 (snC0 hc) (shC0 hc) rfl rfl (by decide) li_in0 tyX0_ok nmX0 rfl rfl rfl rfl w_379 ?_
  refine li_nm (fun M3 eM3 => ?_)
  have hf := li_fr_ui hf (show c = c by omega) eM3
  refine li_iconst 1 dX0_choose_15 (by decide) ?_
  refine li_istore_n [(3, .int 1), (0, .ref (Z.2.2 c)), (1, .int p1), (2, .int p2)] dX0_choose_16 (by decide) rfl ?_
  have L17 : ∀ (n : Nat) (x4 : Int32) (M5 : li_M), (2147483647 - (x4 : Int32).toInt).toNat < n → li_fr (fun i => i = c) M0 M5 → li_T l Z YX0_choose d 17 [(3, .int x4), (0, .ref (Z.2.2 c)), (1, .int p1), (2, .int p2)] [] M5 (li_SV (fun i => i = c) M0) := by
    intro n
    induction n with
    | zero => intro x4 M5 hn; exact absurd hn (Nat.not_lt_zero _)
    | succ n ih17 =>
      intro x4 M5 hn hf
      refine li_iload_n 0 dX0_choose_17 rfl ?_
      refine li_sipush 256 dX0_choose_18 (by decide) ?_
      refine li_icmp_ge 44 dX0_choose_21 (by decide) (fun c6 => ?_) (fun c6 => ?_)
      · exact li_vret dX0_choose_44 rfl ⟨rfl, hf⟩
      · refine li_iload_n 0 dX0_choose_24 rfl ?_
        refine li_iload_n 2 dX0_choose_25 rfl ?_
        refine li_iconst (-1) dX0_choose_26 (by decide) ?_
        refine li_ixor dX0_choose_27 ?_
        refine li_top (fun x7 ex7 => ?_)
        refine li_iand dX0_choose_28 ?_
        refine li_top (fun x8 ex8 => ?_)
        have J38 : ∀  (M10 : li_M), li_fr (fun i => i = c) M0 M10 → li_T l Z YX0_choose d 38 [(3, .int x4), (0, .ref (Z.2.2 c)), (1, .int p1), (2, .int p2)] [] M10 (li_SV (fun i => i = c) M0) := by
          intro  M10 hf
          obtain ⟨x11, ex11⟩ : ∃ y : Int32, y = x4 + 1 := ⟨_, rfl⟩
          refine li_iinc 0 [(3, .int x11), (0, .ref (Z.2.2 c)), (1, .int p1), (2, .int p2)] x11 dX0_choose_38 rfl (by rw [ex11]; rfl) (by decide) rfl ?_
          refine li_goto 17 dX0_choose_41 (by decide) ?_
          refine li_pick [0, 1, 2, 3] [(3, .int x11), (0, .ref (Z.2.2 c)), (1, .int p1), (2, .int p2)] rfl ?_
          exact ih17 x11 M10 (by have h9 := li_up (li_gt c6); rw [← ex11] at h9; omega) hf
        refine li_if_ne 38 dX0_choose_29 (by decide) (fun c9 => ?_) (fun c9 => ?_)
        · refine li_pick [0, 1, 2, 3] [(3, .int x4), (0, .ref (Z.2.2 c)), (1, .int p1), (2, .int p2)] rfl ?_
          exact J38  M5 hf
        · refine li_aload_n 1 dX0_choose_32 rfl ?_
          refine li_iload_n 0 dX0_choose_33 rfl ?_
          refine li_iload_n 3 dX0_choose_34 rfl ?_
          refine li_callV (n := 2) (As := [.int x4, .int p2]) dX0_choose_35 (k_X0_weigh (d - 1) (by omega) hc x4 p2 M5) (by omega) (Nat.le_of_ble_eq_true rfl) w_1017 w_1019 w_24 w_109 w_1020 (by decide +kernel) rfl (snC0 hc) (shC0 hc) rfl rfl (Nat.le_of_ble_eq_true rfl) (fun r M13 h14 => ?_)
          obtain ⟨rfl, h14⟩ := h14
          have hf := li_fr_trans hf h14 (fun i (h : i = c) => (show i = c by omega))
          refine li_pick [0, 1, 2, 3] [(3, .int x4), (0, .ref (Z.2.2 c)), (1, .int p1), (2, .int p2)] rfl ?_
          exact J38  M13 hf
  exact L17 _ 1 M3 (Nat.lt_succ_self _) hf
set_option maxRecDepth 100000 in
set_option maxHeartbeats 4000000 in
theorem k_X0_chooseFor {l : Launch} {Z : li_Z} (d : Nat) (hd : 5 ≤ d) {c : Nat} (hc : li_co c) (p1 : Int32) (M0 : li_M) : li_Met l Z YX0_chooseFor d [.ref (Z.2.2 c), .int p1] M0 (li_SV (fun i => i = c) M0) := by
  refine li_enter (by decide +kernel) (Nat.le_of_ble_eq_true rfl) ?_
  show li_T l Z YX0_chooseFor d 0 [(0, .ref (Z.2.2 c)), (1, .int p1)] [] M0 _
  have hf : li_fr (fun i => i = c) M0 M0 := li_fr_refl
  refine li_aload_n 0 dX0_chooseFor_0 rfl ?_
  refine li_aload_n 0 dX0_chooseFor_1 rfl ?_
  refine li_iload_n 1 dX0_chooseFor_2 rfl ?_
  refine li_callV (n := 1) (As := [.int p1]) dX0_chooseFor_3 (k_X0_openThingsOf (d - 1) (by omega) hc p1 M0) (by omega) (Nat.le_of_ble_eq_true rfl) w_999 w_1000 w_1001 w_109 w_1002 (by decide +kernel) rfl (snC0 hc) (shC0 hc) rfl rfl (Nat.le_of_ble_eq_true rfl) (fun r M2 h3 => ?_)
  obtain ⟨⟨x1, rfl⟩, h3⟩ := h3
  have hf := li_fr_trans hf h3 (fun i h => False.elim h)
  refine li_aload_n 0 dX0_chooseFor_6 rfl ?_
  refine li_getr (k := 1) (N := 8) (T := TX0) (C0 := RX0) dX0_chooseFor_7 (snC0 hc) (shC0 hc) rfl rfl (by decide) (by decide) li_in0 w_369 ?_
  refine li_getr (k := 4) (N := 11) (T := TX4) (C0 := RX4) dX0_chooseFor_10 (by decide) sh_13 rfl rfl (by decide) (by decide) li_in4 w_242 ?_
  refine li_iload_n 1 dX0_chooseFor_13 rfl ?_
  refine li_callN (n := 2) (As := [.ref (Z.2.2 14), .int p1]) dX0_chooseFor_14 (k_X11_at (d - 1) (by omega) (by decide) sh_14 (by decide) p1 M2) (by omega) (Nat.le_of_ble_eq_true rfl) nw_16 w_569 w_101 w_570 (by decide +kernel) rfl rfl (Nat.le_of_ble_eq_true rfl) (fun r M5 h6 => ?_)
  obtain ⟨⟨x4, rfl⟩, h6⟩ := h6
  have hf := li_fr_trans hf h6 (fun i h => False.elim h)
  refine li_callV (n := 2) (As := [.int x1, .int x4]) dX0_chooseFor_17 (k_X0_choose (d - 1) (by omega) hc x1 x4 M5) (by omega) (Nat.le_of_ble_eq_true rfl) w_1013 w_1014 w_1015 w_109 w_1016 (by decide +kernel) rfl (snC0 hc) (shC0 hc) rfl rfl (Nat.le_of_ble_eq_true rfl) (fun r M8 h9 => ?_)
  obtain ⟨rfl, h9⟩ := h9
  have hf := li_fr_trans hf h9 (fun i (h : i = c) => (show i = c by omega))
  exact li_vret dX0_chooseFor_20 rfl ⟨rfl, hf⟩
set_option maxRecDepth 100000 in
set_option maxHeartbeats 4000000 in
theorem k_X0_firstUnpayable {l : Launch} {Z : li_Z} (d : Nat) (hd : 4 ≤ d) {c : Nat} (hc : li_co c) (M0 : li_M) : li_Met l Z YX0_firstUnpayable d [.ref (Z.2.2 c)] M0 (li_SI (fun i => False) M0) := by
  refine li_enter (by decide +kernel) (Nat.le_of_ble_eq_true rfl) ?_
  show li_T l Z YX0_firstUnpayable d 0 [(0, .ref (Z.2.2 c))] [] M0 _
  have hf : li_fr (fun i => False) M0 M0 := li_fr_refl
  refine li_aload_n 0 dX0_firstUnpayable_0 rfl ?_
  refine li_callV (n := 0) (As := []) dX0_firstUnpayable_1 (k_X0_openThings (d - 1) (by omega) hc M0) (by omega) (Nat.le_of_ble_eq_true rfl) w_1003 w_1004 w_1005 w_109 w_1006 (by decide +kernel) rfl (snC0 hc) (shC0 hc) rfl rfl (Nat.le_of_ble_eq_true rfl) (fun r M2 h3 => ?_)
  obtain ⟨⟨x1, rfl⟩, h3⟩ := h3
  have hf := li_fr_trans hf h3 (fun i h => False.elim h)
  refine li_istore_n [(1, .int x1), (0, .ref (Z.2.2 c))] dX0_firstUnpayable_4 (by decide) rfl ?_
  refine li_iconst (-1) dX0_firstUnpayable_5 (by decide) ?_
  refine li_istore_n [(2, .int (-1)), (1, .int x1), (0, .ref (Z.2.2 c))] dX0_firstUnpayable_6 (by decide) rfl ?_
  refine li_iconst 0 dX0_firstUnpayable_7 (by decide) ?_
  refine li_istore_n [(3, .int 0), (2, .int (-1)), (1, .int x1), (0, .ref (Z.2.2 c))] dX0_firstUnpayable_8 (by decide) rfl ?_
  have L9 : ∀ (n : Nat) (x4 : Int32) (x5 : Int32) (M6 : li_M), (2147483647 - (x4 : Int32).toInt).toNat < n → li_fr (fun i => False) M0 M6 → li_T l Z YX0_firstUnpayable d 9 [(3, .int x4), (2, .int x5), (1, .int x1), (0, .ref (Z.2.2 c))] [] M6 (li_SI (fun i => False) M0) := by
    intro n
    induction n with
    | zero => intro x4 x5 M6 hn; exact absurd hn (Nat.not_lt_zero _)
    | succ n ih9 =>
      intro x4 x5 M6 hn hf
      refine li_iload_n 0 dX0_firstUnpayable_9 rfl ?_
      refine li_aload_n 3 dX0_firstUnpayable_10 rfl ?_
      refine li_getr (k := 0) (N := 8) (T := TX0) (C0 := RX0) dX0_firstUnpayable_11 (snC0 hc) (shC0 hc) rfl rfl (by decide) (by decide) li_in0 w_368 ?_
      refine li_geti (k := 1) (N := 9) (T := TX8) (C0 := RX8) dX0_firstUnpayable_14 (by decide) sh_5 rfl rfl (by decide) li_in8 w_181 ?_
      refine li_top (fun x7 ex7 => ?_)
      refine li_icmp_ge 109 dX0_firstUnpayable_17 (by decide) (fun c8 => ?_) (fun c8 => ?_)
      · refine li_iload_n 1 dX0_firstUnpayable_109 rfl ?_
        exact li_iret dX0_firstUnpayable_110 rfl rfl ⟨⟨_, rfl⟩, hf⟩
      · refine li_iload_n 1 dX0_firstUnpayable_20 rfl ?_
        have J54 : ∀ (x10 : Int32) (M11 : li_M), li_fr (fun i => False) M0 M11 → li_T l Z YX0_firstUnpayable d 54 [(3, .int x4), (2, .int x5), (1, .int x1), (0, .ref (Z.2.2 c))] [.int x10] M11 (li_SI (fun i => False) M0) := by
          intro x10 M11 hf
          refine li_istore [(4, .int x10), (3, .int x4), (2, .int x5), (1, .int x1), (0, .ref (Z.2.2 c))] dX0_firstUnpayable_54 (by decide) rfl ?_
          refine li_iload 0 dX0_firstUnpayable_56 rfl ?_
          have J103 : ∀ (x13 : Int32) (M14 : li_M), li_fr (fun i => False) M0 M14 → li_T l Z YX0_firstUnpayable d 103 [(4, .int x10), (3, .int x4), (2, .int x13), (1, .int x1), (0, .ref (Z.2.2 c))] [] M14 (li_SI (fun i => False) M0) := by
            intro x13 M14 hf
            obtain ⟨x15, ex15⟩ : ∃ y : Int32, y = x4 + 1 := ⟨_, rfl⟩
            refine li_iinc 1 [(3, .int x15), (4, .int x10), (2, .int x13), (1, .int x1), (0, .ref (Z.2.2 c))] x15 dX0_firstUnpayable_103 rfl (by rw [ex15]; rfl) (by decide) rfl ?_
            refine li_goto 9 dX0_firstUnpayable_106 (by decide) ?_
            refine li_pick [0, 2, 3, 4] [(3, .int x15), (2, .int x13), (1, .int x1), (0, .ref (Z.2.2 c))] rfl ?_
            exact ih9 x15 x13 M14 (by have h9 := li_up (li_gt c8); rw [← ex15] at h9; omega) hf
          refine li_if_eq 103 dX0_firstUnpayable_58 (by decide) (fun c12 => ?_) (fun c12 => ?_)
          · refine li_pick [0, 1, 2, 3, 4] [(4, .int x10), (3, .int x4), (2, .int x5), (1, .int x1), (0, .ref (Z.2.2 c))] rfl ?_
            exact J103 x5 M11 hf
          · refine li_iload_n 3 dX0_firstUnpayable_61 rfl ?_
            refine li_iload_n 1 dX0_firstUnpayable_62 rfl ?_
            refine li_callN (n := 2) (As := [.int x1, .int x4]) dX0_firstUnpayable_63 (k_X11_holds (d - 1) (by omega) x1 x4 M11) (by omega) (Nat.le_of_ble_eq_true rfl) nw_24 w_857 w_101 w_858 (by decide +kernel) rfl rfl (Nat.le_of_ble_eq_true rfl) (fun r M17 h18 => ?_)
            obtain ⟨⟨x16, rfl, bx16⟩, h18⟩ := h18
            have hf := li_fr_trans hf h18 (fun i h => False.elim h)
            refine li_if_eq 103 dX0_firstUnpayable_66 (by decide) (fun c19 => ?_) (fun c19 => ?_)
            · refine li_pick [0, 1, 2, 3, 4] [(4, .int x10), (3, .int x4), (2, .int x5), (1, .int x1), (0, .ref (Z.2.2 c))] rfl ?_
              exact J103 x5 M17 hf
            · refine li_aload_n 4 dX0_firstUnpayable_69 rfl ?_
              refine li_getr (k := 4) (N := 8) (T := TX0) (C0 := RX0) dX0_firstUnpayable_70 (snC0 hc) (shC0 hc) rfl rfl (lkC2 hc) (by decide) li_in0 w_373 ?_
              refine li_iload_n 1 dX0_firstUnpayable_73 rfl ?_
              refine li_callN (n := 2) (As := [.ref (Z.2.2 (c + 2)), .int x4]) dX0_firstUnpayable_74 (k_X11_at (d - 1) (by omega) (snC2 hc) (shC2 hc) (by decide) x4 M17) (by omega) (Nat.le_of_ble_eq_true rfl) nw_16 w_569 w_101 w_570 (by decide +kernel) rfl rfl (Nat.le_of_ble_eq_true rfl) (fun r M21 h22 => ?_)
              obtain ⟨⟨x20, rfl⟩, h22⟩ := h22
              have hf := li_fr_trans hf h22 (fun i h => False.elim h)
              refine li_aload_n 4 dX0_firstUnpayable_77 rfl ?_
              refine li_getr (k := 1) (N := 8) (T := TX0) (C0 := RX0) dX0_firstUnpayable_78 (snC0 hc) (shC0 hc) rfl rfl (by decide) (by decide) li_in0 w_369 ?_
              refine li_getr (k := 4) (N := 11) (T := TX4) (C0 := RX4) dX0_firstUnpayable_81 (by decide) sh_13 rfl rfl (by decide) (by decide) li_in4 w_242 ?_
              refine li_aload_n 4 dX0_firstUnpayable_84 rfl ?_
              refine li_getr (k := 0) (N := 8) (T := TX0) (C0 := RX0) dX0_firstUnpayable_85 (snC0 hc) (shC0 hc) rfl rfl (by decide) (by decide) li_in0 w_368 ?_
              refine li_getr (k := 4) (N := 9) (T := TX8) (C0 := RX8) dX0_firstUnpayable_88 (by decide) sh_5 rfl rfl (by decide) (by decide) li_in8 w_189 ?_
              refine li_iload_n 1 dX0_firstUnpayable_91 rfl ?_
              refine li_callN (n := 2) (As := [.ref (Z.2.2 8), .int x4]) dX0_firstUnpayable_92 (k_X11_at (d - 1) (by omega) (by decide) sh_8 (by decide) x4 M21) (by omega) (Nat.le_of_ble_eq_true rfl) nw_16 w_569 w_101 w_570 (by decide +kernel) rfl rfl (Nat.le_of_ble_eq_true rfl) (fun r M24 h25 => ?_)
              obtain ⟨⟨x23, rfl⟩, h25⟩ := h25
              have hf := li_fr_trans hf h25 (fun i h => False.elim h)
              refine li_callN (n := 2) (As := [.ref (Z.2.2 14), .int x23]) dX0_firstUnpayable_95 (k_X11_at (d - 1) (by omega) (by decide) sh_14 (by decide) x23 M24) (by omega) (Nat.le_of_ble_eq_true rfl) nw_16 w_569 w_101 w_570 (by decide +kernel) rfl rfl (Nat.le_of_ble_eq_true rfl) (fun r M27 h28 => ?_)
              obtain ⟨⟨x26, rfl⟩, h28⟩ := h28
              have hf := li_fr_trans hf h28 (fun i h => False.elim h)
              refine li_icmp_le 103 dX0_firstUnpayable_98 (by decide) (fun c29 => ?_) (fun c29 => ?_)
              · refine li_pick [0, 1, 2, 3, 4] [(4, .int x10), (3, .int x4), (2, .int x5), (1, .int x1), (0, .ref (Z.2.2 c))] rfl ?_
                exact J103 x5 M27 hf
              · refine li_iload_n 1 dX0_firstUnpayable_101 rfl ?_
                refine li_istore_n [(2, .int x4), (4, .int x10), (3, .int x4), (1, .int x1), (0, .ref (Z.2.2 c))] dX0_firstUnpayable_102 (by decide) rfl ?_
                refine li_pick [1, 2, 0, 3, 4] [(4, .int x10), (3, .int x4), (2, .int x4), (1, .int x1), (0, .ref (Z.2.2 c))] rfl ?_
                exact J103 x4 M27 hf
        refine li_if_lt 49 dX0_firstUnpayable_21 (by decide) (fun c9 => ?_) (fun c9 => ?_)
        · refine li_iconst 1 dX0_firstUnpayable_49 (by decide) ?_
          refine li_goto 54 dX0_firstUnpayable_50 (by decide) ?_
          refine li_pick [0, 1, 2, 3] [(3, .int x4), (2, .int x5), (1, .int x1), (0, .ref (Z.2.2 c))] rfl ?_
          exact J54 1 M6 hf
        · refine li_aload_n 3 dX0_firstUnpayable_24 rfl ?_
          refine li_getr (k := 0) (N := 8) (T := TX0) (C0 := RX0) dX0_firstUnpayable_25 (snC0 hc) (shC0 hc) rfl rfl (by decide) (by decide) li_in0 w_368 ?_
          refine li_getr (k := 7) (N := 9) (T := TX8) (C0 := RX8) dX0_firstUnpayable_28 (by decide) sh_5 rfl rfl (by decide) (by decide) li_in8 w_200 ?_
          refine li_iload_n 0 dX0_firstUnpayable_31 rfl ?_
          refine li_callN (n := 2) (As := [.ref (Z.2.2 11), .int x4]) dX0_firstUnpayable_32 (k_X11_at (d - 1) (by omega) (by decide) sh_11 (by decide) x4 M6) (by omega) (Nat.le_of_ble_eq_true rfl) nw_16 w_569 w_101 w_570 (by decide +kernel) rfl rfl (Nat.le_of_ble_eq_true rfl) (fun r M31 h32 => ?_)
          obtain ⟨⟨x30, rfl⟩, h32⟩ := h32
          have hf := li_fr_trans hf h32 (fun i h => False.elim h)
          refine li_aload_n 3 dX0_firstUnpayable_35 rfl ?_
          refine li_getr (k := 0) (N := 8) (T := TX0) (C0 := RX0) dX0_firstUnpayable_36 (snC0 hc) (shC0 hc) rfl rfl (by decide) (by decide) li_in0 w_368 ?_
          refine li_getr (k := 7) (N := 9) (T := TX8) (C0 := RX8) dX0_firstUnpayable_39 (by decide) sh_5 rfl rfl (by decide) (by decide) li_in8 w_200 ?_
          refine li_iload_n 1 dX0_firstUnpayable_42 rfl ?_
          refine li_callN (n := 2) (As := [.ref (Z.2.2 11), .int x5]) dX0_firstUnpayable_43 (k_X11_at (d - 1) (by omega) (by decide) sh_11 (by decide) x5 M31) (by omega) (Nat.le_of_ble_eq_true rfl) nw_16 w_569 w_101 w_570 (by decide +kernel) rfl rfl (Nat.le_of_ble_eq_true rfl) (fun r M34 h35 => ?_)
          obtain ⟨⟨x33, rfl⟩, h35⟩ := h35
          have hf := li_fr_trans hf h35 (fun i h => False.elim h)
          refine li_icmp_ge 53 dX0_firstUnpayable_46 (by decide) (fun c36 => ?_) (fun c36 => ?_)
          · refine li_iconst 0 dX0_firstUnpayable_53 (by decide) ?_
            refine li_pick [0, 1, 2, 3] [(3, .int x4), (2, .int x5), (1, .int x1), (0, .ref (Z.2.2 c))] rfl ?_
            exact J54 0 M34 hf
          · refine li_iconst 1 dX0_firstUnpayable_49 (by decide) ?_
            refine li_goto 54 dX0_firstUnpayable_50 (by decide) ?_
            refine li_pick [0, 1, 2, 3] [(3, .int x4), (2, .int x5), (1, .int x1), (0, .ref (Z.2.2 c))] rfl ?_
            exact J54 1 M34 hf
  exact L9 _ 0 (-1) M2 (Nat.lt_succ_self _) hf
