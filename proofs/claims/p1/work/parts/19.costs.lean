theorem w_109 : (Jvm.Cond.initialized "ClockForTalk$Costs") ∈ li_ws := li_mem 109 (by decide +kernel) (by decide +kernel)
theorem w_177 : (Jvm.Cond.fieldLink "ClockForTalk$Costs" (43 : Nat) "ClockForTalk$Town" "persons" "I") ∈ li_ws := li_mem 177 (by decide +kernel) (by decide +kernel)
theorem w_181 : (Jvm.Cond.fieldLink "ClockForTalk$Costs" (97 : Nat) "ClockForTalk$Town" "wishes" "I") ∈ li_ws := li_mem 181 (by decide +kernel) (by decide +kernel)
theorem w_189 : (Jvm.Cond.fieldLink "ClockForTalk$Costs" (80 : Nat) "ClockForTalk$Town" "who" "[I") ∈ li_ws := li_mem 189 (by decide +kernel) (by decide +kernel)
theorem w_192 : (Jvm.Cond.fieldLink "ClockForTalk$Costs" (90 : Nat) "ClockForTalk$Town" "whom" "[I") ∈ li_ws := li_mem 192 (by decide +kernel) (by decide +kernel)
theorem w_195 : (Jvm.Cond.fieldLink "ClockForTalk$Costs" (83 : Nat) "ClockForTalk$Town" "seconds" "[I") ∈ li_ws := li_mem 195 (by decide +kernel) (by decide +kernel)
theorem w_230 : (Jvm.Cond.fieldLink "ClockForTalk$Costs" (65 : Nat) "ClockForTalk$Ledger" "day" "I") ∈ li_ws := li_mem 230 (by decide +kernel) (by decide +kernel)
theorem w_242 : (Jvm.Cond.fieldLink "ClockForTalk$Costs" (60 : Nat) "ClockForTalk$Ledger" "clocks" "[I") ∈ li_ws := li_mem 242 (by decide +kernel) (by decide +kernel)
theorem w_318 : (Jvm.Cond.fieldLink "ClockForTalk$Costs" (51 : Nat) "ClockForTalk$Rule" "given" "[I") ∈ li_ws := li_mem 318 (by decide +kernel) (by decide +kernel)
theorem w_368 : (Jvm.Cond.fieldLink "ClockForTalk$Costs" (18 : Nat) "ClockForTalk$Costs" "town" "LClockForTalk$Town;") ∈ li_ws := li_mem 368 (by decide +kernel) (by decide +kernel)
theorem w_369 : (Jvm.Cond.fieldLink "ClockForTalk$Costs" (22 : Nat) "ClockForTalk$Costs" "ledger" "LClockForTalk$Ledger;") ∈ li_ws := li_mem 369 (by decide +kernel) (by decide +kernel)
theorem w_370 : (Jvm.Cond.fieldLink "ClockForTalk$Costs" (26 : Nat) "ClockForTalk$Costs" "law" "LClockForTalk$Rule;") ∈ li_ws := li_mem 370 (by decide +kernel) (by decide +kernel)
theorem w_371 : (Jvm.Cond.fieldLink "ClockForTalk$Costs" (9 : Nat) "ClockForTalk$Costs" "prices" "[I") ∈ li_ws := li_mem 371 (by decide +kernel) (by decide +kernel)
theorem w_373 : (Jvm.Cond.fieldLink "ClockForTalk$Costs" (15 : Nat) "ClockForTalk$Costs" "least" "[I") ∈ li_ws := li_mem 373 (by decide +kernel) (by decide +kernel)
theorem w_375 : (Jvm.Cond.fieldLink "ClockForTalk$Costs" (135 : Nat) "ClockForTalk$Costs" "chosen" "I") ∈ li_ws := li_mem 375 (by decide +kernel) (by decide +kernel)
theorem w_377 : (Jvm.Cond.fieldLink "ClockForTalk$Costs" (138 : Nat) "ClockForTalk$Costs" "chosenCost" "I") ∈ li_ws := li_mem 377 (by decide +kernel) (by decide +kernel)
theorem w_379 : (Jvm.Cond.fieldLink "ClockForTalk$Costs" (141 : Nat) "ClockForTalk$Costs" "chosenWorth" "I") ∈ li_ws := li_mem 379 (by decide +kernel) (by decide +kernel)
theorem w_804 : (Jvm.Cond.fieldLink "ClockForTalk$Costs" (36 : Nat) "ClockForTalk$Costs" "REACH" "[I") ∈ li_ws := li_mem 804 (by decide +kernel) (by decide +kernel)
theorem w_811 : (Jvm.Cond.methodLink "ClockForTalk$Costs" (86 : Nat) ({ cls := "ClockForTalk$Costs", name := "ofWord", desc := "(IIII)I" } : Jvm.MethodName)) ∈ li_ws := li_mem 811 (by decide +kernel) (by decide +kernel)
theorem w_812 : (Jvm.Cond.instanceMethod ({ cls := "ClockForTalk$Costs", name := "ofWord", desc := "(IIII)I" } : Jvm.MethodName)) ∈ li_ws := li_mem 812 (by decide +kernel) (by decide +kernel)
theorem w_813 : (Jvm.Cond.selects "ClockForTalk$Costs" ({ cls := "ClockForTalk$Costs", name := "ofWord", desc := "(IIII)I" } : Jvm.MethodName) ({ cls := "ClockForTalk$Costs", name := "ofWord", desc := "(IIII)I" } : Jvm.MethodName)) ∈ li_ws := li_mem 813 (by decide +kernel) (by decide +kernel)
theorem w_814 : (Jvm.Cond.code ({ cls := "ClockForTalk$Costs", name := "ofWord", desc := "(IIII)I" } : Jvm.MethodName) prog_2_method_4_code (5 : Nat) (Option.some Jvm.ClassFile.FieldType.int)) ∈ li_ws := li_mem 814 (by decide +kernel) (by decide +kernel)
theorem w_816 : (Jvm.Cond.methodLink "ClockForTalk$Costs" (68 : Nat) ({ cls := "ClockForTalk$Costs", name := "hearers", desc := "(II)I" } : Jvm.MethodName)) ∈ li_ws := li_mem 816 (by decide +kernel) (by decide +kernel)
theorem w_817 : (Jvm.Cond.instanceMethod ({ cls := "ClockForTalk$Costs", name := "hearers", desc := "(II)I" } : Jvm.MethodName)) ∈ li_ws := li_mem 817 (by decide +kernel) (by decide +kernel)
theorem w_818 : (Jvm.Cond.selects "ClockForTalk$Costs" ({ cls := "ClockForTalk$Costs", name := "hearers", desc := "(II)I" } : Jvm.MethodName) ({ cls := "ClockForTalk$Costs", name := "hearers", desc := "(II)I" } : Jvm.MethodName)) ∈ li_ws := li_mem 818 (by decide +kernel) (by decide +kernel)
theorem w_819 : (Jvm.Cond.code ({ cls := "ClockForTalk$Costs", name := "hearers", desc := "(II)I" } : Jvm.MethodName) prog_2_method_3_code (6 : Nat) (Option.some Jvm.ClassFile.FieldType.int)) ∈ li_ws := li_mem 819 (by decide +kernel) (by decide +kernel)
theorem w_820 : (Jvm.Cond.methodLink "ClockForTalk$Costs" (47 : Nat) ({ cls := "ClockForTalk$Town", name := "apart", desc := "(II)I" } : Jvm.MethodName)) ∈ li_ws := li_mem 820 (by decide +kernel) (by decide +kernel)
theorem w_821 : (Jvm.Cond.methodLink "ClockForTalk$Costs" (71 : Nat) ({ cls := "java/lang/Integer", name := "bitCount", desc := "(I)I" } : Jvm.MethodName)) ∈ li_ws := li_mem 821 (by decide +kernel) (by decide +kernel)
theorem w_827 : (Jvm.Cond.methodLink "ClockForTalk$Costs" (76 : Nat) ({ cls := "ClockForTalk$Rule", name := "evaluate", desc := "()I" } : Jvm.MethodName)) ∈ li_ws := li_mem 827 (by decide +kernel) (by decide +kernel)
theorem w_828 : (Jvm.Cond.instanceMethod ({ cls := "ClockForTalk$Rule", name := "evaluate", desc := "()I" } : Jvm.MethodName)) ∈ li_ws := li_mem 828 (by decide +kernel) (by decide +kernel)
theorem w_829 : (Jvm.Cond.selects "ClockForTalk$Rule" ({ cls := "ClockForTalk$Rule", name := "evaluate", desc := "()I" } : Jvm.MethodName) ({ cls := "ClockForTalk$Rule", name := "evaluate", desc := "()I" } : Jvm.MethodName)) ∈ li_ws := li_mem 829 (by decide +kernel) (by decide +kernel)
theorem w_830 : (Jvm.Cond.code ({ cls := "ClockForTalk$Rule", name := "evaluate", desc := "()I" } : Jvm.MethodName) prog_7_method_11_code (4 : Nat) (Option.some Jvm.ClassFile.FieldType.int)) ∈ li_ws := li_mem 830 (by decide +kernel) (by decide +kernel)
theorem w_968 : (Jvm.Cond.methodLink "ClockForTalk$Costs" (93 : Nat) ({ cls := "ClockForTalk$Costs", name := "cheapestWay", desc := "(III)I" } : Jvm.MethodName)) ∈ li_ws := li_mem 968 (by decide +kernel) (by decide +kernel)
theorem w_969 : (Jvm.Cond.instanceMethod ({ cls := "ClockForTalk$Costs", name := "cheapestWay", desc := "(III)I" } : Jvm.MethodName)) ∈ li_ws := li_mem 969 (by decide +kernel) (by decide +kernel)
theorem w_970 : (Jvm.Cond.selects "ClockForTalk$Costs" ({ cls := "ClockForTalk$Costs", name := "cheapestWay", desc := "(III)I" } : Jvm.MethodName) ({ cls := "ClockForTalk$Costs", name := "cheapestWay", desc := "(III)I" } : Jvm.MethodName)) ∈ li_ws := li_mem 970 (by decide +kernel) (by decide +kernel)
theorem w_971 : (Jvm.Cond.code ({ cls := "ClockForTalk$Costs", name := "cheapestWay", desc := "(III)I" } : Jvm.MethodName) prog_2_method_7_code (9 : Nat) (Option.some Jvm.ClassFile.FieldType.int)) ∈ li_ws := li_mem 971 (by decide +kernel) (by decide +kernel)
theorem w_1003 : (Jvm.Cond.methodLink "ClockForTalk$Costs" (122 : Nat) ({ cls := "ClockForTalk$Costs", name := "openThings", desc := "()I" } : Jvm.MethodName)) ∈ li_ws := li_mem 1003 (by decide +kernel) (by decide +kernel)
theorem w_1004 : (Jvm.Cond.instanceMethod ({ cls := "ClockForTalk$Costs", name := "openThings", desc := "()I" } : Jvm.MethodName)) ∈ li_ws := li_mem 1004 (by decide +kernel) (by decide +kernel)
theorem w_1005 : (Jvm.Cond.selects "ClockForTalk$Costs" ({ cls := "ClockForTalk$Costs", name := "openThings", desc := "()I" } : Jvm.MethodName) ({ cls := "ClockForTalk$Costs", name := "openThings", desc := "()I" } : Jvm.MethodName)) ∈ li_ws := li_mem 1005 (by decide +kernel) (by decide +kernel)
theorem w_1006 : (Jvm.Cond.code ({ cls := "ClockForTalk$Costs", name := "openThings", desc := "()I" } : Jvm.MethodName) prog_2_method_10_code (3 : Nat) (Option.some Jvm.ClassFile.FieldType.int)) ∈ li_ws := li_mem 1006 (by decide +kernel) (by decide +kernel)
theorem w_1014 : (Jvm.Cond.instanceMethod ({ cls := "ClockForTalk$Costs", name := "choose", desc := "(II)V" } : Jvm.MethodName)) ∈ li_ws := li_mem 1014 (by decide +kernel) (by decide +kernel)
theorem w_1015 : (Jvm.Cond.selects "ClockForTalk$Costs" ({ cls := "ClockForTalk$Costs", name := "choose", desc := "(II)V" } : Jvm.MethodName) ({ cls := "ClockForTalk$Costs", name := "choose", desc := "(II)V" } : Jvm.MethodName)) ∈ li_ws := li_mem 1015 (by decide +kernel) (by decide +kernel)
theorem w_1016 : (Jvm.Cond.code ({ cls := "ClockForTalk$Costs", name := "choose", desc := "(II)V" } : Jvm.MethodName) prog_2_method_13_code (4 : Nat) (Option.none : Option Jvm.ClassFile.FieldType)) ∈ li_ws := li_mem 1016 (by decide +kernel) (by decide +kernel)
theorem dX0_hearers_0 : decode cX0_hearers 0 = .ok (.getstatic 36, 3) := by decide +kernel
theorem dX0_hearers_3 : decode cX0_hearers 3 = .ok (.iload_n 2, 1) := by decide +kernel
theorem dX0_hearers_4 : decode cX0_hearers 4 = .ok (.invokestatic 39, 3) := by decide +kernel
theorem dX0_hearers_7 : decode cX0_hearers 7 = .ok (.istore_n 3, 1) := by decide +kernel
theorem dX0_hearers_8 : decode cX0_hearers 8 = .ok (.iconst 0, 1) := by decide +kernel
theorem dX0_hearers_9 : decode cX0_hearers 9 = .ok (.istore 4, 2) := by decide +kernel
theorem dX0_hearers_11 : decode cX0_hearers 11 = .ok (.iconst 0, 1) := by decide +kernel
theorem dX0_hearers_12 : decode cX0_hearers 12 = .ok (.istore 5, 2) := by decide +kernel
theorem dX0_hearers_14 : decode cX0_hearers 14 = .ok (.iload 5, 2) := by decide +kernel
theorem dX0_hearers_16 : decode cX0_hearers 16 = .ok (.aload_n 0, 1) := by decide +kernel
theorem dX0_hearers_17 : decode cX0_hearers 17 = .ok (.getfield 18, 3) := by decide +kernel
theorem dX0_hearers_20 : decode cX0_hearers 20 = .ok (.getfield 43, 3) := by decide +kernel
theorem dX0_hearers_23 : decode cX0_hearers 23 = .ok (.if_icmp .ge 38, 3) := by decide +kernel
theorem dX0_hearers_26 : decode cX0_hearers 26 = .ok (.iload 5, 2) := by decide +kernel
theorem dX0_hearers_28 : decode cX0_hearers 28 = .ok (.iload_n 1, 1) := by decide +kernel
theorem dX0_hearers_29 : decode cX0_hearers 29 = .ok (.if_icmp .eq 26, 3) := by decide +kernel
theorem dX0_hearers_32 : decode cX0_hearers 32 = .ok (.aload_n 0, 1) := by decide +kernel
theorem dX0_hearers_33 : decode cX0_hearers 33 = .ok (.getfield 18, 3) := by decide +kernel
theorem dX0_hearers_36 : decode cX0_hearers 36 = .ok (.iload_n 1, 1) := by decide +kernel
theorem dX0_hearers_37 : decode cX0_hearers 37 = .ok (.iload 5, 2) := by decide +kernel
theorem dX0_hearers_39 : decode cX0_hearers 39 = .ok (.invokevirtual 47, 3) := by decide +kernel
theorem dX0_hearers_42 : decode cX0_hearers 42 = .ok (.iload_n 3, 1) := by decide +kernel
theorem dX0_hearers_43 : decode cX0_hearers 43 = .ok (.if_icmp .gt 12, 3) := by decide +kernel
theorem dX0_hearers_46 : decode cX0_hearers 46 = .ok (.iload 4, 2) := by decide +kernel
theorem dX0_hearers_48 : decode cX0_hearers 48 = .ok (.iconst 1, 1) := by decide +kernel
theorem dX0_hearers_49 : decode cX0_hearers 49 = .ok (.iload 5, 2) := by decide +kernel
theorem dX0_hearers_51 : decode cX0_hearers 51 = .ok (.ishl, 1) := by decide +kernel
theorem dX0_hearers_52 : decode cX0_hearers 52 = .ok (.ior, 1) := by decide +kernel
theorem dX0_hearers_53 : decode cX0_hearers 53 = .ok (.istore 4, 2) := by decide +kernel
theorem dX0_hearers_55 : decode cX0_hearers 55 = .ok (.iinc 5 1, 3) := by decide +kernel
theorem dX0_hearers_58 : decode cX0_hearers 58 = .ok (.goto (-44), 3) := by decide +kernel
theorem dX0_hearers_61 : decode cX0_hearers 61 = .ok (.iload 4, 2) := by decide +kernel
theorem dX0_hearers_63 : decode cX0_hearers 63 = .ok (.ireturn, 1) := by decide +kernel
abbrev YX0_hearers : li_Y := (yX0_hearers, cX0_hearers, 6, (some .int))
theorem dX0_ofWord_0 : decode cX0_ofWord 0 = .ok (.aload_n 0, 1) := by decide +kernel
theorem dX0_ofWord_1 : decode cX0_ofWord 1 = .ok (.getfield 26, 3) := by decide +kernel
theorem dX0_ofWord_4 : decode cX0_ofWord 4 = .ok (.getfield 51, 3) := by decide +kernel
theorem dX0_ofWord_7 : decode cX0_ofWord 7 = .ok (.iconst 0, 1) := by decide +kernel
theorem dX0_ofWord_8 : decode cX0_ofWord 8 = .ok (.iload_n 2, 1) := by decide +kernel
theorem dX0_ofWord_9 : decode cX0_ofWord 9 = .ok (.invokestatic 56, 3) := by decide +kernel
theorem dX0_ofWord_12 : decode cX0_ofWord 12 = .ok (.aload_n 0, 1) := by decide +kernel
theorem dX0_ofWord_13 : decode cX0_ofWord 13 = .ok (.getfield 26, 3) := by decide +kernel
theorem dX0_ofWord_16 : decode cX0_ofWord 16 = .ok (.getfield 51, 3) := by decide +kernel
theorem dX0_ofWord_19 : decode cX0_ofWord 19 = .ok (.iconst 1, 1) := by decide +kernel
theorem dX0_ofWord_20 : decode cX0_ofWord 20 = .ok (.iload_n 3, 1) := by decide +kernel
theorem dX0_ofWord_21 : decode cX0_ofWord 21 = .ok (.invokestatic 56, 3) := by decide +kernel
theorem dX0_ofWord_24 : decode cX0_ofWord 24 = .ok (.aload_n 0, 1) := by decide +kernel
theorem dX0_ofWord_25 : decode cX0_ofWord 25 = .ok (.getfield 26, 3) := by decide +kernel
theorem dX0_ofWord_28 : decode cX0_ofWord 28 = .ok (.getfield 51, 3) := by decide +kernel
theorem dX0_ofWord_31 : decode cX0_ofWord 31 = .ok (.iconst 2, 1) := by decide +kernel
theorem dX0_ofWord_32 : decode cX0_ofWord 32 = .ok (.iload 4, 2) := by decide +kernel
theorem dX0_ofWord_34 : decode cX0_ofWord 34 = .ok (.invokestatic 56, 3) := by decide +kernel
theorem dX0_ofWord_37 : decode cX0_ofWord 37 = .ok (.aload_n 0, 1) := by decide +kernel
theorem dX0_ofWord_38 : decode cX0_ofWord 38 = .ok (.getfield 26, 3) := by decide +kernel
theorem dX0_ofWord_41 : decode cX0_ofWord 41 = .ok (.getfield 51, 3) := by decide +kernel
theorem dX0_ofWord_44 : decode cX0_ofWord 44 = .ok (.iconst 3, 1) := by decide +kernel
theorem dX0_ofWord_45 : decode cX0_ofWord 45 = .ok (.aload_n 0, 1) := by decide +kernel
theorem dX0_ofWord_46 : decode cX0_ofWord 46 = .ok (.getfield 22, 3) := by decide +kernel
theorem dX0_ofWord_49 : decode cX0_ofWord 49 = .ok (.getfield 60, 3) := by decide +kernel
theorem dX0_ofWord_52 : decode cX0_ofWord 52 = .ok (.iload_n 1, 1) := by decide +kernel
theorem dX0_ofWord_53 : decode cX0_ofWord 53 = .ok (.invokestatic 39, 3) := by decide +kernel
theorem dX0_ofWord_56 : decode cX0_ofWord 56 = .ok (.invokestatic 56, 3) := by decide +kernel
theorem dX0_ofWord_59 : decode cX0_ofWord 59 = .ok (.aload_n 0, 1) := by decide +kernel
theorem dX0_ofWord_60 : decode cX0_ofWord 60 = .ok (.getfield 26, 3) := by decide +kernel
theorem dX0_ofWord_63 : decode cX0_ofWord 63 = .ok (.getfield 51, 3) := by decide +kernel
theorem dX0_ofWord_66 : decode cX0_ofWord 66 = .ok (.iconst 4, 1) := by decide +kernel
theorem dX0_ofWord_67 : decode cX0_ofWord 67 = .ok (.aload_n 0, 1) := by decide +kernel
theorem dX0_ofWord_68 : decode cX0_ofWord 68 = .ok (.getfield 22, 3) := by decide +kernel
theorem dX0_ofWord_71 : decode cX0_ofWord 71 = .ok (.getfield 65, 3) := by decide +kernel
theorem dX0_ofWord_74 : decode cX0_ofWord 74 = .ok (.bipush 100, 2) := by decide +kernel
theorem dX0_ofWord_76 : decode cX0_ofWord 76 = .ok (.irem, 1) := by decide +kernel
theorem dX0_ofWord_77 : decode cX0_ofWord 77 = .ok (.invokestatic 56, 3) := by decide +kernel
theorem dX0_ofWord_80 : decode cX0_ofWord 80 = .ok (.aload_n 0, 1) := by decide +kernel
theorem dX0_ofWord_81 : decode cX0_ofWord 81 = .ok (.getfield 26, 3) := by decide +kernel
theorem dX0_ofWord_84 : decode cX0_ofWord 84 = .ok (.getfield 51, 3) := by decide +kernel
theorem dX0_ofWord_87 : decode cX0_ofWord 87 = .ok (.iconst 5, 1) := by decide +kernel
theorem dX0_ofWord_88 : decode cX0_ofWord 88 = .ok (.aload_n 0, 1) := by decide +kernel
theorem dX0_ofWord_89 : decode cX0_ofWord 89 = .ok (.iload_n 1, 1) := by decide +kernel
theorem dX0_ofWord_90 : decode cX0_ofWord 90 = .ok (.iload_n 3, 1) := by decide +kernel
theorem dX0_ofWord_91 : decode cX0_ofWord 91 = .ok (.invokevirtual 68, 3) := by decide +kernel
theorem dX0_ofWord_94 : decode cX0_ofWord 94 = .ok (.invokestatic 71, 3) := by decide +kernel
theorem dX0_ofWord_97 : decode cX0_ofWord 97 = .ok (.invokestatic 56, 3) := by decide +kernel
theorem dX0_ofWord_100 : decode cX0_ofWord 100 = .ok (.aload_n 0, 1) := by decide +kernel
theorem dX0_ofWord_101 : decode cX0_ofWord 101 = .ok (.getfield 26, 3) := by decide +kernel
theorem dX0_ofWord_104 : decode cX0_ofWord 104 = .ok (.invokevirtual 76, 3) := by decide +kernel
theorem dX0_ofWord_107 : decode cX0_ofWord 107 = .ok (.ireturn, 1) := by decide +kernel
abbrev YX0_ofWord : li_Y := (yX0_ofWord, cX0_ofWord, 5, (some .int))
theorem dX0_cheapestWay_0 : decode cX0_cheapestWay 0 = .ok (.aload_n 0, 1) := by decide +kernel
theorem dX0_cheapestWay_1 : decode cX0_cheapestWay 1 = .ok (.getfield 18, 3) := by decide +kernel
theorem dX0_cheapestWay_4 : decode cX0_cheapestWay 4 = .ok (.iload_n 1, 1) := by decide +kernel
theorem dX0_cheapestWay_5 : decode cX0_cheapestWay 5 = .ok (.iload_n 2, 1) := by decide +kernel
theorem dX0_cheapestWay_6 : decode cX0_cheapestWay 6 = .ok (.invokevirtual 47, 3) := by decide +kernel
theorem dX0_cheapestWay_9 : decode cX0_cheapestWay 9 = .ok (.istore 4, 2) := by decide +kernel
theorem dX0_cheapestWay_11 : decode cX0_cheapestWay 11 = .ok (.iconst 3, 1) := by decide +kernel
theorem dX0_cheapestWay_12 : decode cX0_cheapestWay 12 = .ok (.istore 5, 2) := by decide +kernel
theorem dX0_cheapestWay_14 : decode cX0_cheapestWay 14 = .ok (.sipush 1000, 3) := by decide +kernel
theorem dX0_cheapestWay_17 : decode cX0_cheapestWay 17 = .ok (.istore 6, 2) := by decide +kernel
theorem dX0_cheapestWay_19 : decode cX0_cheapestWay 19 = .ok (.iconst 0, 1) := by decide +kernel
theorem dX0_cheapestWay_20 : decode cX0_cheapestWay 20 = .ok (.istore 7, 2) := by decide +kernel
theorem dX0_cheapestWay_22 : decode cX0_cheapestWay 22 = .ok (.iload 7, 2) := by decide +kernel
theorem dX0_cheapestWay_24 : decode cX0_cheapestWay 24 = .ok (.iconst 4, 1) := by decide +kernel
theorem dX0_cheapestWay_25 : decode cX0_cheapestWay 25 = .ok (.if_icmp .ge 49, 3) := by decide +kernel
theorem dX0_cheapestWay_28 : decode cX0_cheapestWay 28 = .ok (.iload 4, 2) := by decide +kernel
theorem dX0_cheapestWay_30 : decode cX0_cheapestWay 30 = .ok (.getstatic 36, 3) := by decide +kernel
theorem dX0_cheapestWay_33 : decode cX0_cheapestWay 33 = .ok (.iload 7, 2) := by decide +kernel
theorem dX0_cheapestWay_35 : decode cX0_cheapestWay 35 = .ok (.invokestatic 39, 3) := by decide +kernel
theorem dX0_cheapestWay_38 : decode cX0_cheapestWay 38 = .ok (.if_icmp .gt 30, 3) := by decide +kernel
theorem dX0_cheapestWay_41 : decode cX0_cheapestWay 41 = .ok (.aload_n 0, 1) := by decide +kernel
theorem dX0_cheapestWay_42 : decode cX0_cheapestWay 42 = .ok (.iload_n 1, 1) := by decide +kernel
theorem dX0_cheapestWay_43 : decode cX0_cheapestWay 43 = .ok (.iload_n 3, 1) := by decide +kernel
theorem dX0_cheapestWay_44 : decode cX0_cheapestWay 44 = .ok (.iload 7, 2) := by decide +kernel
theorem dX0_cheapestWay_46 : decode cX0_cheapestWay 46 = .ok (.iload 4, 2) := by decide +kernel
theorem dX0_cheapestWay_48 : decode cX0_cheapestWay 48 = .ok (.invokevirtual 86, 3) := by decide +kernel
theorem dX0_cheapestWay_51 : decode cX0_cheapestWay 51 = .ok (.istore 8, 2) := by decide +kernel
theorem dX0_cheapestWay_53 : decode cX0_cheapestWay 53 = .ok (.iload 8, 2) := by decide +kernel
theorem dX0_cheapestWay_55 : decode cX0_cheapestWay 55 = .ok (.iload 6, 2) := by decide +kernel
theorem dX0_cheapestWay_57 : decode cX0_cheapestWay 57 = .ok (.if_icmp .ge 11, 3) := by decide +kernel
theorem dX0_cheapestWay_60 : decode cX0_cheapestWay 60 = .ok (.iload 8, 2) := by decide +kernel
theorem dX0_cheapestWay_62 : decode cX0_cheapestWay 62 = .ok (.istore 6, 2) := by decide +kernel
theorem dX0_cheapestWay_64 : decode cX0_cheapestWay 64 = .ok (.iload 7, 2) := by decide +kernel
theorem dX0_cheapestWay_66 : decode cX0_cheapestWay 66 = .ok (.istore 5, 2) := by decide +kernel
theorem dX0_cheapestWay_68 : decode cX0_cheapestWay 68 = .ok (.iinc 7 1, 3) := by decide +kernel
theorem dX0_cheapestWay_71 : decode cX0_cheapestWay 71 = .ok (.goto (-49), 3) := by decide +kernel
theorem dX0_cheapestWay_74 : decode cX0_cheapestWay 74 = .ok (.iload 5, 2) := by decide +kernel
theorem dX0_cheapestWay_76 : decode cX0_cheapestWay 76 = .ok (.ireturn, 1) := by decide +kernel
abbrev YX0_cheapestWay : li_Y := (yX0_cheapestWay, cX0_cheapestWay, 9, (some .int))
theorem dX0_leastWay_0 : decode cX0_leastWay 0 = .ok (.aload_n 0, 1) := by decide +kernel
theorem dX0_leastWay_1 : decode cX0_leastWay 1 = .ok (.aload_n 0, 1) := by decide +kernel
theorem dX0_leastWay_2 : decode cX0_leastWay 2 = .ok (.getfield 18, 3) := by decide +kernel
theorem dX0_leastWay_5 : decode cX0_leastWay 5 = .ok (.getfield 80, 3) := by decide +kernel
theorem dX0_leastWay_8 : decode cX0_leastWay 8 = .ok (.iload_n 1, 1) := by decide +kernel
theorem dX0_leastWay_9 : decode cX0_leastWay 9 = .ok (.invokestatic 39, 3) := by decide +kernel
theorem dX0_leastWay_12 : decode cX0_leastWay 12 = .ok (.aload_n 0, 1) := by decide +kernel
theorem dX0_leastWay_13 : decode cX0_leastWay 13 = .ok (.getfield 18, 3) := by decide +kernel
theorem dX0_leastWay_16 : decode cX0_leastWay 16 = .ok (.getfield 90, 3) := by decide +kernel
theorem dX0_leastWay_19 : decode cX0_leastWay 19 = .ok (.iload_n 1, 1) := by decide +kernel
theorem dX0_leastWay_20 : decode cX0_leastWay 20 = .ok (.invokestatic 39, 3) := by decide +kernel
theorem dX0_leastWay_23 : decode cX0_leastWay 23 = .ok (.aload_n 0, 1) := by decide +kernel
theorem dX0_leastWay_24 : decode cX0_leastWay 24 = .ok (.getfield 18, 3) := by decide +kernel
theorem dX0_leastWay_27 : decode cX0_leastWay 27 = .ok (.getfield 83, 3) := by decide +kernel
theorem dX0_leastWay_30 : decode cX0_leastWay 30 = .ok (.iload_n 1, 1) := by decide +kernel
theorem dX0_leastWay_31 : decode cX0_leastWay 31 = .ok (.invokestatic 39, 3) := by decide +kernel
theorem dX0_leastWay_34 : decode cX0_leastWay 34 = .ok (.invokevirtual 93, 3) := by decide +kernel
theorem dX0_leastWay_37 : decode cX0_leastWay 37 = .ok (.ireturn, 1) := by decide +kernel
abbrev YX0_leastWay : li_Y := (yX0_leastWay, cX0_leastWay, 2, (some .int))
theorem dX0_fill_0 : decode cX0_fill 0 = .ok (.iconst 0, 1) := by decide +kernel
theorem dX0_fill_1 : decode cX0_fill 1 = .ok (.istore_n 1, 1) := by decide +kernel
theorem dX0_fill_2 : decode cX0_fill 2 = .ok (.iload_n 1, 1) := by decide +kernel
theorem dX0_fill_3 : decode cX0_fill 3 = .ok (.aload_n 0, 1) := by decide +kernel
theorem dX0_fill_4 : decode cX0_fill 4 = .ok (.getfield 18, 3) := by decide +kernel
theorem dX0_fill_7 : decode cX0_fill 7 = .ok (.getfield 97, 3) := by decide +kernel
theorem dX0_fill_10 : decode cX0_fill 10 = .ok (.if_icmp .ge 86, 3) := by decide +kernel
theorem dX0_fill_96 : decode cX0_fill 96 = .ok (.return_, 1) := by decide +kernel
abbrev YX0_fill : li_Y := (yX0_fill, cX0_fill, 5, none)
theorem dX0_leastOfAll_0 : decode cX0_leastOfAll 0 = .ok (.iconst 0, 1) := by decide +kernel
theorem dX0_leastOfAll_1 : decode cX0_leastOfAll 1 = .ok (.istore_n 2, 1) := by decide +kernel
theorem dX0_leastOfAll_2 : decode cX0_leastOfAll 2 = .ok (.iconst 0, 1) := by decide +kernel
theorem dX0_leastOfAll_3 : decode cX0_leastOfAll 3 = .ok (.istore_n 3, 1) := by decide +kernel
theorem dX0_leastOfAll_4 : decode cX0_leastOfAll 4 = .ok (.iload_n 3, 1) := by decide +kernel
theorem dX0_leastOfAll_5 : decode cX0_leastOfAll 5 = .ok (.aload_n 0, 1) := by decide +kernel
theorem dX0_leastOfAll_6 : decode cX0_leastOfAll 6 = .ok (.getfield 18, 3) := by decide +kernel
theorem dX0_leastOfAll_9 : decode cX0_leastOfAll 9 = .ok (.getfield 97, 3) := by decide +kernel
theorem dX0_leastOfAll_12 : decode cX0_leastOfAll 12 = .ok (.if_icmp .ge 28, 3) := by decide +kernel
theorem dX0_leastOfAll_40 : decode cX0_leastOfAll 40 = .ok (.iload_n 2, 1) := by decide +kernel
theorem dX0_leastOfAll_41 : decode cX0_leastOfAll 41 = .ok (.ireturn, 1) := by decide +kernel
abbrev YX0_leastOfAll : li_Y := (yX0_leastOfAll, cX0_leastOfAll, 4, (some .int))
theorem dX0_openThings_0 : decode cX0_openThings 0 = .ok (.iconst 0, 1) := by decide +kernel
theorem dX0_openThings_1 : decode cX0_openThings 1 = .ok (.istore_n 1, 1) := by decide +kernel
theorem dX0_openThings_2 : decode cX0_openThings 2 = .ok (.iconst 0, 1) := by decide +kernel
theorem dX0_openThings_3 : decode cX0_openThings 3 = .ok (.istore_n 2, 1) := by decide +kernel
theorem dX0_openThings_4 : decode cX0_openThings 4 = .ok (.iload_n 2, 1) := by decide +kernel
theorem dX0_openThings_5 : decode cX0_openThings 5 = .ok (.aload_n 0, 1) := by decide +kernel
theorem dX0_openThings_6 : decode cX0_openThings 6 = .ok (.getfield 18, 3) := by decide +kernel
theorem dX0_openThings_9 : decode cX0_openThings 9 = .ok (.getfield 97, 3) := by decide +kernel
theorem dX0_openThings_12 : decode cX0_openThings 12 = .ok (.if_icmp .ge 44, 3) := by decide +kernel
theorem dX0_openThings_56 : decode cX0_openThings 56 = .ok (.iload_n 1, 1) := by decide +kernel
theorem dX0_openThings_57 : decode cX0_openThings 57 = .ok (.ireturn, 1) := by decide +kernel
abbrev YX0_openThings : li_Y := (yX0_openThings, cX0_openThings, 3, (some .int))
theorem dX0_choose_0 : decode cX0_choose 0 = .ok (.aload_n 0, 1) := by decide +kernel
theorem dX0_choose_1 : decode cX0_choose 1 = .ok (.iconst 0, 1) := by decide +kernel
theorem dX0_choose_2 : decode cX0_choose 2 = .ok (.putfield 135, 3) := by decide +kernel
theorem dX0_choose_5 : decode cX0_choose 5 = .ok (.aload_n 0, 1) := by decide +kernel
theorem dX0_choose_6 : decode cX0_choose 6 = .ok (.iconst 0, 1) := by decide +kernel
theorem dX0_choose_7 : decode cX0_choose 7 = .ok (.putfield 138, 3) := by decide +kernel
theorem dX0_choose_10 : decode cX0_choose 10 = .ok (.aload_n 0, 1) := by decide +kernel
theorem dX0_choose_11 : decode cX0_choose 11 = .ok (.iconst 0, 1) := by decide +kernel
theorem dX0_choose_12 : decode cX0_choose 12 = .ok (.putfield 141, 3) := by decide +kernel
theorem dX0_choose_15 : decode cX0_choose 15 = .ok (.iconst 1, 1) := by decide +kernel
theorem dX0_choose_16 : decode cX0_choose 16 = .ok (.istore_n 3, 1) := by decide +kernel
theorem dX0_choose_17 : decode cX0_choose 17 = .ok (.iload_n 3, 1) := by decide +kernel
theorem dX0_choose_18 : decode cX0_choose 18 = .ok (.sipush 256, 3) := by decide +kernel
theorem dX0_choose_21 : decode cX0_choose 21 = .ok (.if_icmp .ge 23, 3) := by decide +kernel
theorem dX0_choose_24 : decode cX0_choose 24 = .ok (.iload_n 3, 1) := by decide +kernel
theorem dX0_choose_25 : decode cX0_choose 25 = .ok (.iload_n 1, 1) := by decide +kernel
theorem dX0_choose_26 : decode cX0_choose 26 = .ok (.iconst (-1), 1) := by decide +kernel
theorem dX0_choose_27 : decode cX0_choose 27 = .ok (.ixor, 1) := by decide +kernel
theorem dX0_choose_28 : decode cX0_choose 28 = .ok (.iand, 1) := by decide +kernel
theorem dX0_choose_29 : decode cX0_choose 29 = .ok (.ifCond .ne 9, 3) := by decide +kernel
theorem dX0_choose_38 : decode cX0_choose 38 = .ok (.iinc 3 1, 3) := by decide +kernel
theorem dX0_choose_41 : decode cX0_choose 41 = .ok (.goto (-24), 3) := by decide +kernel
theorem dX0_choose_44 : decode cX0_choose 44 = .ok (.return_, 1) := by decide +kernel
abbrev YX0_choose : li_Y := (yX0_choose, cX0_choose, 4, none)
theorem dX0_firstUnpayable_0 : decode cX0_firstUnpayable 0 = .ok (.aload_n 0, 1) := by decide +kernel
theorem dX0_firstUnpayable_1 : decode cX0_firstUnpayable 1 = .ok (.invokevirtual 122, 3) := by decide +kernel
theorem dX0_firstUnpayable_4 : decode cX0_firstUnpayable 4 = .ok (.istore_n 1, 1) := by decide +kernel
theorem dX0_firstUnpayable_5 : decode cX0_firstUnpayable 5 = .ok (.iconst (-1), 1) := by decide +kernel
theorem dX0_firstUnpayable_6 : decode cX0_firstUnpayable 6 = .ok (.istore_n 2, 1) := by decide +kernel
theorem dX0_firstUnpayable_7 : decode cX0_firstUnpayable 7 = .ok (.iconst 0, 1) := by decide +kernel
theorem dX0_firstUnpayable_8 : decode cX0_firstUnpayable 8 = .ok (.istore_n 3, 1) := by decide +kernel
theorem dX0_firstUnpayable_9 : decode cX0_firstUnpayable 9 = .ok (.iload_n 3, 1) := by decide +kernel
theorem dX0_firstUnpayable_10 : decode cX0_firstUnpayable 10 = .ok (.aload_n 0, 1) := by decide +kernel
theorem dX0_firstUnpayable_11 : decode cX0_firstUnpayable 11 = .ok (.getfield 18, 3) := by decide +kernel
theorem dX0_firstUnpayable_14 : decode cX0_firstUnpayable 14 = .ok (.getfield 97, 3) := by decide +kernel
theorem dX0_firstUnpayable_17 : decode cX0_firstUnpayable 17 = .ok (.if_icmp .ge 92, 3) := by decide +kernel
theorem dX0_firstUnpayable_109 : decode cX0_firstUnpayable 109 = .ok (.iload_n 2, 1) := by decide +kernel
theorem dX0_firstUnpayable_110 : decode cX0_firstUnpayable 110 = .ok (.ireturn, 1) := by decide +kernel
abbrev YX0_firstUnpayable : li_Y := (yX0_firstUnpayable, cX0_firstUnpayable, 5, (some .int))
set_option maxRecDepth 100000 in
set_option maxHeartbeats 4000000 in
theorem k_X0_hearers {l : Launch} {Z : li_Z} (d : Nat) (hd : 3 ≤ d) {c : Nat} (hc : li_co c) (p1 p2 : Int32) (M0 : li_M) : li_Met l Z YX0_hearers d [.ref (Z.2.2 c), .int p1, .int p2] M0 (li_SI (fun i => False) M0) := by
  refine li_enter (by decide +kernel) (Nat.le_of_ble_eq_true rfl) ?_
  show li_T l Z YX0_hearers d 0 [(0, .ref (Z.2.2 c)), (1, .int p1), (2, .int p2)] [] M0 _
  have hf : li_fr (fun i => False) M0 M0 := li_fr_refl
  refine li_reach dX0_hearers_0 w_804 ?_
  refine li_iload_n 2 dX0_hearers_3 rfl ?_
  refine li_callN (n := 2) (As := [.ref (Z.2.2 2000), .int p2]) dX0_hearers_4 (k_X11_atR (d - 1) (by omega) p2 M0) (by omega) (Nat.le_of_ble_eq_true rfl) nw_16 w_569 w_101 w_570 (by decide +kernel) rfl rfl (Nat.le_of_ble_eq_true rfl) (fun r M2 h3 => ?_)
  obtain ⟨⟨x1, rfl⟩, h3⟩ := h3
  have hf := li_fr_trans hf h3 (fun i h => False.elim h)
  refine li_istore_n [(3, .int x1), (0, .ref (Z.2.2 c)), (1, .int p1), (2, .int p2)] dX0_hearers_7 (by decide) rfl ?_
  refine li_iconst 0 dX0_hearers_8 (by decide) ?_
  refine li_istore [(4, .int 0), (3, .int x1), (0, .ref (Z.2.2 c)), (1, .int p1), (2, .int p2)] dX0_hearers_9 (by decide) rfl ?_
  refine li_iconst 0 dX0_hearers_11 (by decide) ?_
  refine li_istore [(5, .int 0), (4, .int 0), (3, .int x1), (0, .ref (Z.2.2 c)), (1, .int p1), (2, .int p2)] dX0_hearers_12 (by decide) rfl ?_
  have L14 : ∀ (n : Nat) (x4 : Int32) (x5 : Int32) (M6 : li_M), (2147483647 - (x4 : Int32).toInt).toNat < n → li_fr (fun i => False) M0 M6 → li_T l Z YX0_hearers d 14 [(5, .int x4), (4, .int x5), (3, .int x1), (0, .ref (Z.2.2 c)), (1, .int p1), (2, .int p2)] [] M6 (li_SI (fun i => False) M0) := by
    intro n
    induction n with
    | zero => intro x4 x5 M6 hn; exact absurd hn (Nat.not_lt_zero _)
    | succ n ih14 =>
      intro x4 x5 M6 hn hf
      refine li_iload 0 dX0_hearers_14 rfl ?_
      refine li_aload_n 3 dX0_hearers_16 rfl ?_
      refine li_getr (k := 0) (N := 8) (T := TX0) (C0 := RX0) dX0_hearers_17 (snC0 hc) (shC0 hc) rfl rfl (by decide) (by decide) li_in0 w_368 ?_
      refine li_geti (k := 0) (N := 9) (T := TX8) (C0 := RX8) dX0_hearers_20 (by decide) sh_5 rfl rfl (by decide) li_in8 w_177 ?_
      refine li_top (fun x7 ex7 => ?_)
      refine li_icmp_ge 61 dX0_hearers_23 (by decide) (fun c8 => ?_) (fun c8 => ?_)
      · refine li_iload 1 dX0_hearers_61 rfl ?_
        exact li_iret dX0_hearers_63 rfl rfl ⟨⟨_, rfl⟩, hf⟩
      · refine li_iload 0 dX0_hearers_26 rfl ?_
        refine li_iload_n 4 dX0_hearers_28 rfl ?_
        have J55 : ∀ (x10 : Int32) (M11 : li_M), li_fr (fun i => False) M0 M11 → li_T l Z YX0_hearers d 55 [(5, .int x4), (4, .int x10), (3, .int x1), (0, .ref (Z.2.2 c)), (1, .int p1), (2, .int p2)] [] M11 (li_SI (fun i => False) M0) := by
          intro x10 M11 hf
          obtain ⟨x12, ex12⟩ : ∃ y : Int32, y = x4 + 1 := ⟨_, rfl⟩
          refine li_iinc 0 [(5, .int x12), (4, .int x10), (3, .int x1), (0, .ref (Z.2.2 c)), (1, .int p1), (2, .int p2)] x12 dX0_hearers_55 rfl (by rw [ex12]; rfl) (by decide) rfl ?_
          refine li_goto 14 dX0_hearers_58 (by decide) ?_
          refine li_pick [0, 1, 2, 3, 4, 5] [(5, .int x12), (4, .int x10), (3, .int x1), (0, .ref (Z.2.2 c)), (1, .int p1), (2, .int p2)] rfl ?_
          exact ih14 x12 x10 M11 (by have h9 := li_up (li_gt c8); rw [← ex12] at h9; omega) hf
        refine li_icmp_eq 55 dX0_hearers_29 (by decide) (fun c9 => ?_) (fun c9 => ?_)
        · refine li_pick [0, 1, 2, 3, 4, 5] [(5, .int x4), (4, .int x5), (3, .int x1), (0, .ref (Z.2.2 c)), (1, .int p1), (2, .int p2)] rfl ?_
          exact J55 x5 M6 hf
        · refine li_aload_n 3 dX0_hearers_32 rfl ?_
          refine li_getr (k := 0) (N := 8) (T := TX0) (C0 := RX0) dX0_hearers_33 (snC0 hc) (shC0 hc) rfl rfl (by decide) (by decide) li_in0 w_368 ?_
          refine li_iload_n 4 dX0_hearers_36 rfl ?_
          refine li_iload 0 dX0_hearers_37 rfl ?_
          refine li_callV (n := 2) (As := [.int p1, .int x4]) dX0_hearers_39 (k_X8_apart (d - 1) (by omega) p1 x4 M6) (by omega) (Nat.le_of_ble_eq_true rfl) w_820 w_798 w_799 w_104 w_800 (by decide +kernel) rfl (by decide) sh_5 rfl rfl (Nat.le_of_ble_eq_true rfl) (fun r M14 h15 => ?_)
          obtain ⟨⟨x13, rfl⟩, h15⟩ := h15
          have hf := li_fr_trans hf h15 (fun i h => False.elim h)
          refine li_iload_n 2 dX0_hearers_42 rfl ?_
          refine li_icmp_gt 55 dX0_hearers_43 (by decide) (fun c16 => ?_) (fun c16 => ?_)
          · refine li_pick [0, 1, 2, 3, 4, 5] [(5, .int x4), (4, .int x5), (3, .int x1), (0, .ref (Z.2.2 c)), (1, .int p1), (2, .int p2)] rfl ?_
            exact J55 x5 M14 hf
          · refine li_iload 1 dX0_hearers_46 rfl ?_
            refine li_iconst 1 dX0_hearers_48 (by decide) ?_
            refine li_iload 0 dX0_hearers_49 rfl ?_
            refine li_ishl dX0_hearers_51 ?_
            refine li_top (fun x17 ex17 => ?_)
            refine li_ior dX0_hearers_52 ?_
            refine li_top (fun x18 ex18 => ?_)
            refine li_istore [(4, .int x18), (5, .int x4), (3, .int x1), (0, .ref (Z.2.2 c)), (1, .int p1), (2, .int p2)] dX0_hearers_53 (by decide) rfl ?_
            refine li_pick [1, 0, 2, 3, 4, 5] [(5, .int x4), (4, .int x18), (3, .int x1), (0, .ref (Z.2.2 c)), (1, .int p1), (2, .int p2)] rfl ?_
            exact J55 x18 M14 hf
  exact L14 _ 0 0 M2 (Nat.lt_succ_self _) hf
set_option maxRecDepth 100000 in
set_option maxHeartbeats 4000000 in
theorem k_X0_ofWord {l : Launch} {Z : li_Z} (d : Nat) (hd : 4 ≤ d) {c : Nat} (hc : li_co c) (p1 p2 p3 p4 : Int32) (M0 : li_M) : li_Met l Z YX0_ofWord d [.ref (Z.2.2 c), .int p1, .int p2, .int p3, .int p4] M0 (li_SI (fun i => i = (c - 4) + 2 ∨ i = (c - 4) + 3) M0) := by
  refine li_enter (by decide +kernel) (Nat.le_of_ble_eq_true rfl) ?_
  show li_T l Z YX0_ofWord d 0 [(0, .ref (Z.2.2 c)), (1, .int p1), (2, .int p2), (3, .int p3), (4, .int p4)] [] M0 _
  have hf : li_fr (fun i => i = (c - 4) + 2 ∨ i = (c - 4) + 3) M0 M0 := li_fr_refl
  refine li_aload_n 0 dX0_ofWord_0 rfl ?_
  refine li_getr (k := 2) (N := 8) (T := TX0) (C0 := RX0) dX0_ofWord_1 (snC0 hc) (shC0 hc) rfl rfl (lkR0 (li_co_ru hc)) (by decide) li_in0 w_370 ?_
  refine li_getr (k := 2) (N := 4) (T := TX6) (C0 := RX6) dX0_ofWord_4 (snR0 (li_co_ru hc)) (shR0 (li_co_ru hc)) rfl rfl (lkR3 (li_co_ru hc)) (by decide) li_in6 w_318 ?_
  refine li_iconst 0 dX0_ofWord_7 (by decide) ?_
  refine li_iload_n 2 dX0_ofWord_8 rfl ?_
  refine li_callN (n := 3) (As := [.ref (Z.2.2 ((c - 4) + 3)), .int 0, .int p2]) dX0_ofWord_9 (k_X11_put (d - 1) (by omega) (snR3 (li_co_ru hc)) (shR3 (li_co_ru hc)) (by decide) 0 p2 M0) (by omega) (Nat.le_of_ble_eq_true rfl) nw_17 w_522 w_101 w_523 (by decide +kernel) rfl rfl (Nat.le_of_ble_eq_true rfl) (fun r M2 h3 => ?_)
  obtain ⟨rfl, h3⟩ := h3
  have hf := li_fr_trans hf h3 (fun i (h : i = (c - 4) + 3) => (show i = (c - 4) + 2 ∨ i = (c - 4) + 3 by omega))
  refine li_aload_n 0 dX0_ofWord_12 rfl ?_
  refine li_getr (k := 2) (N := 8) (T := TX0) (C0 := RX0) dX0_ofWord_13 (snC0 hc) (shC0 hc) rfl rfl (lkR0 (li_co_ru hc)) (by decide) li_in0 w_370 ?_
  refine li_getr (k := 2) (N := 4) (T := TX6) (C0 := RX6) dX0_ofWord_16 (snR0 (li_co_ru hc)) (shR0 (li_co_ru hc)) rfl rfl (lkR3 (li_co_ru hc)) (by decide) li_in6 w_318 ?_
  refine li_iconst 1 dX0_ofWord_19 (by decide) ?_
  refine li_iload_n 3 dX0_ofWord_20 rfl ?_
  refine li_callN (n := 3) (As := [.ref (Z.2.2 ((c - 4) + 3)), .int 1, .int p3]) dX0_ofWord_21 (k_X11_put (d - 1) (by omega) (snR3 (li_co_ru hc)) (shR3 (li_co_ru hc)) (by decide) 1 p3 M2) (by omega) (Nat.le_of_ble_eq_true rfl) nw_17 w_522 w_101 w_523 (by decide +kernel) rfl rfl (Nat.le_of_ble_eq_true rfl) (fun r M5 h6 => ?_)
  obtain ⟨rfl, h6⟩ := h6
  have hf := li_fr_trans hf h6 (fun i (h : i = (c - 4) + 3) => (show i = (c - 4) + 2 ∨ i = (c - 4) + 3 by omega))
  refine li_aload_n 0 dX0_ofWord_24 rfl ?_
  refine li_getr (k := 2) (N := 8) (T := TX0) (C0 := RX0) dX0_ofWord_25 (snC0 hc) (shC0 hc) rfl rfl (lkR0 (li_co_ru hc)) (by decide) li_in0 w_370 ?_
  refine li_getr (k := 2) (N := 4) (T := TX6) (C0 := RX6) dX0_ofWord_28 (snR0 (li_co_ru hc)) (shR0 (li_co_ru hc)) rfl rfl (lkR3 (li_co_ru hc)) (by decide) li_in6 w_318 ?_
  refine li_iconst 2 dX0_ofWord_31 (by decide) ?_
  refine li_iload 4 dX0_ofWord_32 rfl ?_
  refine li_callN (n := 3) (As := [.ref (Z.2.2 ((c - 4) + 3)), .int 2, .int p4]) dX0_ofWord_34 (k_X11_put (d - 1) (by omega) (snR3 (li_co_ru hc)) (shR3 (li_co_ru hc)) (by decide) 2 p4 M5) (by omega) (Nat.le_of_ble_eq_true rfl) nw_17 w_522 w_101 w_523 (by decide +kernel) rfl rfl (Nat.le_of_ble_eq_true rfl) (fun r M8 h9 => ?_)
  obtain ⟨rfl, h9⟩ := h9
  have hf := li_fr_trans hf h9 (fun i (h : i = (c - 4) + 3) => (show i = (c - 4) + 2 ∨ i = (c - 4) + 3 by omega))
  refine li_aload_n 0 dX0_ofWord_37 rfl ?_
  refine li_getr (k := 2) (N := 8) (T := TX0) (C0 := RX0) dX0_ofWord_38 (snC0 hc) (shC0 hc) rfl rfl (lkR0 (li_co_ru hc)) (by decide) li_in0 w_370 ?_
  refine li_getr (k := 2) (N := 4) (T := TX6) (C0 := RX6) dX0_ofWord_41 (snR0 (li_co_ru hc)) (shR0 (li_co_ru hc)) rfl rfl (lkR3 (li_co_ru hc)) (by decide) li_in6 w_318 ?_
  refine li_iconst 3 dX0_ofWord_44 (by decide) ?_
  refine li_aload_n 0 dX0_ofWord_45 rfl ?_
  refine li_getr (k := 1) (N := 8) (T := TX0) (C0 := RX0) dX0_ofWord_46 (snC0 hc) (shC0 hc) rfl rfl (by decide) (by decide) li_in0 w_369 ?_
  refine li_getr (k := 4) (N := 11) (T := TX4) (C0 := RX4) dX0_ofWord_49 (by decide) sh_13 rfl rfl (by decide) (by decide) li_in4 w_242 ?_
  refine li_iload_n 1 dX0_ofWord_52 rfl ?_
  refine li_callN (n := 2) (As := [.ref (Z.2.2 14), .int p1]) dX0_ofWord_53 (k_X11_at (d - 1) (by omega) (by decide) sh_14 (by decide) p1 M8) (by omega) (Nat.le_of_ble_eq_true rfl) nw_16 w_569 w_101 w_570 (by decide +kernel) rfl rfl (Nat.le_of_ble_eq_true rfl) (fun r M11 h12 => ?_)
  obtain ⟨⟨x10, rfl⟩, h12⟩ := h12
  have hf := li_fr_trans hf h12 (fun i h => False.elim h)
  refine li_callN (n := 3) (As := [.ref (Z.2.2 ((c - 4) + 3)), .int 3, .int x10]) dX0_ofWord_56 (k_X11_put (d - 1) (by omega) (snR3 (li_co_ru hc)) (shR3 (li_co_ru hc)) (by decide) 3 x10 M11) (by omega) (Nat.le_of_ble_eq_true rfl) nw_17 w_522 w_101 w_523 (by decide +kernel) rfl rfl (Nat.le_of_ble_eq_true rfl) (fun r M14 h15 => ?_)
  obtain ⟨rfl, h15⟩ := h15
  have hf := li_fr_trans hf h15 (fun i (h : i = (c - 4) + 3) => (show i = (c - 4) + 2 ∨ i = (c - 4) + 3 by omega))
  refine li_aload_n 0 dX0_ofWord_59 rfl ?_
  refine li_getr (k := 2) (N := 8) (T := TX0) (C0 := RX0) dX0_ofWord_60 (snC0 hc) (shC0 hc) rfl rfl (lkR0 (li_co_ru hc)) (by decide) li_in0 w_370 ?_
  refine li_getr (k := 2) (N := 4) (T := TX6) (C0 := RX6) dX0_ofWord_63 (snR0 (li_co_ru hc)) (shR0 (li_co_ru hc)) rfl rfl (lkR3 (li_co_ru hc)) (by decide) li_in6 w_318 ?_
  refine li_iconst 4 dX0_ofWord_66 (by decide) ?_
  refine li_aload_n 0 dX0_ofWord_67 rfl ?_
  refine li_getr (k := 1) (N := 8) (T := TX0) (C0 := RX0) dX0_ofWord_68 (snC0 hc) (shC0 hc) rfl rfl (by decide) (by decide) li_in0 w_369 ?_
  refine li_geti (k := 0) (N := 11) (T := TX4) (C0 := RX4) dX0_ofWord_71 (by decide) sh_13 rfl rfl (by decide) li_in4 w_230 ?_
  refine li_top (fun x16 ex16 => ?_)
  refine li_bipush 100 dX0_ofWord_74 (by decide) ?_
  refine li_irem dX0_ofWord_76 (by decide) ?_
  refine li_top (fun x17 ex17 => ?_)
  refine li_callN (n := 3) (As := [.ref (Z.2.2 ((c - 4) + 3)), .int 4, .int x17]) dX0_ofWord_77 (k_X11_put (d - 1) (by omega) (snR3 (li_co_ru hc)) (shR3 (li_co_ru hc)) (by decide) 4 x17 M14) (by omega) (Nat.le_of_ble_eq_true rfl) nw_17 w_522 w_101 w_523 (by decide +kernel) rfl rfl (Nat.le_of_ble_eq_true rfl) (fun r M19 h20 => ?_)
  obtain ⟨rfl, h20⟩ := h20
  have hf := li_fr_trans hf h20 (fun i (h : i = (c - 4) + 3) => (show i = (c - 4) + 2 ∨ i = (c - 4) + 3 by omega))
  refine li_aload_n 0 dX0_ofWord_80 rfl ?_
  refine li_getr (k := 2) (N := 8) (T := TX0) (C0 := RX0) dX0_ofWord_81 (snC0 hc) (shC0 hc) rfl rfl (lkR0 (li_co_ru hc)) (by decide) li_in0 w_370 ?_
  refine li_getr (k := 2) (N := 4) (T := TX6) (C0 := RX6) dX0_ofWord_84 (snR0 (li_co_ru hc)) (shR0 (li_co_ru hc)) rfl rfl (lkR3 (li_co_ru hc)) (by decide) li_in6 w_318 ?_
  refine li_iconst 5 dX0_ofWord_87 (by decide) ?_
  refine li_aload_n 0 dX0_ofWord_88 rfl ?_
  refine li_iload_n 1 dX0_ofWord_89 rfl ?_
  refine li_iload_n 3 dX0_ofWord_90 rfl ?_
  refine li_callV (n := 2) (As := [.int p1, .int p3]) dX0_ofWord_91 (k_X0_hearers (d - 1) (by omega) hc p1 p3 M19) (by omega) (Nat.le_of_ble_eq_true rfl) w_816 w_817 w_818 w_109 w_819 (by decide +kernel) rfl (snC0 hc) (shC0 hc) rfl rfl (Nat.le_of_ble_eq_true rfl) (fun r M22 h23 => ?_)
  obtain ⟨⟨x21, rfl⟩, h23⟩ := h23
  have hf := li_fr_trans hf h23 (fun i h => False.elim h)
  refine li_callS (n := 1) (As := [.int x21]) dX0_ofWord_94 (k_J6_bitCount_0f7a4 (d - 1) (by omega) x21 M22) (by omega) (Nat.le_of_ble_eq_true rfl) w_821 w_822 w_123 w_823 (by decide +kernel) rfl rfl (Nat.le_of_ble_eq_true rfl) (fun r M25 h26 => ?_)
  obtain ⟨⟨x24, rfl⟩, h26⟩ := h26
  have hf := li_fr_trans hf h26 (fun i h => False.elim h)
  refine li_callN (n := 3) (As := [.ref (Z.2.2 ((c - 4) + 3)), .int 5, .int x24]) dX0_ofWord_97 (k_X11_put (d - 1) (by omega) (snR3 (li_co_ru hc)) (shR3 (li_co_ru hc)) (by decide) 5 x24 M25) (by omega) (Nat.le_of_ble_eq_true rfl) nw_17 w_522 w_101 w_523 (by decide +kernel) rfl rfl (Nat.le_of_ble_eq_true rfl) (fun r M28 h29 => ?_)
  obtain ⟨rfl, h29⟩ := h29
  have hf := li_fr_trans hf h29 (fun i (h : i = (c - 4) + 3) => (show i = (c - 4) + 2 ∨ i = (c - 4) + 3 by omega))
  refine li_aload_n 0 dX0_ofWord_100 rfl ?_
  refine li_getr (k := 2) (N := 8) (T := TX0) (C0 := RX0) dX0_ofWord_101 (snC0 hc) (shC0 hc) rfl rfl (lkR0 (li_co_ru hc)) (by decide) li_in0 w_370 ?_
  refine li_callV (n := 0) (As := []) dX0_ofWord_104 (k_X6_evaluate (d - 1) (by omega) (li_co_ru hc) M28) (by omega) (Nat.le_of_ble_eq_true rfl) w_827 w_828 w_829 w_107 w_830 (by decide +kernel) rfl (snR0 (li_co_ru hc)) (shR0 (li_co_ru hc)) rfl rfl (Nat.le_of_ble_eq_true rfl) (fun r M31 h32 => ?_)
  obtain ⟨⟨x30, rfl⟩, h32⟩ := h32
  have hf := li_fr_trans hf h32 (fun i (h : i = (c - 4) + 2) => (show i = (c - 4) + 2 ∨ i = (c - 4) + 3 by omega))
  exact li_iret dX0_ofWord_107 rfl rfl ⟨⟨_, rfl⟩, hf⟩
set_option maxRecDepth 100000 in
set_option maxHeartbeats 4000000 in
theorem k_X0_cheapestWay {l : Launch} {Z : li_Z} (d : Nat) (hd : 5 ≤ d) {c : Nat} (hc : li_co c) (p1 p2 p3 : Int32) (M0 : li_M) : li_Met l Z YX0_cheapestWay d [.ref (Z.2.2 c), .int p1, .int p2, .int p3] M0 (li_SI (fun i => i = (c - 4) + 2 ∨ i = (c - 4) + 3) M0) := by
  refine li_enter (by decide +kernel) (Nat.le_of_ble_eq_true rfl) ?_
  show li_T l Z YX0_cheapestWay d 0 [(0, .ref (Z.2.2 c)), (1, .int p1), (2, .int p2), (3, .int p3)] [] M0 _
  have hf : li_fr (fun i => i = (c - 4) + 2 ∨ i = (c - 4) + 3) M0 M0 := li_fr_refl
  refine li_aload_n 0 dX0_cheapestWay_0 rfl ?_
  refine li_getr (k := 0) (N := 8) (T := TX0) (C0 := RX0) dX0_cheapestWay_1 (snC0 hc) (shC0 hc) rfl rfl (by decide) (by decide) li_in0 w_368 ?_
  refine li_iload_n 1 dX0_cheapestWay_4 rfl ?_
  refine li_iload_n 2 dX0_cheapestWay_5 rfl ?_
  refine li_callV (n := 2) (As := [.int p1, .int p2]) dX0_cheapestWay_6 (k_X8_apart (d - 1) (by omega) p1 p2 M0) (by omega) (Nat.le_of_ble_eq_true rfl) w_820 w_798 w_799 w_104 w_800 (by decide +kernel) rfl (by decide) sh_5 rfl rfl (Nat.le_of_ble_eq_true rfl) (fun r M2 h3 => ?_)
  obtain ⟨⟨x1, rfl⟩, h3⟩ := h3
  have hf := li_fr_trans hf h3 (fun i h => False.elim h)
  refine li_istore [(4, .int x1), (0, .ref (Z.2.2 c)), (1, .int p1), (2, .int p2), (3, .int p3)] dX0_cheapestWay_9 (by decide) rfl ?_
  refine li_iconst 3 dX0_cheapestWay_11 (by decide) ?_
  refine li_istore [(5, .int 3), (4, .int x1), (0, .ref (Z.2.2 c)), (1, .int p1), (2, .int p2), (3, .int p3)] dX0_cheapestWay_12 (by decide) rfl ?_
  refine li_sipush 1000 dX0_cheapestWay_14 (by decide) ?_
  refine li_istore [(6, .int 1000), (5, .int 3), (4, .int x1), (0, .ref (Z.2.2 c)), (1, .int p1), (2, .int p2), (3, .int p3)] dX0_cheapestWay_17 (by decide) rfl ?_
  refine li_iconst 0 dX0_cheapestWay_19 (by decide) ?_
  refine li_istore [(7, .int 0), (6, .int 1000), (5, .int 3), (4, .int x1), (0, .ref (Z.2.2 c)), (1, .int p1), (2, .int p2), (3, .int p3)] dX0_cheapestWay_20 (by decide) rfl ?_
  have L22 : ∀ (n : Nat) (x4 : Int32) (x5 : Int32) (x6 : Int32) (M7 : li_M), (2147483647 - (x4 : Int32).toInt).toNat < n → li_fr (fun i => i = (c - 4) + 2 ∨ i = (c - 4) + 3) M0 M7 → li_T l Z YX0_cheapestWay d 22 [(7, .int x4), (6, .int x5), (5, .int x6), (4, .int x1), (0, .ref (Z.2.2 c)), (1, .int p1), (2, .int p2), (3, .int p3)] [] M7 (li_SI (fun i => i = (c - 4) + 2 ∨ i = (c - 4) + 3) M0) := by
    intro n
    induction n with
    | zero => intro x4 x5 x6 M7 hn; exact absurd hn (Nat.not_lt_zero _)
    | succ n ih22 =>
      intro x4 x5 x6 M7 hn hf
      refine li_iload 0 dX0_cheapestWay_22 rfl ?_
      refine li_iconst 4 dX0_cheapestWay_24 (by decide) ?_
      refine li_icmp_ge 74 dX0_cheapestWay_25 (by decide) (fun c8 => ?_) (fun c8 => ?_)
      · refine li_iload 2 dX0_cheapestWay_74 rfl ?_
        exact li_iret dX0_cheapestWay_76 rfl rfl ⟨⟨_, rfl⟩, hf⟩
      · refine li_iload 3 dX0_cheapestWay_28 rfl ?_
        refine li_reach dX0_cheapestWay_30 w_804 ?_
        refine li_iload 0 dX0_cheapestWay_33 rfl ?_
        refine li_callN (n := 2) (As := [.ref (Z.2.2 2000), .int x4]) dX0_cheapestWay_35 (k_X11_atR (d - 1) (by omega) x4 M7) (by omega) (Nat.le_of_ble_eq_true rfl) nw_16 w_569 w_101 w_570 (by decide +kernel) rfl rfl (Nat.le_of_ble_eq_true rfl) (fun r M10 h11 => ?_)
        obtain ⟨⟨x9, rfl⟩, h11⟩ := h11
        have hf := li_fr_trans hf h11 (fun i h => False.elim h)
        have J68 : ∀ (x13 : Int32) (x14 : Int32) (M15 : li_M), li_fr (fun i => i = (c - 4) + 2 ∨ i = (c - 4) + 3) M0 M15 → li_T l Z YX0_cheapestWay d 68 [(7, .int x4), (6, .int x13), (5, .int x14), (4, .int x1), (0, .ref (Z.2.2 c)), (1, .int p1), (2, .int p2), (3, .int p3)] [] M15 (li_SI (fun i => i = (c - 4) + 2 ∨ i = (c - 4) + 3) M0) := by
          intro x13 x14 M15 hf
          obtain ⟨x16, ex16⟩ : ∃ y : Int32, y = x4 + 1 := ⟨_, rfl⟩
          refine li_iinc 0 [(7, .int x16), (6, .int x13), (5, .int x14), (4, .int x1), (0, .ref (Z.2.2 c)), (1, .int p1), (2, .int p2), (3, .int p3)] x16 dX0_cheapestWay_68 rfl (by rw [ex16]; rfl) (by decide) rfl ?_
          refine li_goto 22 dX0_cheapestWay_71 (by decide) ?_
          refine li_pick [0, 1, 2, 3, 4, 5, 6, 7] [(7, .int x16), (6, .int x13), (5, .int x14), (4, .int x1), (0, .ref (Z.2.2 c)), (1, .int p1), (2, .int p2), (3, .int p3)] rfl ?_
          exact ih22 x16 x13 x14 M15 (by have h9 := li_up (li_gt c8); rw [← ex16] at h9; omega) hf
        refine li_icmp_gt 68 dX0_cheapestWay_38 (by decide) (fun c12 => ?_) (fun c12 => ?_)
        · refine li_pick [0, 1, 2, 3, 4, 5, 6, 7] [(7, .int x4), (6, .int x5), (5, .int x6), (4, .int x1), (0, .ref (Z.2.2 c)), (1, .int p1), (2, .int p2), (3, .int p3)] rfl ?_
          exact J68 x5 x6 M10 hf
        · refine li_aload_n 4 dX0_cheapestWay_41 rfl ?_
          refine li_iload_n 5 dX0_cheapestWay_42 rfl ?_
          refine li_iload_n 7 dX0_cheapestWay_43 rfl ?_
          refine li_iload 0 dX0_cheapestWay_44 rfl ?_
          refine li_iload 3 dX0_cheapestWay_46 rfl ?_
          refine li_callV (n := 4) (As := [.int p1, .int p3, .int x4, .int x1]) dX0_cheapestWay_48 (k_X0_ofWord (d - 1) (by omega) hc p1 p3 x4 x1 M10) (by omega) (Nat.le_of_ble_eq_true rfl) w_811 w_812 w_813 w_109 w_814 (by decide +kernel) rfl (snC0 hc) (shC0 hc) rfl rfl (Nat.le_of_ble_eq_true rfl) (fun r M18 h19 => ?_)
          obtain ⟨⟨x17, rfl⟩, h19⟩ := h19
          have hf := li_fr_trans hf h19 (fun i (h : i = (c - 4) + 2 ∨ i = (c - 4) + 3) => (show i = (c - 4) + 2 ∨ i = (c - 4) + 3 by omega))
          refine li_istore [(8, .int x17), (7, .int x4), (6, .int x5), (5, .int x6), (4, .int x1), (0, .ref (Z.2.2 c)), (1, .int p1), (2, .int p2), (3, .int p3)] dX0_cheapestWay_51 (by decide) rfl ?_
          refine li_iload 0 dX0_cheapestWay_53 rfl ?_
          refine li_iload 2 dX0_cheapestWay_55 rfl ?_
          refine li_icmp_ge 68 dX0_cheapestWay_57 (by decide) (fun c20 => ?_) (fun c20 => ?_)
          · refine li_pick [1, 2, 3, 4, 5, 6, 7, 8] [(7, .int x4), (6, .int x5), (5, .int x6), (4, .int x1), (0, .ref (Z.2.2 c)), (1, .int p1), (2, .int p2), (3, .int p3)] rfl ?_
            exact J68 x5 x6 M18 hf
          · refine li_iload 0 dX0_cheapestWay_60 rfl ?_
            refine li_istore [(6, .int x17), (8, .int x17), (7, .int x4), (5, .int x6), (4, .int x1), (0, .ref (Z.2.2 c)), (1, .int p1), (2, .int p2), (3, .int p3)] dX0_cheapestWay_62 (by decide) rfl ?_
            refine li_iload 2 dX0_cheapestWay_64 rfl ?_
            refine li_istore [(5, .int x4), (6, .int x17), (8, .int x17), (7, .int x4), (4, .int x1), (0, .ref (Z.2.2 c)), (1, .int p1), (2, .int p2), (3, .int p3)] dX0_cheapestWay_66 (by decide) rfl ?_
            refine li_pick [3, 1, 0, 4, 5, 6, 7, 8] [(7, .int x4), (6, .int x17), (5, .int x4), (4, .int x1), (0, .ref (Z.2.2 c)), (1, .int p1), (2, .int p2), (3, .int p3)] rfl ?_
            exact J68 x17 x4 M18 hf
  exact L22 _ 0 1000 3 M2 (Nat.lt_succ_self _) hf
set_option maxRecDepth 100000 in
set_option maxHeartbeats 4000000 in
theorem k_X0_leastWay {l : Launch} {Z : li_Z} (d : Nat) (hd : 6 ≤ d) {c : Nat} (hc : li_co c) (p1 : Int32) (M0 : li_M) : li_Met l Z YX0_leastWay d [.ref (Z.2.2 c), .int p1] M0 (li_SI (fun i => i = (c - 4) + 2 ∨ i = (c - 4) + 3) M0) := by
  refine li_enter (by decide +kernel) (Nat.le_of_ble_eq_true rfl) ?_
  show li_T l Z YX0_leastWay d 0 [(0, .ref (Z.2.2 c)), (1, .int p1)] [] M0 _
  have hf : li_fr (fun i => i = (c - 4) + 2 ∨ i = (c - 4) + 3) M0 M0 := li_fr_refl
  refine li_aload_n 0 dX0_leastWay_0 rfl ?_
  refine li_aload_n 0 dX0_leastWay_1 rfl ?_
  refine li_getr (k := 0) (N := 8) (T := TX0) (C0 := RX0) dX0_leastWay_2 (snC0 hc) (shC0 hc) rfl rfl (by decide) (by decide) li_in0 w_368 ?_
  refine li_getr (k := 4) (N := 9) (T := TX8) (C0 := RX8) dX0_leastWay_5 (by decide) sh_5 rfl rfl (by decide) (by decide) li_in8 w_189 ?_
  refine li_iload_n 1 dX0_leastWay_8 rfl ?_
  refine li_callN (n := 2) (As := [.ref (Z.2.2 8), .int p1]) dX0_leastWay_9 (k_X11_at (d - 1) (by omega) (by decide) sh_8 (by decide) p1 M0) (by omega) (Nat.le_of_ble_eq_true rfl) nw_16 w_569 w_101 w_570 (by decide +kernel) rfl rfl (Nat.le_of_ble_eq_true rfl) (fun r M2 h3 => ?_)
  obtain ⟨⟨x1, rfl⟩, h3⟩ := h3
  have hf := li_fr_trans hf h3 (fun i h => False.elim h)
  refine li_aload_n 0 dX0_leastWay_12 rfl ?_
  refine li_getr (k := 0) (N := 8) (T := TX0) (C0 := RX0) dX0_leastWay_13 (snC0 hc) (shC0 hc) rfl rfl (by decide) (by decide) li_in0 w_368 ?_
  refine li_getr (k := 5) (N := 9) (T := TX8) (C0 := RX8) dX0_leastWay_16 (by decide) sh_5 rfl rfl (by decide) (by decide) li_in8 w_192 ?_
  refine li_iload_n 1 dX0_leastWay_19 rfl ?_
  refine li_callN (n := 2) (As := [.ref (Z.2.2 9), .int p1]) dX0_leastWay_20 (k_X11_at (d - 1) (by omega) (by decide) sh_9 (by decide) p1 M2) (by omega) (Nat.le_of_ble_eq_true rfl) nw_16 w_569 w_101 w_570 (by decide +kernel) rfl rfl (Nat.le_of_ble_eq_true rfl) (fun r M5 h6 => ?_)
  obtain ⟨⟨x4, rfl⟩, h6⟩ := h6
  have hf := li_fr_trans hf h6 (fun i h => False.elim h)
  refine li_aload_n 0 dX0_leastWay_23 rfl ?_
  refine li_getr (k := 0) (N := 8) (T := TX0) (C0 := RX0) dX0_leastWay_24 (snC0 hc) (shC0 hc) rfl rfl (by decide) (by decide) li_in0 w_368 ?_
  refine li_getr (k := 6) (N := 9) (T := TX8) (C0 := RX8) dX0_leastWay_27 (by decide) sh_5 rfl rfl (by decide) (by decide) li_in8 w_195 ?_
  refine li_iload_n 1 dX0_leastWay_30 rfl ?_
  refine li_callN (n := 2) (As := [.ref (Z.2.2 10), .int p1]) dX0_leastWay_31 (k_X11_at (d - 1) (by omega) (by decide) sh_10 (by decide) p1 M5) (by omega) (Nat.le_of_ble_eq_true rfl) nw_16 w_569 w_101 w_570 (by decide +kernel) rfl rfl (Nat.le_of_ble_eq_true rfl) (fun r M8 h9 => ?_)
  obtain ⟨⟨x7, rfl⟩, h9⟩ := h9
  have hf := li_fr_trans hf h9 (fun i h => False.elim h)
  refine li_callV (n := 3) (As := [.int x1, .int x4, .int x7]) dX0_leastWay_34 (k_X0_cheapestWay (d - 1) (by omega) hc x1 x4 x7 M8) (by omega) (Nat.le_of_ble_eq_true rfl) w_968 w_969 w_970 w_109 w_971 (by decide +kernel) rfl (snC0 hc) (shC0 hc) rfl rfl (Nat.le_of_ble_eq_true rfl) (fun r M11 h12 => ?_)
  obtain ⟨⟨x10, rfl⟩, h12⟩ := h12
  have hf := li_fr_trans hf h12 (fun i (h : i = (c - 4) + 2 ∨ i = (c - 4) + 3) => (show i = (c - 4) + 2 ∨ i = (c - 4) + 3 by omega))
  exact li_iret dX0_leastWay_37 rfl rfl ⟨⟨_, rfl⟩, hf⟩
