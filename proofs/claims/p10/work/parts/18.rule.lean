theorem w_1 : (Jvm.Cond.selects "ClockForTalk$Rule" ({ cls := "ClockForTalk$Rule", name := "readExpression", desc := "(LClockForTalk$Text;I)Z" } : Jvm.MethodName) ({ cls := "ClockForTalk$Rule", name := "readExpression", desc := "(LClockForTalk$Text;I)Z" } : Jvm.MethodName)) ∈ li_ws := li_mem 1 (by decide +kernel) (by decide +kernel)
theorem w_2 : (Jvm.Cond.selects "ClockForTalk$Rule" ({ cls := "ClockForTalk$Rule", name := "readSum", desc := "(LClockForTalk$Text;I)Z" } : Jvm.MethodName) ({ cls := "ClockForTalk$Rule", name := "readSum", desc := "(LClockForTalk$Text;I)Z" } : Jvm.MethodName)) ∈ li_ws := li_mem 2 (by decide +kernel) (by decide +kernel)
theorem w_3 : (Jvm.Cond.selects "ClockForTalk$Rule" ({ cls := "ClockForTalk$Rule", name := "readProduct", desc := "(LClockForTalk$Text;I)Z" } : Jvm.MethodName) ({ cls := "ClockForTalk$Rule", name := "readProduct", desc := "(LClockForTalk$Text;I)Z" } : Jvm.MethodName)) ∈ li_ws := li_mem 3 (by decide +kernel) (by decide +kernel)
theorem w_4 : (Jvm.Cond.selects "ClockForTalk$Rule" ({ cls := "ClockForTalk$Rule", name := "readFactor", desc := "(LClockForTalk$Text;I)Z" } : Jvm.MethodName) ({ cls := "ClockForTalk$Rule", name := "readFactor", desc := "(LClockForTalk$Text;I)Z" } : Jvm.MethodName)) ∈ li_ws := li_mem 4 (by decide +kernel) (by decide +kernel)
theorem w_5 : (Jvm.Cond.selects "ClockForTalk$Rule" ({ cls := "ClockForTalk$Rule", name := "readAtom", desc := "(LClockForTalk$Text;I)Z" } : Jvm.MethodName) ({ cls := "ClockForTalk$Rule", name := "readAtom", desc := "(LClockForTalk$Text;I)Z" } : Jvm.MethodName)) ∈ li_ws := li_mem 5 (by decide +kernel) (by decide +kernel)
theorem w_6 : (Jvm.Cond.selects "ClockForTalk$Rule" ({ cls := "ClockForTalk$Rule", name := "add", desc := "(I)Z" } : Jvm.MethodName) ({ cls := "ClockForTalk$Rule", name := "add", desc := "(I)Z" } : Jvm.MethodName)) ∈ li_ws := li_mem 6 (by decide +kernel) (by decide +kernel)
theorem w_7 : (Jvm.Cond.selects "ClockForTalk$Rule" ({ cls := "ClockForTalk$Rule", name := "addSign", desc := "(Ljava/lang/String;I)Z" } : Jvm.MethodName) ({ cls := "ClockForTalk$Rule", name := "addSign", desc := "(Ljava/lang/String;I)Z" } : Jvm.MethodName)) ∈ li_ws := li_mem 7 (by decide +kernel) (by decide +kernel)
theorem w_107 : (Jvm.Cond.initialized "ClockForTalk$Rule") ∈ li_ws := li_mem 107 (by decide +kernel) (by decide +kernel)
theorem w_315 : (Jvm.Cond.fieldLink "ClockForTalk$Rule" (9 : Nat) "ClockForTalk$Rule" "steps" "[I") ∈ li_ws := li_mem 315 (by decide +kernel) (by decide +kernel)
theorem w_316 : (Jvm.Cond.fieldLink "ClockForTalk$Rule" (15 : Nat) "ClockForTalk$Rule" "stack" "[I") ∈ li_ws := li_mem 316 (by decide +kernel) (by decide +kernel)
theorem w_317 : (Jvm.Cond.fieldLink "ClockForTalk$Rule" (18 : Nat) "ClockForTalk$Rule" "given" "[I") ∈ li_ws := li_mem 317 (by decide +kernel) (by decide +kernel)
theorem w_319 : (Jvm.Cond.fieldLink "ClockForTalk$Rule" (21 : Nat) "ClockForTalk$Rule" "length" "I") ∈ li_ws := li_mem 319 (by decide +kernel) (by decide +kernel)
theorem w_544 : (Jvm.Cond.methodLink "ClockForTalk$Rule" (31 : Nat) ({ cls := "ClockForTalk$Text", name := "atEnd", desc := "()Z" } : Jvm.MethodName)) ∈ li_ws := li_mem 544 (by decide +kernel) (by decide +kernel)
theorem w_548 : (Jvm.Cond.methodLink "ClockForTalk$Rule" (37 : Nat) ({ cls := "ClockForTalk$Rule", name := "readExpression", desc := "(LClockForTalk$Text;I)Z" } : Jvm.MethodName)) ∈ li_ws := li_mem 548 (by decide +kernel) (by decide +kernel)
theorem w_550 : (Jvm.Cond.instanceMethod ({ cls := "ClockForTalk$Rule", name := "readExpression", desc := "(LClockForTalk$Text;I)Z" } : Jvm.MethodName)) ∈ li_ws := li_mem 550 (by decide +kernel) (by decide +kernel)
theorem w_551 : (Jvm.Cond.code ({ cls := "ClockForTalk$Rule", name := "readExpression", desc := "(LClockForTalk$Text;I)Z" } : Jvm.MethodName) prog_7_method_5_code (4 : Nat) (Option.some Jvm.ClassFile.FieldType.boolean)) ∈ li_ws := li_mem 551 (by decide +kernel) (by decide +kernel)
theorem w_552 : (Jvm.Cond.methodLink "ClockForTalk$Rule" (45 : Nat) ({ cls := "ClockForTalk$Rule", name := "readSum", desc := "(LClockForTalk$Text;I)Z" } : Jvm.MethodName)) ∈ li_ws := li_mem 552 (by decide +kernel) (by decide +kernel)
theorem w_554 : (Jvm.Cond.instanceMethod ({ cls := "ClockForTalk$Rule", name := "readSum", desc := "(LClockForTalk$Text;I)Z" } : Jvm.MethodName)) ∈ li_ws := li_mem 554 (by decide +kernel) (by decide +kernel)
theorem w_555 : (Jvm.Cond.code ({ cls := "ClockForTalk$Rule", name := "readSum", desc := "(LClockForTalk$Text;I)Z" } : Jvm.MethodName) prog_7_method_7_code (5 : Nat) (Option.some Jvm.ClassFile.FieldType.boolean)) ∈ li_ws := li_mem 555 (by decide +kernel) (by decide +kernel)
theorem w_556 : (Jvm.Cond.methodLink "ClockForTalk$Rule" (71 : Nat) ({ cls := "ClockForTalk$Rule", name := "readProduct", desc := "(LClockForTalk$Text;I)Z" } : Jvm.MethodName)) ∈ li_ws := li_mem 556 (by decide +kernel) (by decide +kernel)
theorem w_558 : (Jvm.Cond.instanceMethod ({ cls := "ClockForTalk$Rule", name := "readProduct", desc := "(LClockForTalk$Text;I)Z" } : Jvm.MethodName)) ∈ li_ws := li_mem 558 (by decide +kernel) (by decide +kernel)
theorem w_559 : (Jvm.Cond.code ({ cls := "ClockForTalk$Rule", name := "readProduct", desc := "(LClockForTalk$Text;I)Z" } : Jvm.MethodName) prog_7_method_8_code (5 : Nat) (Option.some Jvm.ClassFile.FieldType.boolean)) ∈ li_ws := li_mem 559 (by decide +kernel) (by decide +kernel)
theorem w_560 : (Jvm.Cond.methodLink "ClockForTalk$Rule" (76 : Nat) ({ cls := "ClockForTalk$Rule", name := "readFactor", desc := "(LClockForTalk$Text;I)Z" } : Jvm.MethodName)) ∈ li_ws := li_mem 560 (by decide +kernel) (by decide +kernel)
theorem w_562 : (Jvm.Cond.instanceMethod ({ cls := "ClockForTalk$Rule", name := "readFactor", desc := "(LClockForTalk$Text;I)Z" } : Jvm.MethodName)) ∈ li_ws := li_mem 562 (by decide +kernel) (by decide +kernel)
theorem w_563 : (Jvm.Cond.code ({ cls := "ClockForTalk$Rule", name := "readFactor", desc := "(LClockForTalk$Text;I)Z" } : Jvm.MethodName) prog_7_method_9_code (5 : Nat) (Option.some Jvm.ClassFile.FieldType.boolean)) ∈ li_ws := li_mem 563 (by decide +kernel) (by decide +kernel)
theorem w_564 : (Jvm.Cond.methodLink "ClockForTalk$Rule" (81 : Nat) ({ cls := "ClockForTalk$Text", name := "skip", desc := "(I)Z" } : Jvm.MethodName)) ∈ li_ws := li_mem 564 (by decide +kernel) (by decide +kernel)
theorem w_571 : (Jvm.Cond.methodLink "ClockForTalk$Rule" (84 : Nat) ({ cls := "ClockForTalk$Rule", name := "readAtom", desc := "(LClockForTalk$Text;I)Z" } : Jvm.MethodName)) ∈ li_ws := li_mem 571 (by decide +kernel) (by decide +kernel)
theorem w_573 : (Jvm.Cond.instanceMethod ({ cls := "ClockForTalk$Rule", name := "readAtom", desc := "(LClockForTalk$Text;I)Z" } : Jvm.MethodName)) ∈ li_ws := li_mem 573 (by decide +kernel) (by decide +kernel)
theorem w_574 : (Jvm.Cond.code ({ cls := "ClockForTalk$Rule", name := "readAtom", desc := "(LClockForTalk$Text;I)Z" } : Jvm.MethodName) prog_7_method_10_code (5 : Nat) (Option.some Jvm.ClassFile.FieldType.boolean)) ∈ li_ws := li_mem 574 (by decide +kernel) (by decide +kernel)
theorem w_576 : (Jvm.Cond.methodLink "ClockForTalk$Rule" (50 : Nat) ({ cls := "ClockForTalk$Text", name := "takeAnyOf", desc := "(Ljava/lang/String;)I" } : Jvm.MethodName)) ∈ li_ws := li_mem 576 (by decide +kernel) (by decide +kernel)
theorem w_577 : (Jvm.Cond.instanceMethod ({ cls := "ClockForTalk$Text", name := "takeAnyOf", desc := "(Ljava/lang/String;)I" } : Jvm.MethodName)) ∈ li_ws := li_mem 577 (by decide +kernel) (by decide +kernel)
theorem w_578 : (Jvm.Cond.selects "ClockForTalk$Text" ({ cls := "ClockForTalk$Text", name := "takeAnyOf", desc := "(Ljava/lang/String;)I" } : Jvm.MethodName) ({ cls := "ClockForTalk$Text", name := "takeAnyOf", desc := "(Ljava/lang/String;)I" } : Jvm.MethodName)) ∈ li_ws := li_mem 578 (by decide +kernel) (by decide +kernel)
theorem w_579 : (Jvm.Cond.code ({ cls := "ClockForTalk$Text", name := "takeAnyOf", desc := "(Ljava/lang/String;)I" } : Jvm.MethodName) prog_8_method_7_code (3 : Nat) (Option.some Jvm.ClassFile.FieldType.int)) ∈ li_ws := li_mem 579 (by decide +kernel) (by decide +kernel)
theorem w_629 : (Jvm.Cond.methodLink "ClockForTalk$Rule" (67 : Nat) ({ cls := "ClockForTalk$Rule", name := "add", desc := "(I)Z" } : Jvm.MethodName)) ∈ li_ws := li_mem 629 (by decide +kernel) (by decide +kernel)
theorem w_631 : (Jvm.Cond.instanceMethod ({ cls := "ClockForTalk$Rule", name := "add", desc := "(I)Z" } : Jvm.MethodName)) ∈ li_ws := li_mem 631 (by decide +kernel) (by decide +kernel)
theorem w_632 : (Jvm.Cond.code ({ cls := "ClockForTalk$Rule", name := "add", desc := "(I)Z" } : Jvm.MethodName) prog_7_method_4_code (2 : Nat) (Option.some Jvm.ClassFile.FieldType.boolean)) ∈ li_ws := li_mem 632 (by decide +kernel) (by decide +kernel)
theorem w_634 : (Jvm.Cond.methodLink "ClockForTalk$Rule" (89 : Nat) ({ cls := "ClockForTalk$Text", name := "takeNumber", desc := "(I)I" } : Jvm.MethodName)) ∈ li_ws := li_mem 634 (by decide +kernel) (by decide +kernel)
theorem w_645 : (Jvm.Cond.methodLink "ClockForTalk$Rule" (54 : Nat) ({ cls := "ClockForTalk$Rule", name := "addSign", desc := "(Ljava/lang/String;I)Z" } : Jvm.MethodName)) ∈ li_ws := li_mem 645 (by decide +kernel) (by decide +kernel)
theorem w_647 : (Jvm.Cond.instanceMethod ({ cls := "ClockForTalk$Rule", name := "addSign", desc := "(Ljava/lang/String;I)Z" } : Jvm.MethodName)) ∈ li_ws := li_mem 647 (by decide +kernel) (by decide +kernel)
theorem w_648 : (Jvm.Cond.code ({ cls := "ClockForTalk$Rule", name := "addSign", desc := "(Ljava/lang/String;I)Z" } : Jvm.MethodName) prog_7_method_6_code (3 : Nat) (Option.some Jvm.ClassFile.FieldType.boolean)) ∈ li_ws := li_mem 648 (by decide +kernel) (by decide +kernel)
theorem w_649 : (Jvm.Cond.methodLink "ClockForTalk$Rule" (58 : Nat) ({ cls := "java/lang/String", name := "length", desc := "()I" } : Jvm.MethodName)) ∈ li_ws := li_mem 649 (by decide +kernel) (by decide +kernel)
theorem w_650 : (Jvm.Cond.methodLink "ClockForTalk$Rule" (63 : Nat) ({ cls := "java/lang/String", name := "charAt", desc := "(I)C" } : Jvm.MethodName)) ∈ li_ws := li_mem 650 (by decide +kernel) (by decide +kernel)
theorem w_751 : (Jvm.Cond.methodLink "ClockForTalk$Rule" (25 : Nat) ({ cls := "java/lang/System", name := "arraycopy", desc := "(Ljava/lang/Object;ILjava/lang/Object;II)V" } : Jvm.MethodName)) ∈ li_ws := li_mem 751 (by decide +kernel) (by decide +kernel)
theorem w_832 : (Jvm.Cond.methodLink "ClockForTalk$Rule" (97 : Nat) ({ cls := "ClockForTalk$Rule", name := "usual", desc := "(II)I" } : Jvm.MethodName)) ∈ li_ws := li_mem 832 (by decide +kernel) (by decide +kernel)
theorem w_833 : (Jvm.Cond.static ({ cls := "ClockForTalk$Rule", name := "usual", desc := "(II)I" } : Jvm.MethodName)) ∈ li_ws := li_mem 833 (by decide +kernel) (by decide +kernel)
theorem w_834 : (Jvm.Cond.code ({ cls := "ClockForTalk$Rule", name := "usual", desc := "(II)I" } : Jvm.MethodName) prog_7_method_12_code (2 : Nat) (Option.some Jvm.ClassFile.FieldType.int)) ∈ li_ws := li_mem 834 (by decide +kernel) (by decide +kernel)
theorem w_835 : (Jvm.Cond.methodLink "ClockForTalk$Rule" (101 : Nat) ({ cls := "ClockForTalk$Rule", name := "reckon", desc := "(III)I" } : Jvm.MethodName)) ∈ li_ws := li_mem 835 (by decide +kernel) (by decide +kernel)
theorem w_836 : (Jvm.Cond.static ({ cls := "ClockForTalk$Rule", name := "reckon", desc := "(III)I" } : Jvm.MethodName)) ∈ li_ws := li_mem 836 (by decide +kernel) (by decide +kernel)
theorem w_837 : (Jvm.Cond.code ({ cls := "ClockForTalk$Rule", name := "reckon", desc := "(III)I" } : Jvm.MethodName) prog_7_method_13_code (3 : Nat) (Option.some Jvm.ClassFile.FieldType.int)) ∈ li_ws := li_mem 837 (by decide +kernel) (by decide +kernel)
theorem dX6_add_0 : decode cX6_add 0 = .ok (.aload_n 0, 1) := by decide +kernel
theorem dX6_add_1 : decode cX6_add 1 = .ok (.getfield 21, 3) := by decide +kernel
theorem dX6_add_4 : decode cX6_add 4 = .ok (.bipush 80, 2) := by decide +kernel
theorem dX6_add_6 : decode cX6_add 6 = .ok (.if_icmp .lt 5, 3) := by decide +kernel
theorem dX6_add_9 : decode cX6_add 9 = .ok (.iconst 0, 1) := by decide +kernel
theorem dX6_add_10 : decode cX6_add 10 = .ok (.ireturn, 1) := by decide +kernel
theorem dX6_add_11 : decode cX6_add 11 = .ok (.aload_n 0, 1) := by decide +kernel
theorem dX6_add_12 : decode cX6_add 12 = .ok (.getfield 9, 3) := by decide +kernel
theorem dX6_add_15 : decode cX6_add 15 = .ok (.aload_n 0, 1) := by decide +kernel
theorem dX6_add_16 : decode cX6_add 16 = .ok (.getfield 21, 3) := by decide +kernel
theorem dX6_add_19 : decode cX6_add 19 = .ok (.iload_n 1, 1) := by decide +kernel
theorem dX6_add_20 : decode cX6_add 20 = .ok (.invokestatic 41, 3) := by decide +kernel
theorem dX6_add_23 : decode cX6_add 23 = .ok (.aload_n 0, 1) := by decide +kernel
theorem dX6_add_24 : decode cX6_add 24 = .ok (.dup, 1) := by decide +kernel
theorem dX6_add_25 : decode cX6_add 25 = .ok (.getfield 21, 3) := by decide +kernel
theorem dX6_add_28 : decode cX6_add 28 = .ok (.iconst 1, 1) := by decide +kernel
theorem dX6_add_29 : decode cX6_add 29 = .ok (.iadd, 1) := by decide +kernel
theorem dX6_add_30 : decode cX6_add 30 = .ok (.putfield 21, 3) := by decide +kernel
theorem dX6_add_33 : decode cX6_add 33 = .ok (.iconst 1, 1) := by decide +kernel
theorem dX6_add_34 : decode cX6_add 34 = .ok (.ireturn, 1) := by decide +kernel
abbrev YX6_add : li_Y := (yX6_add, cX6_add, 2, (some .boolean))
theorem dX6_addSign_0 : decode cX6_addSign 0 = .ok (.iload_n 2, 1) := by decide +kernel
theorem dX6_addSign_1 : decode cX6_addSign 1 = .ok (.ifCond .lt 28, 3) := by decide +kernel
theorem dX6_addSign_4 : decode cX6_addSign 4 = .ok (.iload_n 2, 1) := by decide +kernel
theorem dX6_addSign_5 : decode cX6_addSign 5 = .ok (.aload_n 1, 1) := by decide +kernel
theorem dX6_addSign_6 : decode cX6_addSign 6 = .ok (.invokevirtual 58, 3) := by decide +kernel
theorem dX6_addSign_9 : decode cX6_addSign 9 = .ok (.if_icmp .ge 20, 3) := by decide +kernel
theorem dX6_addSign_12 : decode cX6_addSign 12 = .ok (.aload_n 0, 1) := by decide +kernel
theorem dX6_addSign_13 : decode cX6_addSign 13 = .ok (.aload_n 1, 1) := by decide +kernel
theorem dX6_addSign_14 : decode cX6_addSign 14 = .ok (.iload_n 2, 1) := by decide +kernel
theorem dX6_addSign_15 : decode cX6_addSign 15 = .ok (.invokevirtual 63, 3) := by decide +kernel
theorem dX6_addSign_18 : decode cX6_addSign 18 = .ok (.ineg, 1) := by decide +kernel
theorem dX6_addSign_19 : decode cX6_addSign 19 = .ok (.invokevirtual 67, 3) := by decide +kernel
theorem dX6_addSign_22 : decode cX6_addSign 22 = .ok (.ifCond .eq 7, 3) := by decide +kernel
theorem dX6_addSign_25 : decode cX6_addSign 25 = .ok (.iconst 1, 1) := by decide +kernel
theorem dX6_addSign_26 : decode cX6_addSign 26 = .ok (.goto 4, 3) := by decide +kernel
theorem dX6_addSign_29 : decode cX6_addSign 29 = .ok (.iconst 0, 1) := by decide +kernel
theorem dX6_addSign_30 : decode cX6_addSign 30 = .ok (.ireturn, 1) := by decide +kernel
abbrev YX6_addSign : li_Y := (yX6_addSign, cX6_addSign, 3, (some .boolean))
theorem dX6_readAtom_0 : decode cX6_readAtom 0 = .ok (.iload_n 2, 1) := by decide +kernel
theorem dX6_readAtom_1 : decode cX6_readAtom 1 = .ok (.iconst 4, 1) := by decide +kernel
theorem dX6_readAtom_2 : decode cX6_readAtom 2 = .ok (.if_icmp .ge 38, 3) := by decide +kernel
theorem dX6_readAtom_5 : decode cX6_readAtom 5 = .ok (.aload_n 1, 1) := by decide +kernel
theorem dX6_readAtom_6 : decode cX6_readAtom 6 = .ok (.bipush 40, 2) := by decide +kernel
theorem dX6_readAtom_8 : decode cX6_readAtom 8 = .ok (.invokevirtual 81, 3) := by decide +kernel
theorem dX6_readAtom_11 : decode cX6_readAtom 11 = .ok (.ifCond .eq 29, 3) := by decide +kernel
theorem dX6_readAtom_14 : decode cX6_readAtom 14 = .ok (.aload_n 0, 1) := by decide +kernel
theorem dX6_readAtom_15 : decode cX6_readAtom 15 = .ok (.aload_n 1, 1) := by decide +kernel
theorem dX6_readAtom_16 : decode cX6_readAtom 16 = .ok (.iload_n 2, 1) := by decide +kernel
theorem dX6_readAtom_17 : decode cX6_readAtom 17 = .ok (.iconst 1, 1) := by decide +kernel
theorem dX6_readAtom_18 : decode cX6_readAtom 18 = .ok (.iadd, 1) := by decide +kernel
theorem dX6_readAtom_19 : decode cX6_readAtom 19 = .ok (.invokevirtual 37, 3) := by decide +kernel
theorem dX6_readAtom_22 : decode cX6_readAtom 22 = .ok (.ifCond .eq 16, 3) := by decide +kernel
theorem dX6_readAtom_25 : decode cX6_readAtom 25 = .ok (.aload_n 1, 1) := by decide +kernel
theorem dX6_readAtom_26 : decode cX6_readAtom 26 = .ok (.bipush 41, 2) := by decide +kernel
theorem dX6_readAtom_28 : decode cX6_readAtom 28 = .ok (.invokevirtual 81, 3) := by decide +kernel
theorem dX6_readAtom_31 : decode cX6_readAtom 31 = .ok (.ifCond .eq 7, 3) := by decide +kernel
theorem dX6_readAtom_34 : decode cX6_readAtom 34 = .ok (.iconst 1, 1) := by decide +kernel
theorem dX6_readAtom_35 : decode cX6_readAtom 35 = .ok (.goto 4, 3) := by decide +kernel
theorem dX6_readAtom_38 : decode cX6_readAtom 38 = .ok (.iconst 0, 1) := by decide +kernel
theorem dX6_readAtom_39 : decode cX6_readAtom 39 = .ok (.ireturn, 1) := by decide +kernel
theorem dX6_readAtom_40 : decode cX6_readAtom 40 = .ok (.aload_n 1, 1) := by decide +kernel
theorem dX6_readAtom_41 : decode cX6_readAtom 41 = .ok (.ldc 87, 2) := by decide +kernel
theorem dX6_readAtom_43 : decode cX6_readAtom 43 = .ok (.invokevirtual 50, 3) := by decide +kernel
theorem dX6_readAtom_46 : decode cX6_readAtom 46 = .ok (.istore_n 3, 1) := by decide +kernel
theorem dX6_readAtom_47 : decode cX6_readAtom 47 = .ok (.iload_n 3, 1) := by decide +kernel
theorem dX6_readAtom_48 : decode cX6_readAtom 48 = .ok (.ifCond .lt 13, 3) := by decide +kernel
theorem dX6_readAtom_51 : decode cX6_readAtom 51 = .ok (.aload_n 0, 1) := by decide +kernel
theorem dX6_readAtom_52 : decode cX6_readAtom 52 = .ok (.sipush 1000, 3) := by decide +kernel
theorem dX6_readAtom_55 : decode cX6_readAtom 55 = .ok (.iload_n 3, 1) := by decide +kernel
theorem dX6_readAtom_56 : decode cX6_readAtom 56 = .ok (.iadd, 1) := by decide +kernel
theorem dX6_readAtom_57 : decode cX6_readAtom 57 = .ok (.invokevirtual 67, 3) := by decide +kernel
theorem dX6_readAtom_60 : decode cX6_readAtom 60 = .ok (.ireturn, 1) := by decide +kernel
theorem dX6_readAtom_61 : decode cX6_readAtom 61 = .ok (.aload_n 1, 1) := by decide +kernel
theorem dX6_readAtom_62 : decode cX6_readAtom 62 = .ok (.iconst 3, 1) := by decide +kernel
theorem dX6_readAtom_63 : decode cX6_readAtom 63 = .ok (.invokevirtual 89, 3) := by decide +kernel
theorem dX6_readAtom_66 : decode cX6_readAtom 66 = .ok (.istore 4, 2) := by decide +kernel
theorem dX6_readAtom_68 : decode cX6_readAtom 68 = .ok (.iload 4, 2) := by decide +kernel
theorem dX6_readAtom_70 : decode cX6_readAtom 70 = .ok (.ifCond .lt 16, 3) := by decide +kernel
theorem dX6_readAtom_73 : decode cX6_readAtom 73 = .ok (.aload_n 0, 1) := by decide +kernel
theorem dX6_readAtom_74 : decode cX6_readAtom 74 = .ok (.iload 4, 2) := by decide +kernel
theorem dX6_readAtom_76 : decode cX6_readAtom 76 = .ok (.invokevirtual 67, 3) := by decide +kernel
theorem dX6_readAtom_79 : decode cX6_readAtom 79 = .ok (.ifCond .eq 7, 3) := by decide +kernel
theorem dX6_readAtom_82 : decode cX6_readAtom 82 = .ok (.iconst 1, 1) := by decide +kernel
theorem dX6_readAtom_83 : decode cX6_readAtom 83 = .ok (.goto 4, 3) := by decide +kernel
theorem dX6_readAtom_86 : decode cX6_readAtom 86 = .ok (.iconst 0, 1) := by decide +kernel
theorem dX6_readAtom_87 : decode cX6_readAtom 87 = .ok (.ireturn, 1) := by decide +kernel
abbrev YX6_readAtom : li_Y := (yX6_readAtom, cX6_readAtom, 5, (some .boolean))
theorem dX6_readFactor_0 : decode cX6_readFactor 0 = .ok (.iconst 0, 1) := by decide +kernel
theorem dX6_readFactor_1 : decode cX6_readFactor 1 = .ok (.istore_n 3, 1) := by decide +kernel
theorem dX6_readFactor_2 : decode cX6_readFactor 2 = .ok (.iconst 0, 1) := by decide +kernel
theorem dX6_readFactor_3 : decode cX6_readFactor 3 = .ok (.istore 4, 2) := by decide +kernel
theorem dX6_readFactor_5 : decode cX6_readFactor 5 = .ok (.iload 4, 2) := by decide +kernel
theorem dX6_readFactor_7 : decode cX6_readFactor 7 = .ok (.bipush 80, 2) := by decide +kernel
theorem dX6_readFactor_9 : decode cX6_readFactor 9 = .ok (.if_icmp .ge 28, 3) := by decide +kernel
theorem dX6_readFactor_12 : decode cX6_readFactor 12 = .ok (.aload_n 1, 1) := by decide +kernel
theorem dX6_readFactor_13 : decode cX6_readFactor 13 = .ok (.bipush 45, 2) := by decide +kernel
theorem dX6_readFactor_15 : decode cX6_readFactor 15 = .ok (.invokevirtual 81, 3) := by decide +kernel
theorem dX6_readFactor_18 : decode cX6_readFactor 18 = .ok (.ifCond .eq 19, 3) := by decide +kernel
theorem dX6_readFactor_21 : decode cX6_readFactor 21 = .ok (.iload_n 3, 1) := by decide +kernel
theorem dX6_readFactor_22 : decode cX6_readFactor 22 = .ok (.ifCond .ne 7, 3) := by decide +kernel
theorem dX6_readFactor_25 : decode cX6_readFactor 25 = .ok (.iconst 1, 1) := by decide +kernel
theorem dX6_readFactor_26 : decode cX6_readFactor 26 = .ok (.goto 4, 3) := by decide +kernel
theorem dX6_readFactor_29 : decode cX6_readFactor 29 = .ok (.iconst 0, 1) := by decide +kernel
theorem dX6_readFactor_30 : decode cX6_readFactor 30 = .ok (.istore_n 3, 1) := by decide +kernel
theorem dX6_readFactor_31 : decode cX6_readFactor 31 = .ok (.iinc 4 1, 3) := by decide +kernel
theorem dX6_readFactor_34 : decode cX6_readFactor 34 = .ok (.goto (-29), 3) := by decide +kernel
theorem dX6_readFactor_37 : decode cX6_readFactor 37 = .ok (.aload_n 0, 1) := by decide +kernel
theorem dX6_readFactor_38 : decode cX6_readFactor 38 = .ok (.aload_n 1, 1) := by decide +kernel
theorem dX6_readFactor_39 : decode cX6_readFactor 39 = .ok (.iload_n 2, 1) := by decide +kernel
theorem dX6_readFactor_40 : decode cX6_readFactor 40 = .ok (.invokevirtual 84, 3) := by decide +kernel
theorem dX6_readFactor_43 : decode cX6_readFactor 43 = .ok (.ifCond .eq 20, 3) := by decide +kernel
theorem dX6_readFactor_46 : decode cX6_readFactor 46 = .ok (.iload_n 3, 1) := by decide +kernel
theorem dX6_readFactor_47 : decode cX6_readFactor 47 = .ok (.ifCond .eq 12, 3) := by decide +kernel
theorem dX6_readFactor_50 : decode cX6_readFactor 50 = .ok (.aload_n 0, 1) := by decide +kernel
theorem dX6_readFactor_51 : decode cX6_readFactor 51 = .ok (.bipush (-126), 2) := by decide +kernel
theorem dX6_readFactor_53 : decode cX6_readFactor 53 = .ok (.invokevirtual 67, 3) := by decide +kernel
theorem dX6_readFactor_56 : decode cX6_readFactor 56 = .ok (.ifCond .eq 7, 3) := by decide +kernel
theorem dX6_readFactor_59 : decode cX6_readFactor 59 = .ok (.iconst 1, 1) := by decide +kernel
theorem dX6_readFactor_60 : decode cX6_readFactor 60 = .ok (.goto 4, 3) := by decide +kernel
theorem dX6_readFactor_63 : decode cX6_readFactor 63 = .ok (.iconst 0, 1) := by decide +kernel
theorem dX6_readFactor_64 : decode cX6_readFactor 64 = .ok (.ireturn, 1) := by decide +kernel
abbrev YX6_readFactor : li_Y := (yX6_readFactor, cX6_readFactor, 5, (some .boolean))
theorem dX6_readProduct_0 : decode cX6_readProduct 0 = .ok (.aload_n 0, 1) := by decide +kernel
theorem dX6_readProduct_1 : decode cX6_readProduct 1 = .ok (.aload_n 1, 1) := by decide +kernel
theorem dX6_readProduct_2 : decode cX6_readProduct 2 = .ok (.iload_n 2, 1) := by decide +kernel
theorem dX6_readProduct_3 : decode cX6_readProduct 3 = .ok (.invokevirtual 76, 3) := by decide +kernel
theorem dX6_readProduct_6 : decode cX6_readProduct 6 = .ok (.ifCond .ne 5, 3) := by decide +kernel
theorem dX6_readProduct_9 : decode cX6_readProduct 9 = .ok (.iconst 0, 1) := by decide +kernel
theorem dX6_readProduct_10 : decode cX6_readProduct 10 = .ok (.ireturn, 1) := by decide +kernel
theorem dX6_readProduct_11 : decode cX6_readProduct 11 = .ok (.iconst 0, 1) := by decide +kernel
theorem dX6_readProduct_12 : decode cX6_readProduct 12 = .ok (.istore_n 3, 1) := by decide +kernel
theorem dX6_readProduct_13 : decode cX6_readProduct 13 = .ok (.iload_n 3, 1) := by decide +kernel
theorem dX6_readProduct_14 : decode cX6_readProduct 14 = .ok (.bipush 80, 2) := by decide +kernel
theorem dX6_readProduct_16 : decode cX6_readProduct 16 = .ok (.if_icmp .ge 46, 3) := by decide +kernel
theorem dX6_readProduct_19 : decode cX6_readProduct 19 = .ok (.aload_n 1, 1) := by decide +kernel
theorem dX6_readProduct_20 : decode cX6_readProduct 20 = .ok (.ldc 79, 2) := by decide +kernel
theorem dX6_readProduct_22 : decode cX6_readProduct 22 = .ok (.invokevirtual 50, 3) := by decide +kernel
theorem dX6_readProduct_25 : decode cX6_readProduct 25 = .ok (.istore 4, 2) := by decide +kernel
theorem dX6_readProduct_27 : decode cX6_readProduct 27 = .ok (.iload 4, 2) := by decide +kernel
theorem dX6_readProduct_29 : decode cX6_readProduct 29 = .ok (.ifCond .ge 5, 3) := by decide +kernel
theorem dX6_readProduct_32 : decode cX6_readProduct 32 = .ok (.iconst 1, 1) := by decide +kernel
theorem dX6_readProduct_33 : decode cX6_readProduct 33 = .ok (.ireturn, 1) := by decide +kernel
theorem dX6_readProduct_34 : decode cX6_readProduct 34 = .ok (.aload_n 0, 1) := by decide +kernel
theorem dX6_readProduct_35 : decode cX6_readProduct 35 = .ok (.aload_n 1, 1) := by decide +kernel
theorem dX6_readProduct_36 : decode cX6_readProduct 36 = .ok (.iload_n 2, 1) := by decide +kernel
theorem dX6_readProduct_37 : decode cX6_readProduct 37 = .ok (.invokevirtual 76, 3) := by decide +kernel
theorem dX6_readProduct_40 : decode cX6_readProduct 40 = .ok (.ifCond .eq 14, 3) := by decide +kernel
theorem dX6_readProduct_43 : decode cX6_readProduct 43 = .ok (.aload_n 0, 1) := by decide +kernel
theorem dX6_readProduct_44 : decode cX6_readProduct 44 = .ok (.ldc 79, 2) := by decide +kernel
theorem dX6_readProduct_46 : decode cX6_readProduct 46 = .ok (.iload 4, 2) := by decide +kernel
theorem dX6_readProduct_48 : decode cX6_readProduct 48 = .ok (.invokevirtual 54, 3) := by decide +kernel
theorem dX6_readProduct_51 : decode cX6_readProduct 51 = .ok (.ifCond .ne 5, 3) := by decide +kernel
theorem dX6_readProduct_54 : decode cX6_readProduct 54 = .ok (.iconst 0, 1) := by decide +kernel
theorem dX6_readProduct_55 : decode cX6_readProduct 55 = .ok (.ireturn, 1) := by decide +kernel
theorem dX6_readProduct_56 : decode cX6_readProduct 56 = .ok (.iinc 3 1, 3) := by decide +kernel
theorem dX6_readProduct_59 : decode cX6_readProduct 59 = .ok (.goto (-46), 3) := by decide +kernel
theorem dX6_readProduct_62 : decode cX6_readProduct 62 = .ok (.iconst 1, 1) := by decide +kernel
theorem dX6_readProduct_63 : decode cX6_readProduct 63 = .ok (.ireturn, 1) := by decide +kernel
abbrev YX6_readProduct : li_Y := (yX6_readProduct, cX6_readProduct, 5, (some .boolean))
theorem dX6_readSum_0 : decode cX6_readSum 0 = .ok (.aload_n 0, 1) := by decide +kernel
theorem dX6_readSum_1 : decode cX6_readSum 1 = .ok (.aload_n 1, 1) := by decide +kernel
theorem dX6_readSum_2 : decode cX6_readSum 2 = .ok (.iload_n 2, 1) := by decide +kernel
theorem dX6_readSum_3 : decode cX6_readSum 3 = .ok (.invokevirtual 71, 3) := by decide +kernel
theorem dX6_readSum_6 : decode cX6_readSum 6 = .ok (.ifCond .ne 5, 3) := by decide +kernel
theorem dX6_readSum_9 : decode cX6_readSum 9 = .ok (.iconst 0, 1) := by decide +kernel
theorem dX6_readSum_10 : decode cX6_readSum 10 = .ok (.ireturn, 1) := by decide +kernel
theorem dX6_readSum_11 : decode cX6_readSum 11 = .ok (.iconst 0, 1) := by decide +kernel
theorem dX6_readSum_12 : decode cX6_readSum 12 = .ok (.istore_n 3, 1) := by decide +kernel
theorem dX6_readSum_13 : decode cX6_readSum 13 = .ok (.iload_n 3, 1) := by decide +kernel
theorem dX6_readSum_14 : decode cX6_readSum 14 = .ok (.bipush 80, 2) := by decide +kernel
theorem dX6_readSum_16 : decode cX6_readSum 16 = .ok (.if_icmp .ge 46, 3) := by decide +kernel
theorem dX6_readSum_19 : decode cX6_readSum 19 = .ok (.aload_n 1, 1) := by decide +kernel
theorem dX6_readSum_20 : decode cX6_readSum 20 = .ok (.ldc 74, 2) := by decide +kernel
theorem dX6_readSum_22 : decode cX6_readSum 22 = .ok (.invokevirtual 50, 3) := by decide +kernel
theorem dX6_readSum_25 : decode cX6_readSum 25 = .ok (.istore 4, 2) := by decide +kernel
theorem dX6_readSum_27 : decode cX6_readSum 27 = .ok (.iload 4, 2) := by decide +kernel
theorem dX6_readSum_29 : decode cX6_readSum 29 = .ok (.ifCond .ge 5, 3) := by decide +kernel
theorem dX6_readSum_32 : decode cX6_readSum 32 = .ok (.iconst 1, 1) := by decide +kernel
theorem dX6_readSum_33 : decode cX6_readSum 33 = .ok (.ireturn, 1) := by decide +kernel
theorem dX6_readSum_34 : decode cX6_readSum 34 = .ok (.aload_n 0, 1) := by decide +kernel
theorem dX6_readSum_35 : decode cX6_readSum 35 = .ok (.aload_n 1, 1) := by decide +kernel
theorem dX6_readSum_36 : decode cX6_readSum 36 = .ok (.iload_n 2, 1) := by decide +kernel
theorem dX6_readSum_37 : decode cX6_readSum 37 = .ok (.invokevirtual 71, 3) := by decide +kernel
theorem dX6_readSum_40 : decode cX6_readSum 40 = .ok (.ifCond .eq 14, 3) := by decide +kernel
theorem dX6_readSum_43 : decode cX6_readSum 43 = .ok (.aload_n 0, 1) := by decide +kernel
theorem dX6_readSum_44 : decode cX6_readSum 44 = .ok (.ldc 74, 2) := by decide +kernel
theorem dX6_readSum_46 : decode cX6_readSum 46 = .ok (.iload 4, 2) := by decide +kernel
theorem dX6_readSum_48 : decode cX6_readSum 48 = .ok (.invokevirtual 54, 3) := by decide +kernel
theorem dX6_readSum_51 : decode cX6_readSum 51 = .ok (.ifCond .ne 5, 3) := by decide +kernel
theorem dX6_readSum_54 : decode cX6_readSum 54 = .ok (.iconst 0, 1) := by decide +kernel
theorem dX6_readSum_55 : decode cX6_readSum 55 = .ok (.ireturn, 1) := by decide +kernel
theorem dX6_readSum_56 : decode cX6_readSum 56 = .ok (.iinc 3 1, 3) := by decide +kernel
theorem dX6_readSum_59 : decode cX6_readSum 59 = .ok (.goto (-46), 3) := by decide +kernel
theorem dX6_readSum_62 : decode cX6_readSum 62 = .ok (.iconst 1, 1) := by decide +kernel
theorem dX6_readSum_63 : decode cX6_readSum 63 = .ok (.ireturn, 1) := by decide +kernel
abbrev YX6_readSum : li_Y := (yX6_readSum, cX6_readSum, 5, (some .boolean))
theorem dX6_readExpression_0 : decode cX6_readExpression 0 = .ok (.iload_n 2, 1) := by decide +kernel
theorem dX6_readExpression_1 : decode cX6_readExpression 1 = .ok (.iconst 4, 1) := by decide +kernel
theorem dX6_readExpression_2 : decode cX6_readExpression 2 = .ok (.if_icmp .gt 12, 3) := by decide +kernel
theorem dX6_readExpression_5 : decode cX6_readExpression 5 = .ok (.aload_n 0, 1) := by decide +kernel
theorem dX6_readExpression_6 : decode cX6_readExpression 6 = .ok (.aload_n 1, 1) := by decide +kernel
theorem dX6_readExpression_7 : decode cX6_readExpression 7 = .ok (.iload_n 2, 1) := by decide +kernel
theorem dX6_readExpression_8 : decode cX6_readExpression 8 = .ok (.invokevirtual 45, 3) := by decide +kernel
theorem dX6_readExpression_11 : decode cX6_readExpression 11 = .ok (.ifCond .ne 5, 3) := by decide +kernel
theorem dX6_readExpression_14 : decode cX6_readExpression 14 = .ok (.iconst 0, 1) := by decide +kernel
theorem dX6_readExpression_15 : decode cX6_readExpression 15 = .ok (.ireturn, 1) := by decide +kernel
theorem dX6_readExpression_16 : decode cX6_readExpression 16 = .ok (.aload_n 1, 1) := by decide +kernel
theorem dX6_readExpression_17 : decode cX6_readExpression 17 = .ok (.ldc 48, 2) := by decide +kernel
theorem dX6_readExpression_19 : decode cX6_readExpression 19 = .ok (.invokevirtual 50, 3) := by decide +kernel
theorem dX6_readExpression_22 : decode cX6_readExpression 22 = .ok (.istore_n 3, 1) := by decide +kernel
theorem dX6_readExpression_23 : decode cX6_readExpression 23 = .ok (.iload_n 3, 1) := by decide +kernel
theorem dX6_readExpression_24 : decode cX6_readExpression 24 = .ok (.ifCond .lt 22, 3) := by decide +kernel
theorem dX6_readExpression_27 : decode cX6_readExpression 27 = .ok (.aload_n 0, 1) := by decide +kernel
theorem dX6_readExpression_28 : decode cX6_readExpression 28 = .ok (.aload_n 1, 1) := by decide +kernel
theorem dX6_readExpression_29 : decode cX6_readExpression 29 = .ok (.iload_n 2, 1) := by decide +kernel
theorem dX6_readExpression_30 : decode cX6_readExpression 30 = .ok (.invokevirtual 45, 3) := by decide +kernel
theorem dX6_readExpression_33 : decode cX6_readExpression 33 = .ok (.ifCond .eq 17, 3) := by decide +kernel
theorem dX6_readExpression_36 : decode cX6_readExpression 36 = .ok (.aload_n 0, 1) := by decide +kernel
theorem dX6_readExpression_37 : decode cX6_readExpression 37 = .ok (.ldc 48, 2) := by decide +kernel
theorem dX6_readExpression_39 : decode cX6_readExpression 39 = .ok (.iload_n 3, 1) := by decide +kernel
theorem dX6_readExpression_40 : decode cX6_readExpression 40 = .ok (.invokevirtual 54, 3) := by decide +kernel
theorem dX6_readExpression_43 : decode cX6_readExpression 43 = .ok (.ifCond .eq 7, 3) := by decide +kernel
theorem dX6_readExpression_46 : decode cX6_readExpression 46 = .ok (.iconst 1, 1) := by decide +kernel
theorem dX6_readExpression_47 : decode cX6_readExpression 47 = .ok (.goto 4, 3) := by decide +kernel
theorem dX6_readExpression_50 : decode cX6_readExpression 50 = .ok (.iconst 0, 1) := by decide +kernel
theorem dX6_readExpression_51 : decode cX6_readExpression 51 = .ok (.ireturn, 1) := by decide +kernel
abbrev YX6_readExpression : li_Y := (yX6_readExpression, cX6_readExpression, 4, (some .boolean))
theorem dX6_readAll_0 : decode cX6_readAll 0 = .ok (.aload_n 0, 1) := by decide +kernel
theorem dX6_readAll_1 : decode cX6_readAll 1 = .ok (.iconst 0, 1) := by decide +kernel
theorem dX6_readAll_2 : decode cX6_readAll 2 = .ok (.putfield 21, 3) := by decide +kernel
theorem dX6_readAll_5 : decode cX6_readAll 5 = .ok (.aload_n 1, 1) := by decide +kernel
theorem dX6_readAll_6 : decode cX6_readAll 6 = .ok (.invokevirtual 31, 3) := by decide +kernel
theorem dX6_readAll_9 : decode cX6_readAll 9 = .ok (.ifCond .ne 19, 3) := by decide +kernel
theorem dX6_readAll_12 : decode cX6_readAll 12 = .ok (.aload_n 0, 1) := by decide +kernel
theorem dX6_readAll_13 : decode cX6_readAll 13 = .ok (.aload_n 1, 1) := by decide +kernel
theorem dX6_readAll_14 : decode cX6_readAll 14 = .ok (.iconst 0, 1) := by decide +kernel
theorem dX6_readAll_15 : decode cX6_readAll 15 = .ok (.invokevirtual 37, 3) := by decide +kernel
theorem dX6_readAll_18 : decode cX6_readAll 18 = .ok (.ifCond .eq 14, 3) := by decide +kernel
theorem dX6_readAll_21 : decode cX6_readAll 21 = .ok (.aload_n 1, 1) := by decide +kernel
theorem dX6_readAll_22 : decode cX6_readAll 22 = .ok (.invokevirtual 31, 3) := by decide +kernel
theorem dX6_readAll_25 : decode cX6_readAll 25 = .ok (.ifCond .eq 7, 3) := by decide +kernel
theorem dX6_readAll_28 : decode cX6_readAll 28 = .ok (.iconst 1, 1) := by decide +kernel
theorem dX6_readAll_29 : decode cX6_readAll 29 = .ok (.goto 4, 3) := by decide +kernel
theorem dX6_readAll_32 : decode cX6_readAll 32 = .ok (.iconst 0, 1) := by decide +kernel
theorem dX6_readAll_33 : decode cX6_readAll 33 = .ok (.ireturn, 1) := by decide +kernel
abbrev YX6_readAll : li_Y := (yX6_readAll, cX6_readAll, 2, (some .boolean))
theorem dX6_copyFrom_0 : decode cX6_copyFrom 0 = .ok (.aload_n 0, 1) := by decide +kernel
theorem dX6_copyFrom_1 : decode cX6_copyFrom 1 = .ok (.aload_n 1, 1) := by decide +kernel
theorem dX6_copyFrom_2 : decode cX6_copyFrom 2 = .ok (.getfield 21, 3) := by decide +kernel
theorem dX6_copyFrom_5 : decode cX6_copyFrom 5 = .ok (.putfield 21, 3) := by decide +kernel
theorem dX6_copyFrom_8 : decode cX6_copyFrom 8 = .ok (.aload_n 1, 1) := by decide +kernel
theorem dX6_copyFrom_9 : decode cX6_copyFrom 9 = .ok (.getfield 9, 3) := by decide +kernel
theorem dX6_copyFrom_12 : decode cX6_copyFrom 12 = .ok (.iconst 0, 1) := by decide +kernel
theorem dX6_copyFrom_13 : decode cX6_copyFrom 13 = .ok (.aload_n 0, 1) := by decide +kernel
theorem dX6_copyFrom_14 : decode cX6_copyFrom 14 = .ok (.getfield 9, 3) := by decide +kernel
theorem dX6_copyFrom_17 : decode cX6_copyFrom 17 = .ok (.iconst 0, 1) := by decide +kernel
theorem dX6_copyFrom_18 : decode cX6_copyFrom 18 = .ok (.bipush 80, 2) := by decide +kernel
theorem dX6_copyFrom_20 : decode cX6_copyFrom 20 = .ok (.invokestatic 25, 3) := by decide +kernel
theorem dX6_copyFrom_23 : decode cX6_copyFrom 23 = .ok (.return_, 1) := by decide +kernel
abbrev YX6_copyFrom : li_Y := (yX6_copyFrom, cX6_copyFrom, 2, none)
theorem dX6_evaluate_0 : decode cX6_evaluate 0 = .ok (.aload_n 0, 1) := by decide +kernel
theorem dX6_evaluate_1 : decode cX6_evaluate 1 = .ok (.getfield 21, 3) := by decide +kernel
theorem dX6_evaluate_4 : decode cX6_evaluate 4 = .ok (.ifCond .ne 23, 3) := by decide +kernel
theorem dX6_evaluate_7 : decode cX6_evaluate 7 = .ok (.aload_n 0, 1) := by decide +kernel
theorem dX6_evaluate_8 : decode cX6_evaluate 8 = .ok (.getfield 18, 3) := by decide +kernel
theorem dX6_evaluate_11 : decode cX6_evaluate 11 = .ok (.iconst 0, 1) := by decide +kernel
theorem dX6_evaluate_12 : decode cX6_evaluate 12 = .ok (.invokestatic 93, 3) := by decide +kernel
theorem dX6_evaluate_15 : decode cX6_evaluate 15 = .ok (.aload_n 0, 1) := by decide +kernel
theorem dX6_evaluate_16 : decode cX6_evaluate 16 = .ok (.getfield 18, 3) := by decide +kernel
theorem dX6_evaluate_19 : decode cX6_evaluate 19 = .ok (.iconst 1, 1) := by decide +kernel
theorem dX6_evaluate_20 : decode cX6_evaluate 20 = .ok (.invokestatic 93, 3) := by decide +kernel
theorem dX6_evaluate_23 : decode cX6_evaluate 23 = .ok (.invokestatic 97, 3) := by decide +kernel
theorem dX6_evaluate_26 : decode cX6_evaluate 26 = .ok (.ireturn, 1) := by decide +kernel
theorem dX6_evaluate_27 : decode cX6_evaluate 27 = .ok (.iconst 0, 1) := by decide +kernel
theorem dX6_evaluate_28 : decode cX6_evaluate 28 = .ok (.istore_n 1, 1) := by decide +kernel
theorem dX6_evaluate_29 : decode cX6_evaluate 29 = .ok (.iconst 0, 1) := by decide +kernel
theorem dX6_evaluate_30 : decode cX6_evaluate 30 = .ok (.istore_n 2, 1) := by decide +kernel
theorem dX6_evaluate_31 : decode cX6_evaluate 31 = .ok (.iload_n 2, 1) := by decide +kernel
theorem dX6_evaluate_32 : decode cX6_evaluate 32 = .ok (.aload_n 0, 1) := by decide +kernel
theorem dX6_evaluate_33 : decode cX6_evaluate 33 = .ok (.getfield 21, 3) := by decide +kernel
theorem dX6_evaluate_36 : decode cX6_evaluate 36 = .ok (.if_icmp .ge 136, 3) := by decide +kernel
theorem dX6_evaluate_39 : decode cX6_evaluate 39 = .ok (.aload_n 0, 1) := by decide +kernel
theorem dX6_evaluate_40 : decode cX6_evaluate 40 = .ok (.getfield 9, 3) := by decide +kernel
theorem dX6_evaluate_43 : decode cX6_evaluate 43 = .ok (.iload_n 2, 1) := by decide +kernel
theorem dX6_evaluate_44 : decode cX6_evaluate 44 = .ok (.invokestatic 93, 3) := by decide +kernel
theorem dX6_evaluate_47 : decode cX6_evaluate 47 = .ok (.istore_n 3, 1) := by decide +kernel
theorem dX6_evaluate_48 : decode cX6_evaluate 48 = .ok (.iload_n 3, 1) := by decide +kernel
theorem dX6_evaluate_49 : decode cX6_evaluate 49 = .ok (.sipush 1000, 3) := by decide +kernel
theorem dX6_evaluate_52 : decode cX6_evaluate 52 = .ok (.if_icmp .lt 29, 3) := by decide +kernel
theorem dX6_evaluate_55 : decode cX6_evaluate 55 = .ok (.aload_n 0, 1) := by decide +kernel
theorem dX6_evaluate_56 : decode cX6_evaluate 56 = .ok (.getfield 15, 3) := by decide +kernel
theorem dX6_evaluate_59 : decode cX6_evaluate 59 = .ok (.iload_n 1, 1) := by decide +kernel
theorem dX6_evaluate_60 : decode cX6_evaluate 60 = .ok (.iinc 1 1, 3) := by decide +kernel
theorem dX6_evaluate_63 : decode cX6_evaluate 63 = .ok (.aload_n 0, 1) := by decide +kernel
theorem dX6_evaluate_64 : decode cX6_evaluate 64 = .ok (.getfield 18, 3) := by decide +kernel
theorem dX6_evaluate_67 : decode cX6_evaluate 67 = .ok (.iload_n 3, 1) := by decide +kernel
theorem dX6_evaluate_68 : decode cX6_evaluate 68 = .ok (.sipush 1000, 3) := by decide +kernel
theorem dX6_evaluate_71 : decode cX6_evaluate 71 = .ok (.isub, 1) := by decide +kernel
theorem dX6_evaluate_72 : decode cX6_evaluate 72 = .ok (.invokestatic 93, 3) := by decide +kernel
theorem dX6_evaluate_75 : decode cX6_evaluate 75 = .ok (.invokestatic 41, 3) := by decide +kernel
theorem dX6_evaluate_78 : decode cX6_evaluate 78 = .ok (.goto 88, 3) := by decide +kernel
theorem dX6_evaluate_81 : decode cX6_evaluate 81 = .ok (.iload_n 3, 1) := by decide +kernel
theorem dX6_evaluate_82 : decode cX6_evaluate 82 = .ok (.ifCond .lt 18, 3) := by decide +kernel
theorem dX6_evaluate_85 : decode cX6_evaluate 85 = .ok (.aload_n 0, 1) := by decide +kernel
theorem dX6_evaluate_86 : decode cX6_evaluate 86 = .ok (.getfield 15, 3) := by decide +kernel
theorem dX6_evaluate_89 : decode cX6_evaluate 89 = .ok (.iload_n 1, 1) := by decide +kernel
theorem dX6_evaluate_90 : decode cX6_evaluate 90 = .ok (.iinc 1 1, 3) := by decide +kernel
theorem dX6_evaluate_93 : decode cX6_evaluate 93 = .ok (.iload_n 3, 1) := by decide +kernel
theorem dX6_evaluate_94 : decode cX6_evaluate 94 = .ok (.invokestatic 41, 3) := by decide +kernel
theorem dX6_evaluate_97 : decode cX6_evaluate 97 = .ok (.goto 69, 3) := by decide +kernel
theorem dX6_evaluate_100 : decode cX6_evaluate 100 = .ok (.iload_n 3, 1) := by decide +kernel
theorem dX6_evaluate_101 : decode cX6_evaluate 101 = .ok (.bipush (-126), 2) := by decide +kernel
theorem dX6_evaluate_103 : decode cX6_evaluate 103 = .ok (.if_icmp .ne 27, 3) := by decide +kernel
theorem dX6_evaluate_106 : decode cX6_evaluate 106 = .ok (.aload_n 0, 1) := by decide +kernel
theorem dX6_evaluate_107 : decode cX6_evaluate 107 = .ok (.getfield 15, 3) := by decide +kernel
theorem dX6_evaluate_110 : decode cX6_evaluate 110 = .ok (.iload_n 1, 1) := by decide +kernel
theorem dX6_evaluate_111 : decode cX6_evaluate 111 = .ok (.iconst 1, 1) := by decide +kernel
theorem dX6_evaluate_112 : decode cX6_evaluate 112 = .ok (.isub, 1) := by decide +kernel
theorem dX6_evaluate_113 : decode cX6_evaluate 113 = .ok (.aload_n 0, 1) := by decide +kernel
theorem dX6_evaluate_114 : decode cX6_evaluate 114 = .ok (.getfield 15, 3) := by decide +kernel
theorem dX6_evaluate_117 : decode cX6_evaluate 117 = .ok (.iload_n 1, 1) := by decide +kernel
theorem dX6_evaluate_118 : decode cX6_evaluate 118 = .ok (.iconst 1, 1) := by decide +kernel
theorem dX6_evaluate_119 : decode cX6_evaluate 119 = .ok (.isub, 1) := by decide +kernel
theorem dX6_evaluate_120 : decode cX6_evaluate 120 = .ok (.invokestatic 93, 3) := by decide +kernel
theorem dX6_evaluate_123 : decode cX6_evaluate 123 = .ok (.ineg, 1) := by decide +kernel
theorem dX6_evaluate_124 : decode cX6_evaluate 124 = .ok (.invokestatic 41, 3) := by decide +kernel
theorem dX6_evaluate_127 : decode cX6_evaluate 127 = .ok (.goto 39, 3) := by decide +kernel
theorem dX6_evaluate_130 : decode cX6_evaluate 130 = .ok (.iinc 1 (-1), 3) := by decide +kernel
theorem dX6_evaluate_133 : decode cX6_evaluate 133 = .ok (.aload_n 0, 1) := by decide +kernel
theorem dX6_evaluate_134 : decode cX6_evaluate 134 = .ok (.getfield 15, 3) := by decide +kernel
theorem dX6_evaluate_137 : decode cX6_evaluate 137 = .ok (.iload_n 1, 1) := by decide +kernel
theorem dX6_evaluate_138 : decode cX6_evaluate 138 = .ok (.iconst 1, 1) := by decide +kernel
theorem dX6_evaluate_139 : decode cX6_evaluate 139 = .ok (.isub, 1) := by decide +kernel
theorem dX6_evaluate_140 : decode cX6_evaluate 140 = .ok (.iload_n 3, 1) := by decide +kernel
theorem dX6_evaluate_141 : decode cX6_evaluate 141 = .ok (.ineg, 1) := by decide +kernel
theorem dX6_evaluate_142 : decode cX6_evaluate 142 = .ok (.aload_n 0, 1) := by decide +kernel
theorem dX6_evaluate_143 : decode cX6_evaluate 143 = .ok (.getfield 15, 3) := by decide +kernel
theorem dX6_evaluate_146 : decode cX6_evaluate 146 = .ok (.iload_n 1, 1) := by decide +kernel
theorem dX6_evaluate_147 : decode cX6_evaluate 147 = .ok (.iconst 1, 1) := by decide +kernel
theorem dX6_evaluate_148 : decode cX6_evaluate 148 = .ok (.isub, 1) := by decide +kernel
theorem dX6_evaluate_149 : decode cX6_evaluate 149 = .ok (.invokestatic 93, 3) := by decide +kernel
theorem dX6_evaluate_152 : decode cX6_evaluate 152 = .ok (.aload_n 0, 1) := by decide +kernel
theorem dX6_evaluate_153 : decode cX6_evaluate 153 = .ok (.getfield 15, 3) := by decide +kernel
theorem dX6_evaluate_156 : decode cX6_evaluate 156 = .ok (.iload_n 1, 1) := by decide +kernel
theorem dX6_evaluate_157 : decode cX6_evaluate 157 = .ok (.invokestatic 93, 3) := by decide +kernel
theorem dX6_evaluate_160 : decode cX6_evaluate 160 = .ok (.invokestatic 101, 3) := by decide +kernel
theorem dX6_evaluate_163 : decode cX6_evaluate 163 = .ok (.invokestatic 41, 3) := by decide +kernel
theorem dX6_evaluate_166 : decode cX6_evaluate 166 = .ok (.iinc 2 1, 3) := by decide +kernel
theorem dX6_evaluate_169 : decode cX6_evaluate 169 = .ok (.goto (-138), 3) := by decide +kernel
theorem dX6_evaluate_172 : decode cX6_evaluate 172 = .ok (.aload_n 0, 1) := by decide +kernel
theorem dX6_evaluate_173 : decode cX6_evaluate 173 = .ok (.getfield 15, 3) := by decide +kernel
theorem dX6_evaluate_176 : decode cX6_evaluate 176 = .ok (.iconst 0, 1) := by decide +kernel
theorem dX6_evaluate_177 : decode cX6_evaluate 177 = .ok (.invokestatic 93, 3) := by decide +kernel
theorem dX6_evaluate_180 : decode cX6_evaluate 180 = .ok (.sipush 999, 3) := by decide +kernel
theorem dX6_evaluate_183 : decode cX6_evaluate 183 = .ok (.invokestatic 105, 3) := by decide +kernel
theorem dX6_evaluate_186 : decode cX6_evaluate 186 = .ok (.ireturn, 1) := by decide +kernel
abbrev YX6_evaluate : li_Y := (yX6_evaluate, cX6_evaluate, 4, (some .int))
set_option maxRecDepth 100000 in
set_option maxHeartbeats 4000000 in
theorem k_X6_add {l : Launch} {Z : li_Z} (d : Nat) (hd : 2 ≤ d) {r : Nat} (hr : li_ru r) (p1 : Int32) (M0 : li_M) : li_Met l Z YX6_add d [.ref (Z.2.2 r), .int p1] M0 (li_SZ (fun i => i = r ∨ i = r + 1) M0) := by
  refine li_enter (by decide +kernel) (Nat.le_of_ble_eq_true rfl) ?_
  show li_T l Z YX6_add d 0 [(0, .ref (Z.2.2 r)), (1, .int p1)] [] M0 _
  have hf : li_fr (fun i => i = r ∨ i = r + 1) M0 M0 := li_fr_refl
  refine li_aload_n 0 dX6_add_0 rfl ?_
  refine li_geti (k := 3) (N := 4) (T := TX6) (C0 := RX6) dX6_add_1 (snR0 hr) (shR0 hr) rfl rfl (by decide) li_in6 w_319 ?_
  refine li_top (fun x1 ex1 => ?_)
  refine li_bipush 80 dX6_add_4 (by decide) ?_
  refine li_icmp_lt 11 dX6_add_6 (by decide) (fun c2 => ?_) (fun c2 => ?_)
  · refine li_aload_n 0 dX6_add_11 rfl ?_
    refine li_getr (k := 0) (N := 4) (T := TX6) (C0 := RX6) dX6_add_12 (snR0 hr) (shR0 hr) rfl rfl (lkR1 hr) (by decide) li_in6 w_315 ?_
    refine li_aload_n 0 dX6_add_15 rfl ?_
    refine li_geti (k := 3) (N := 4) (T := TX6) (C0 := RX6) dX6_add_16 (snR0 hr) (shR0 hr) rfl rfl (by decide) li_in6 w_319 ?_
    refine li_top (fun x3 ex3 => ?_)
    refine li_iload_n 1 dX6_add_19 rfl ?_
    refine li_callN (n := 3) (As := [.ref (Z.2.2 (r + 1)), .int x3, .int p1]) dX6_add_20 (k_X11_put (d - 1) (by omega) (snR1 hr) (shR1 hr) (by decide) x3 p1 M0) (by omega) (Nat.le_of_ble_eq_true rfl) nw_9 w_522 w_101 w_523 (by decide +kernel) rfl rfl (Nat.le_of_ble_eq_true rfl) (fun r M5 h6 => ?_)
    obtain ⟨rfl, h6⟩ := h6
    have hf := li_fr_trans hf h6 (fun i (h : i = r + 1) => (show i = r ∨ i = r + 1 by omega))
    refine li_aload_n 0 dX6_add_23 rfl ?_
    refine li_dup dX6_add_24 rfl ?_
    refine li_geti (k := 3) (N := 4) (T := TX6) (C0 := RX6) dX6_add_25 (snR0 hr) (shR0 hr) rfl rfl (by decide) li_in6 w_319 ?_
    refine li_top (fun x7 ex7 => ?_)
    refine li_iconst 1 dX6_add_28 (by decide) ?_
    refine li_iadd dX6_add_29 ?_
    refine li_top (fun x8 ex8 => ?_)
    refine li_puti (k := 3) (N := 4) (T := TX6) (C0 := RX6) dX6_add_30 (snR0 hr) (shR0 hr) rfl rfl (by decide) li_in6 tyX6_ok nmX6 rfl rfl rfl rfl w_319 ?_
    refine li_nm (fun M9 eM9 => ?_)
    have hf := li_fr_ui hf (show r = r ∨ r = r + 1 by omega) eM9
    refine li_iconst 1 dX6_add_33 (by decide) ?_
    exact li_iret dX6_add_34 rfl (li_nz (Or.inr rfl)) ⟨⟨_, rfl, Or.inr rfl⟩, hf⟩
  · refine li_iconst 0 dX6_add_9 (by decide) ?_
    exact li_iret dX6_add_10 rfl (li_nz (Or.inl rfl)) ⟨⟨_, rfl, Or.inl rfl⟩, hf⟩
set_option maxRecDepth 100000 in
set_option maxHeartbeats 4000000 in
theorem k_X6_addSign {l : Launch} {Z : li_Z} (d : Nat) (hd : 5 ≤ d) {r : Nat} (hr : li_ru r) {s : Nat} (hs : s < 4) (p1 : Int32) (M0 : li_M) : li_Met l Z YX6_addSign d [.ref (Z.2.2 r), .ref (Z.2.2 (2100 + s)), .int p1] M0 (li_SZ (fun i => i = r ∨ i = r + 1) M0) := by
  refine li_enter (by decide +kernel) (Nat.le_of_ble_eq_true rfl) ?_
  show li_T l Z YX6_addSign d 0 [(0, .ref (Z.2.2 r)), (1, .ref (Z.2.2 (2100 + s))), (2, .int p1)] [] M0 _
  have hf : li_fr (fun i => i = r ∨ i = r + 1) M0 M0 := li_fr_refl
  have gp1 := tl_rg p1
  refine li_iload_n 2 dX6_addSign_0 rfl ?_
  refine li_if_lt 29 dX6_addSign_1 (by decide) (fun c1 => ?_) (fun c1 => ?_)
  · have tc1 : p1.toInt < 0 := tl_lt c1
    refine li_iconst 0 dX6_addSign_29 (by decide) ?_
    exact li_iret dX6_addSign_30 rfl (li_nz (Or.inl rfl)) ⟨⟨_, rfl, Or.inl rfl⟩, hf⟩
  · have tc1 : 0 ≤ p1.toInt := tl_nlt c1
    refine li_iload_n 2 dX6_addSign_4 rfl ?_
    refine li_aload_n 1 dX6_addSign_5 rfl ?_
    refine li_callT (n := 0) (As := []) hs dX6_addSign_6 (k_J0_length (d - 1) (by omega) hs M0) (by omega) (Nat.le_of_ble_eq_true rfl) rfl w_649 w_581 w_582 w_114 w_583 (by decide +kernel) rfl rfl (Nat.le_of_ble_eq_true rfl) (fun r M3 h4 => ?_)
    obtain ⟨⟨x2, rfl, qx2⟩, h4⟩ := h4
    have gx2 := tl_rg x2
    have hf := li_fr_trans hf h4 (fun i h => False.elim h)
    refine li_icmp_ge 29 dX6_addSign_9 (by decide) (fun c5 => ?_) (fun c5 => ?_)
    · have tc5 : x2.toInt ≤ p1.toInt := tl_le c5
      refine li_iconst 0 dX6_addSign_29 (by decide) ?_
      exact li_iret dX6_addSign_30 rfl (li_nz (Or.inl rfl)) ⟨⟨_, rfl, Or.inl rfl⟩, hf⟩
    · have tc5 : p1.toInt < x2.toInt := tl_nle c5
      refine li_aload_n 0 dX6_addSign_12 rfl ?_
      refine li_aload_n 1 dX6_addSign_13 rfl ?_
      refine li_iload_n 2 dX6_addSign_14 rfl ?_
      refine li_callT (n := 1) (As := [.int p1]) hs dX6_addSign_15 (k_J0_charAt (d - 1) (by omega) hs p1 (by omega) (by omega) M3) (by omega) (Nat.le_of_ble_eq_true rfl) rfl w_650 w_591 w_592 w_114 w_593 (by decide +kernel) rfl rfl (Nat.le_of_ble_eq_true rfl) (fun r M7 h8 => ?_)
      obtain ⟨⟨x6, rfl⟩, h8⟩ := h8
      have gx6 := tl_rg x6
      have hf := li_fr_trans hf h8 (fun i h => False.elim h)
      refine li_ineg dX6_addSign_18 ?_
      refine li_top (fun x9 ex9 => ?_)
      have tx9 : (-2147483648 < x6.toInt) → x9.toInt = -x6.toInt := tl_neg ex9
      refine li_callV (n := 1) (As := [.int x9]) dX6_addSign_19 (k_X6_add (d - 1) (by omega) hr x9 M7) (by omega) (Nat.le_of_ble_eq_true rfl) w_629 w_631 w_6 w_107 w_632 (by decide +kernel) rfl (snR0 hr) (shR0 hr) rfl rfl (Nat.le_of_ble_eq_true rfl) (fun r M11 h12 => ?_)
      obtain ⟨⟨x10, rfl, bx10⟩, h12⟩ := h12
      have ux10 := tl_b bx10
      have hf := li_fr_trans hf h12 (fun i (h : i = r ∨ i = r + 1) => (show i = r ∨ i = r + 1 by omega))
      refine li_if_eq 29 dX6_addSign_22 (by decide) (fun c13 => ?_) (fun c13 => ?_)
      · have tc13 : x10.toInt = 0 := tl_eq c13
        refine li_iconst 0 dX6_addSign_29 (by decide) ?_
        exact li_iret dX6_addSign_30 rfl (li_nz (Or.inl rfl)) ⟨⟨_, rfl, Or.inl rfl⟩, hf⟩
      · have tc13 : ¬ x10.toInt = 0 := tl_ne c13
        refine li_iconst 1 dX6_addSign_25 (by decide) ?_
        refine li_goto 30 dX6_addSign_26 (by decide) ?_
        exact li_iret dX6_addSign_30 rfl (li_nz (Or.inr rfl)) ⟨⟨_, rfl, Or.inr rfl⟩, hf⟩
set_option maxRecDepth 100000 in
set_option maxHeartbeats 4000000 in
theorem k_X6_readAtom {l : Launch} {Z : li_Z} (d : Nat) (hd : 6 ≤ d) {r : Nat} (hr : li_ru r) (p1 : Int32) (dE : Nat) (IH : p1.toInt < 4 → ∀ (q : Int32), q.toInt = p1.toInt + 1 → ∀ (M : li_M), li_Met l Z YX6_readExpression dE [.ref (Z.2.2 r), .ref (Z.2.2 1), .int q] M (li_SZ (fun i => i = r ∨ i = r + 1 ∨ i = 1) M)) (hE : dE + 1 ≤ d) (M0 : li_M) : li_Met l Z YX6_readAtom d [.ref (Z.2.2 r), .ref (Z.2.2 1), .int p1] M0 (li_SZ (fun i => i = r ∨ i = r + 1 ∨ i = 1) M0) := by
  refine li_enter (by decide +kernel) (Nat.le_of_ble_eq_true rfl) ?_
  show li_T l Z YX6_readAtom d 0 [(0, .ref (Z.2.2 r)), (1, .ref (Z.2.2 1)), (2, .int p1)] [] M0 _
  have hf : li_fr (fun i => i = r ∨ i = r + 1 ∨ i = 1) M0 M0 := li_fr_refl
  have gp1 := tl_rg p1
  refine li_iload_n 2 dX6_readAtom_0 rfl ?_
  refine li_iconst 4 dX6_readAtom_1 (by decide) ?_
  refine li_icmp_ge 40 dX6_readAtom_2 (by decide) (fun c1 => ?_) (fun c1 => ?_)
  · have tc1 : 4 ≤ p1.toInt := tl_le c1
    refine li_aload_n 1 dX6_readAtom_40 rfl ?_
    refine li_ldcS 3 dX6_readAtom_41 (by decide) ⟨rfl, rfl⟩ ?_
    refine li_callV (n := 1) (As := [.ref (Z.2.2 (2100 + 3))]) dX6_readAtom_43 (k_X7_takeAnyOf (d - 1) (by omega) (by decide) M0) (by omega) (Nat.le_of_ble_eq_true rfl) w_576 w_577 w_578 w_102 w_579 (by decide +kernel) rfl (by decide) sh_1 rfl rfl (Nat.le_of_ble_eq_true rfl) (fun r M3 h4 => ?_)
    obtain ⟨⟨x2, rfl⟩, h4⟩ := h4
    have gx2 := tl_rg x2
    have hf := li_fr_trans hf h4 (fun i (h : i = 1) => (show i = r ∨ i = r + 1 ∨ i = 1 by omega))
    refine li_istore_n [(3, .int x2), (0, .ref (Z.2.2 r)), (1, .ref (Z.2.2 1)), (2, .int p1)] dX6_readAtom_46 (by decide) rfl ?_
    refine li_iload_n 0 dX6_readAtom_47 rfl ?_
    refine li_if_lt 61 dX6_readAtom_48 (by decide) (fun c5 => ?_) (fun c5 => ?_)
    · have tc5 : x2.toInt < 0 := tl_lt c5
      refine li_aload_n 2 dX6_readAtom_61 rfl ?_
      refine li_iconst 3 dX6_readAtom_62 (by decide) ?_
      refine li_callV (n := 1) (As := [.int 3]) dX6_readAtom_63 (k_X7_takeNumber (d - 1) (by omega) 3 M3) (by omega) (Nat.le_of_ble_eq_true rfl) w_634 w_635 w_636 w_102 w_637 (by decide +kernel) rfl (by decide) sh_1 rfl rfl (Nat.le_of_ble_eq_true rfl) (fun r M7 h8 => ?_)
      obtain ⟨⟨x6, rfl⟩, h8⟩ := h8
      have gx6 := tl_rg x6
      have hf := li_fr_trans hf h8 (fun i (h : i = 1) => (show i = r ∨ i = r + 1 ∨ i = 1 by omega))
      refine li_istore [(4, .int x6), (3, .int x2), (0, .ref (Z.2.2 r)), (1, .ref (Z.2.2 1)), (2, .int p1)] dX6_readAtom_66 (by decide) rfl ?_
      refine li_iload 0 dX6_readAtom_68 rfl ?_
      refine li_if_lt 86 dX6_readAtom_70 (by decide) (fun c9 => ?_) (fun c9 => ?_)
      · have tc9 : x6.toInt < 0 := tl_lt c9
        refine li_iconst 0 dX6_readAtom_86 (by decide) ?_
        exact li_iret dX6_readAtom_87 rfl (li_nz (Or.inl rfl)) ⟨⟨_, rfl, Or.inl rfl⟩, hf⟩
      · have tc9 : 0 ≤ x6.toInt := tl_nlt c9
        refine li_aload_n 2 dX6_readAtom_73 rfl ?_
        refine li_iload 0 dX6_readAtom_74 rfl ?_
        refine li_callV (n := 1) (As := [.int x6]) dX6_readAtom_76 (k_X6_add (d - 1) (by omega) hr x6 M7) (by omega) (Nat.le_of_ble_eq_true rfl) w_629 w_631 w_6 w_107 w_632 (by decide +kernel) rfl (snR0 hr) (shR0 hr) rfl rfl (Nat.le_of_ble_eq_true rfl) (fun r M11 h12 => ?_)
        obtain ⟨⟨x10, rfl, bx10⟩, h12⟩ := h12
        have ux10 := tl_b bx10
        have hf := li_fr_trans hf h12 (fun i (h : i = r ∨ i = r + 1) => (show i = r ∨ i = r + 1 ∨ i = 1 by omega))
        refine li_if_eq 86 dX6_readAtom_79 (by decide) (fun c13 => ?_) (fun c13 => ?_)
        · have tc13 : x10.toInt = 0 := tl_eq c13
          refine li_iconst 0 dX6_readAtom_86 (by decide) ?_
          exact li_iret dX6_readAtom_87 rfl (li_nz (Or.inl rfl)) ⟨⟨_, rfl, Or.inl rfl⟩, hf⟩
        · have tc13 : ¬ x10.toInt = 0 := tl_ne c13
          refine li_iconst 1 dX6_readAtom_82 (by decide) ?_
          refine li_goto 87 dX6_readAtom_83 (by decide) ?_
          exact li_iret dX6_readAtom_87 rfl (li_nz (Or.inr rfl)) ⟨⟨_, rfl, Or.inr rfl⟩, hf⟩
    · have tc5 : 0 ≤ x2.toInt := tl_nlt c5
      refine li_aload_n 1 dX6_readAtom_51 rfl ?_
      refine li_sipush 1000 dX6_readAtom_52 (by decide) ?_
      refine li_iload_n 0 dX6_readAtom_55 rfl ?_
      refine li_iadd dX6_readAtom_56 ?_
      refine li_top (fun x14 ex14 => ?_)
      have tx14 : (-2147483648 ≤ 1000 + x2.toInt ∧ 1000 + x2.toInt ≤ 2147483647) → x14.toInt = 1000 + x2.toInt := tl_add ex14
      refine li_callV (n := 1) (As := [.int x14]) dX6_readAtom_57 (k_X6_add (d - 1) (by omega) hr x14 M3) (by omega) (Nat.le_of_ble_eq_true rfl) w_629 w_631 w_6 w_107 w_632 (by decide +kernel) rfl (snR0 hr) (shR0 hr) rfl rfl (Nat.le_of_ble_eq_true rfl) (fun r M16 h17 => ?_)
      obtain ⟨⟨x15, rfl, bx15⟩, h17⟩ := h17
      have ux15 := tl_b bx15
      have hf := li_fr_trans hf h17 (fun i (h : i = r ∨ i = r + 1) => (show i = r ∨ i = r + 1 ∨ i = 1 by omega))
      exact li_iret dX6_readAtom_60 rfl (li_nz (bx15)) ⟨⟨_, rfl, bx15⟩, hf⟩
  · have tc1 : p1.toInt < 4 := tl_nle c1
    refine li_aload_n 1 dX6_readAtom_5 rfl ?_
    refine li_bipush 40 dX6_readAtom_6 (by decide) ?_
    refine li_callV (n := 1) (As := [.int 40]) dX6_readAtom_8 (k_X7_skip (d - 1) (by omega) 40 M0) (by omega) (Nat.le_of_ble_eq_true rfl) w_564 w_565 w_566 w_102 w_567 (by decide +kernel) rfl (by decide) sh_1 rfl rfl (Nat.le_of_ble_eq_true rfl) (fun r M19 h20 => ?_)
    obtain ⟨⟨x18, rfl, bx18⟩, h20⟩ := h20
    have ux18 := tl_b bx18
    have hf := li_fr_trans hf h20 (fun i (h : i = 1) => (show i = r ∨ i = r + 1 ∨ i = 1 by omega))
    refine li_if_eq 40 dX6_readAtom_11 (by decide) (fun c21 => ?_) (fun c21 => ?_)
    · have tc21 : x18.toInt = 0 := tl_eq c21
      refine li_aload_n 1 dX6_readAtom_40 rfl ?_
      refine li_ldcS 3 dX6_readAtom_41 (by decide) ⟨rfl, rfl⟩ ?_
      refine li_callV (n := 1) (As := [.ref (Z.2.2 (2100 + 3))]) dX6_readAtom_43 (k_X7_takeAnyOf (d - 1) (by omega) (by decide) M19) (by omega) (Nat.le_of_ble_eq_true rfl) w_576 w_577 w_578 w_102 w_579 (by decide +kernel) rfl (by decide) sh_1 rfl rfl (Nat.le_of_ble_eq_true rfl) (fun r M23 h24 => ?_)
      obtain ⟨⟨x22, rfl⟩, h24⟩ := h24
      have gx22 := tl_rg x22
      have hf := li_fr_trans hf h24 (fun i (h : i = 1) => (show i = r ∨ i = r + 1 ∨ i = 1 by omega))
      refine li_istore_n [(3, .int x22), (0, .ref (Z.2.2 r)), (1, .ref (Z.2.2 1)), (2, .int p1)] dX6_readAtom_46 (by decide) rfl ?_
      refine li_iload_n 0 dX6_readAtom_47 rfl ?_
      refine li_if_lt 61 dX6_readAtom_48 (by decide) (fun c25 => ?_) (fun c25 => ?_)
      · have tc25 : x22.toInt < 0 := tl_lt c25
        refine li_aload_n 2 dX6_readAtom_61 rfl ?_
        refine li_iconst 3 dX6_readAtom_62 (by decide) ?_
        refine li_callV (n := 1) (As := [.int 3]) dX6_readAtom_63 (k_X7_takeNumber (d - 1) (by omega) 3 M23) (by omega) (Nat.le_of_ble_eq_true rfl) w_634 w_635 w_636 w_102 w_637 (by decide +kernel) rfl (by decide) sh_1 rfl rfl (Nat.le_of_ble_eq_true rfl) (fun r M27 h28 => ?_)
        obtain ⟨⟨x26, rfl⟩, h28⟩ := h28
        have gx26 := tl_rg x26
        have hf := li_fr_trans hf h28 (fun i (h : i = 1) => (show i = r ∨ i = r + 1 ∨ i = 1 by omega))
        refine li_istore [(4, .int x26), (3, .int x22), (0, .ref (Z.2.2 r)), (1, .ref (Z.2.2 1)), (2, .int p1)] dX6_readAtom_66 (by decide) rfl ?_
        refine li_iload 0 dX6_readAtom_68 rfl ?_
        refine li_if_lt 86 dX6_readAtom_70 (by decide) (fun c29 => ?_) (fun c29 => ?_)
        · have tc29 : x26.toInt < 0 := tl_lt c29
          refine li_iconst 0 dX6_readAtom_86 (by decide) ?_
          exact li_iret dX6_readAtom_87 rfl (li_nz (Or.inl rfl)) ⟨⟨_, rfl, Or.inl rfl⟩, hf⟩
        · have tc29 : 0 ≤ x26.toInt := tl_nlt c29
          refine li_aload_n 2 dX6_readAtom_73 rfl ?_
          refine li_iload 0 dX6_readAtom_74 rfl ?_
          refine li_callV (n := 1) (As := [.int x26]) dX6_readAtom_76 (k_X6_add (d - 1) (by omega) hr x26 M27) (by omega) (Nat.le_of_ble_eq_true rfl) w_629 w_631 w_6 w_107 w_632 (by decide +kernel) rfl (snR0 hr) (shR0 hr) rfl rfl (Nat.le_of_ble_eq_true rfl) (fun r M31 h32 => ?_)
          obtain ⟨⟨x30, rfl, bx30⟩, h32⟩ := h32
          have ux30 := tl_b bx30
          have hf := li_fr_trans hf h32 (fun i (h : i = r ∨ i = r + 1) => (show i = r ∨ i = r + 1 ∨ i = 1 by omega))
          refine li_if_eq 86 dX6_readAtom_79 (by decide) (fun c33 => ?_) (fun c33 => ?_)
          · have tc33 : x30.toInt = 0 := tl_eq c33
            refine li_iconst 0 dX6_readAtom_86 (by decide) ?_
            exact li_iret dX6_readAtom_87 rfl (li_nz (Or.inl rfl)) ⟨⟨_, rfl, Or.inl rfl⟩, hf⟩
          · have tc33 : ¬ x30.toInt = 0 := tl_ne c33
            refine li_iconst 1 dX6_readAtom_82 (by decide) ?_
            refine li_goto 87 dX6_readAtom_83 (by decide) ?_
            exact li_iret dX6_readAtom_87 rfl (li_nz (Or.inr rfl)) ⟨⟨_, rfl, Or.inr rfl⟩, hf⟩
      · have tc25 : 0 ≤ x22.toInt := tl_nlt c25
        refine li_aload_n 1 dX6_readAtom_51 rfl ?_
        refine li_sipush 1000 dX6_readAtom_52 (by decide) ?_
        refine li_iload_n 0 dX6_readAtom_55 rfl ?_
        refine li_iadd dX6_readAtom_56 ?_
        refine li_top (fun x34 ex34 => ?_)
        have tx34 : (-2147483648 ≤ 1000 + x22.toInt ∧ 1000 + x22.toInt ≤ 2147483647) → x34.toInt = 1000 + x22.toInt := tl_add ex34
        refine li_callV (n := 1) (As := [.int x34]) dX6_readAtom_57 (k_X6_add (d - 1) (by omega) hr x34 M23) (by omega) (Nat.le_of_ble_eq_true rfl) w_629 w_631 w_6 w_107 w_632 (by decide +kernel) rfl (snR0 hr) (shR0 hr) rfl rfl (Nat.le_of_ble_eq_true rfl) (fun r M36 h37 => ?_)
        obtain ⟨⟨x35, rfl, bx35⟩, h37⟩ := h37
        have ux35 := tl_b bx35
        have hf := li_fr_trans hf h37 (fun i (h : i = r ∨ i = r + 1) => (show i = r ∨ i = r + 1 ∨ i = 1 by omega))
        exact li_iret dX6_readAtom_60 rfl (li_nz (bx35)) ⟨⟨_, rfl, bx35⟩, hf⟩
    · have tc21 : ¬ x18.toInt = 0 := tl_ne c21
      refine li_aload_n 0 dX6_readAtom_14 rfl ?_
      refine li_aload_n 1 dX6_readAtom_15 rfl ?_
      refine li_iload_n 2 dX6_readAtom_16 rfl ?_
      refine li_iconst 1 dX6_readAtom_17 (by decide) ?_
      refine li_iadd dX6_readAtom_18 ?_
      refine li_top (fun x38 ex38 => ?_)
      have tx38 : (-2147483648 ≤ p1.toInt + 1 ∧ p1.toInt + 1 ≤ 2147483647) → x38.toInt = p1.toInt + 1 := tl_add ex38
      refine li_callV (n := 2) (As := [.ref (Z.2.2 1), .int x38]) dX6_readAtom_19 (IH (by omega) x38 (by omega) M19) (by omega) (Nat.le_of_ble_eq_true rfl) w_548 w_550 w_1 w_107 w_551 (by decide +kernel) rfl (snR0 hr) (shR0 hr) rfl rfl (Nat.le_of_ble_eq_true rfl) (fun r M40 h41 => ?_)
      obtain ⟨⟨x39, rfl, bx39⟩, h41⟩ := h41
      have ux39 := tl_b bx39
      have hf := li_fr_trans hf h41 (fun i (h : i = r ∨ i = r + 1 ∨ i = 1) => (show i = r ∨ i = r + 1 ∨ i = 1 by omega))
      refine li_if_eq 38 dX6_readAtom_22 (by decide) (fun c42 => ?_) (fun c42 => ?_)
      · have tc42 : x39.toInt = 0 := tl_eq c42
        refine li_iconst 0 dX6_readAtom_38 (by decide) ?_
        exact li_iret dX6_readAtom_39 rfl (li_nz (Or.inl rfl)) ⟨⟨_, rfl, Or.inl rfl⟩, hf⟩
      · have tc42 : ¬ x39.toInt = 0 := tl_ne c42
        refine li_aload_n 1 dX6_readAtom_25 rfl ?_
        refine li_bipush 41 dX6_readAtom_26 (by decide) ?_
        refine li_callV (n := 1) (As := [.int 41]) dX6_readAtom_28 (k_X7_skip (d - 1) (by omega) 41 M40) (by omega) (Nat.le_of_ble_eq_true rfl) w_564 w_565 w_566 w_102 w_567 (by decide +kernel) rfl (by decide) sh_1 rfl rfl (Nat.le_of_ble_eq_true rfl) (fun r M44 h45 => ?_)
        obtain ⟨⟨x43, rfl, bx43⟩, h45⟩ := h45
        have ux43 := tl_b bx43
        have hf := li_fr_trans hf h45 (fun i (h : i = 1) => (show i = r ∨ i = r + 1 ∨ i = 1 by omega))
        refine li_if_eq 38 dX6_readAtom_31 (by decide) (fun c46 => ?_) (fun c46 => ?_)
        · have tc46 : x43.toInt = 0 := tl_eq c46
          refine li_iconst 0 dX6_readAtom_38 (by decide) ?_
          exact li_iret dX6_readAtom_39 rfl (li_nz (Or.inl rfl)) ⟨⟨_, rfl, Or.inl rfl⟩, hf⟩
        · have tc46 : ¬ x43.toInt = 0 := tl_ne c46
          refine li_iconst 1 dX6_readAtom_34 (by decide) ?_
          refine li_goto 39 dX6_readAtom_35 (by decide) ?_
          exact li_iret dX6_readAtom_39 rfl (li_nz (Or.inr rfl)) ⟨⟨_, rfl, Or.inr rfl⟩, hf⟩
set_option maxRecDepth 100000 in
set_option maxHeartbeats 4000000 in
theorem k_X6_readFactor {l : Launch} {Z : li_Z} (d : Nat) (hd : 7 ≤ d) {r : Nat} (hr : li_ru r) (p1 : Int32) (dE : Nat) (IH : p1.toInt < 4 → ∀ (q : Int32), q.toInt = p1.toInt + 1 → ∀ (M : li_M), li_Met l Z YX6_readExpression dE [.ref (Z.2.2 r), .ref (Z.2.2 1), .int q] M (li_SZ (fun i => i = r ∨ i = r + 1 ∨ i = 1) M)) (hE : dE + 2 ≤ d) (M0 : li_M) : li_Met l Z YX6_readFactor d [.ref (Z.2.2 r), .ref (Z.2.2 1), .int p1] M0 (li_SZ (fun i => i = r ∨ i = r + 1 ∨ i = 1) M0) := by
  refine li_enter (by decide +kernel) (Nat.le_of_ble_eq_true rfl) ?_
  show li_T l Z YX6_readFactor d 0 [(0, .ref (Z.2.2 r)), (1, .ref (Z.2.2 1)), (2, .int p1)] [] M0 _
  have hf : li_fr (fun i => i = r ∨ i = r + 1 ∨ i = 1) M0 M0 := li_fr_refl
  have gp1 := tl_rg p1
  refine li_iconst 0 dX6_readFactor_0 (by decide) ?_
  refine li_istore_n [(3, .int 0), (0, .ref (Z.2.2 r)), (1, .ref (Z.2.2 1)), (2, .int p1)] dX6_readFactor_1 (by decide) rfl ?_
  refine li_iconst 0 dX6_readFactor_2 (by decide) ?_
  refine li_istore [(4, .int 0), (3, .int 0), (0, .ref (Z.2.2 r)), (1, .ref (Z.2.2 1)), (2, .int p1)] dX6_readFactor_3 (by decide) rfl ?_
  have L5 : ∀ (n : Nat) (x1 : Int32) (x2 : Int32) (M3 : li_M), (2147483647 - (x1 : Int32).toInt).toNat < n → li_fr (fun i => i = r ∨ i = r + 1 ∨ i = 1) M0 M3 → li_T l Z YX6_readFactor d 5 [(4, .int x1), (3, .int x2), (0, .ref (Z.2.2 r)), (1, .ref (Z.2.2 1)), (2, .int p1)] [] M3 (li_SZ (fun i => i = r ∨ i = r + 1 ∨ i = 1) M0) := by
    intro n
    induction n with
    | zero => intro x1 x2 M3 hn; exact absurd hn (Nat.not_lt_zero _)
    | succ n ih5 =>
      intro x1 x2 M3 hn hf
      have gx1 := tl_rg x1
      have gx2 := tl_rg x2
      refine li_iload 0 dX6_readFactor_5 rfl ?_
      refine li_bipush 80 dX6_readFactor_7 (by decide) ?_
      refine li_icmp_ge 37 dX6_readFactor_9 (by decide) (fun c4 => ?_) (fun c4 => ?_)
      · have tc4 : 80 ≤ x1.toInt := tl_le c4
        refine li_aload_n 2 dX6_readFactor_37 rfl ?_
        refine li_aload_n 3 dX6_readFactor_38 rfl ?_
        refine li_iload_n 4 dX6_readFactor_39 rfl ?_
        refine li_callV (n := 2) (As := [.ref (Z.2.2 1), .int p1]) dX6_readFactor_40 (k_X6_readAtom (d - 1) (by omega) hr p1 dE IH (by omega) M3) (by omega) (Nat.le_of_ble_eq_true rfl) w_571 w_573 w_5 w_107 w_574 (by decide +kernel) rfl (snR0 hr) (shR0 hr) rfl rfl (Nat.le_of_ble_eq_true rfl) (fun r M6 h7 => ?_)
        obtain ⟨⟨x5, rfl, bx5⟩, h7⟩ := h7
        have ux5 := tl_b bx5
        have hf := li_fr_trans hf h7 (fun i (h : i = r ∨ i = r + 1 ∨ i = 1) => (show i = r ∨ i = r + 1 ∨ i = 1 by omega))
        refine li_if_eq 63 dX6_readFactor_43 (by decide) (fun c8 => ?_) (fun c8 => ?_)
        · have tc8 : x5.toInt = 0 := tl_eq c8
          refine li_iconst 0 dX6_readFactor_63 (by decide) ?_
          exact li_iret dX6_readFactor_64 rfl (li_nz (Or.inl rfl)) ⟨⟨_, rfl, Or.inl rfl⟩, hf⟩
        · have tc8 : ¬ x5.toInt = 0 := tl_ne c8
          refine li_iload_n 1 dX6_readFactor_46 rfl ?_
          refine li_if_eq 59 dX6_readFactor_47 (by decide) (fun c9 => ?_) (fun c9 => ?_)
          · have tc9 : x2.toInt = 0 := tl_eq c9
            refine li_iconst 1 dX6_readFactor_59 (by decide) ?_
            refine li_goto 64 dX6_readFactor_60 (by decide) ?_
            exact li_iret dX6_readFactor_64 rfl (li_nz (Or.inr rfl)) ⟨⟨_, rfl, Or.inr rfl⟩, hf⟩
          · have tc9 : ¬ x2.toInt = 0 := tl_ne c9
            refine li_aload_n 2 dX6_readFactor_50 rfl ?_
            refine li_bipush (-126) dX6_readFactor_51 (by decide) ?_
            refine li_callV (n := 1) (As := [.int (-126)]) dX6_readFactor_53 (k_X6_add (d - 1) (by omega) hr (-126) M6) (by omega) (Nat.le_of_ble_eq_true rfl) w_629 w_631 w_6 w_107 w_632 (by decide +kernel) rfl (snR0 hr) (shR0 hr) rfl rfl (Nat.le_of_ble_eq_true rfl) (fun r M11 h12 => ?_)
            obtain ⟨⟨x10, rfl, bx10⟩, h12⟩ := h12
            have ux10 := tl_b bx10
            have hf := li_fr_trans hf h12 (fun i (h : i = r ∨ i = r + 1) => (show i = r ∨ i = r + 1 ∨ i = 1 by omega))
            refine li_if_eq 63 dX6_readFactor_56 (by decide) (fun c13 => ?_) (fun c13 => ?_)
            · have tc13 : x10.toInt = 0 := tl_eq c13
              refine li_iconst 0 dX6_readFactor_63 (by decide) ?_
              exact li_iret dX6_readFactor_64 rfl (li_nz (Or.inl rfl)) ⟨⟨_, rfl, Or.inl rfl⟩, hf⟩
            · have tc13 : ¬ x10.toInt = 0 := tl_ne c13
              refine li_iconst 1 dX6_readFactor_59 (by decide) ?_
              refine li_goto 64 dX6_readFactor_60 (by decide) ?_
              exact li_iret dX6_readFactor_64 rfl (li_nz (Or.inr rfl)) ⟨⟨_, rfl, Or.inr rfl⟩, hf⟩
      · have tc4 : x1.toInt < 80 := tl_nle c4
        refine li_aload_n 3 dX6_readFactor_12 rfl ?_
        refine li_bipush 45 dX6_readFactor_13 (by decide) ?_
        refine li_callV (n := 1) (As := [.int 45]) dX6_readFactor_15 (k_X7_skip (d - 1) (by omega) 45 M3) (by omega) (Nat.le_of_ble_eq_true rfl) w_564 w_565 w_566 w_102 w_567 (by decide +kernel) rfl (by decide) sh_1 rfl rfl (Nat.le_of_ble_eq_true rfl) (fun r M15 h16 => ?_)
        obtain ⟨⟨x14, rfl, bx14⟩, h16⟩ := h16
        have ux14 := tl_b bx14
        have hf := li_fr_trans hf h16 (fun i (h : i = 1) => (show i = r ∨ i = r + 1 ∨ i = 1 by omega))
        refine li_if_eq 37 dX6_readFactor_18 (by decide) (fun c17 => ?_) (fun c17 => ?_)
        · have tc17 : x14.toInt = 0 := tl_eq c17
          refine li_aload_n 2 dX6_readFactor_37 rfl ?_
          refine li_aload_n 3 dX6_readFactor_38 rfl ?_
          refine li_iload_n 4 dX6_readFactor_39 rfl ?_
          refine li_callV (n := 2) (As := [.ref (Z.2.2 1), .int p1]) dX6_readFactor_40 (k_X6_readAtom (d - 1) (by omega) hr p1 dE IH (by omega) M15) (by omega) (Nat.le_of_ble_eq_true rfl) w_571 w_573 w_5 w_107 w_574 (by decide +kernel) rfl (snR0 hr) (shR0 hr) rfl rfl (Nat.le_of_ble_eq_true rfl) (fun r M19 h20 => ?_)
          obtain ⟨⟨x18, rfl, bx18⟩, h20⟩ := h20
          have ux18 := tl_b bx18
          have hf := li_fr_trans hf h20 (fun i (h : i = r ∨ i = r + 1 ∨ i = 1) => (show i = r ∨ i = r + 1 ∨ i = 1 by omega))
          refine li_if_eq 63 dX6_readFactor_43 (by decide) (fun c21 => ?_) (fun c21 => ?_)
          · have tc21 : x18.toInt = 0 := tl_eq c21
            refine li_iconst 0 dX6_readFactor_63 (by decide) ?_
            exact li_iret dX6_readFactor_64 rfl (li_nz (Or.inl rfl)) ⟨⟨_, rfl, Or.inl rfl⟩, hf⟩
          · have tc21 : ¬ x18.toInt = 0 := tl_ne c21
            refine li_iload_n 1 dX6_readFactor_46 rfl ?_
            refine li_if_eq 59 dX6_readFactor_47 (by decide) (fun c22 => ?_) (fun c22 => ?_)
            · have tc22 : x2.toInt = 0 := tl_eq c22
              refine li_iconst 1 dX6_readFactor_59 (by decide) ?_
              refine li_goto 64 dX6_readFactor_60 (by decide) ?_
              exact li_iret dX6_readFactor_64 rfl (li_nz (Or.inr rfl)) ⟨⟨_, rfl, Or.inr rfl⟩, hf⟩
            · have tc22 : ¬ x2.toInt = 0 := tl_ne c22
              refine li_aload_n 2 dX6_readFactor_50 rfl ?_
              refine li_bipush (-126) dX6_readFactor_51 (by decide) ?_
              refine li_callV (n := 1) (As := [.int (-126)]) dX6_readFactor_53 (k_X6_add (d - 1) (by omega) hr (-126) M19) (by omega) (Nat.le_of_ble_eq_true rfl) w_629 w_631 w_6 w_107 w_632 (by decide +kernel) rfl (snR0 hr) (shR0 hr) rfl rfl (Nat.le_of_ble_eq_true rfl) (fun r M24 h25 => ?_)
              obtain ⟨⟨x23, rfl, bx23⟩, h25⟩ := h25
              have ux23 := tl_b bx23
              have hf := li_fr_trans hf h25 (fun i (h : i = r ∨ i = r + 1) => (show i = r ∨ i = r + 1 ∨ i = 1 by omega))
              refine li_if_eq 63 dX6_readFactor_56 (by decide) (fun c26 => ?_) (fun c26 => ?_)
              · have tc26 : x23.toInt = 0 := tl_eq c26
                refine li_iconst 0 dX6_readFactor_63 (by decide) ?_
                exact li_iret dX6_readFactor_64 rfl (li_nz (Or.inl rfl)) ⟨⟨_, rfl, Or.inl rfl⟩, hf⟩
              · have tc26 : ¬ x23.toInt = 0 := tl_ne c26
                refine li_iconst 1 dX6_readFactor_59 (by decide) ?_
                refine li_goto 64 dX6_readFactor_60 (by decide) ?_
                exact li_iret dX6_readFactor_64 rfl (li_nz (Or.inr rfl)) ⟨⟨_, rfl, Or.inr rfl⟩, hf⟩
        · have tc17 : ¬ x14.toInt = 0 := tl_ne c17
          refine li_iload_n 1 dX6_readFactor_21 rfl ?_
          have J30 : ∀ (x28 : Int32) (M29 : li_M), li_fr (fun i => i = r ∨ i = r + 1 ∨ i = 1) M0 M29 → li_T l Z YX6_readFactor d 30 [(4, .int x1), (3, .int x2), (0, .ref (Z.2.2 r)), (1, .ref (Z.2.2 1)), (2, .int p1)] [.int x28] M29 (li_SZ (fun i => i = r ∨ i = r + 1 ∨ i = 1) M0) := by
            intro x28 M29 hf
            have gx28 := tl_rg x28
            refine li_istore_n [(3, .int x28), (4, .int x1), (0, .ref (Z.2.2 r)), (1, .ref (Z.2.2 1)), (2, .int p1)] dX6_readFactor_30 (by decide) rfl ?_
            obtain ⟨x30, ex30⟩ : ∃ y : Int32, y = x1 + 1 := ⟨_, rfl⟩
            have tx30 : (-2147483648 ≤ x1.toInt + 1 ∧ x1.toInt + 1 ≤ 2147483647) → x30.toInt = x1.toInt + 1 := tl_add ex30
            refine li_iinc 1 [(4, .int x30), (3, .int x28), (0, .ref (Z.2.2 r)), (1, .ref (Z.2.2 1)), (2, .int p1)] x30 dX6_readFactor_31 rfl (by rw [ex30]; rfl) (by decide) rfl ?_
            refine li_goto 5 dX6_readFactor_34 (by decide) ?_
            refine li_pick [0, 1, 2, 3, 4] [(4, .int x30), (3, .int x28), (0, .ref (Z.2.2 r)), (1, .ref (Z.2.2 1)), (2, .int p1)] rfl ?_
            exact ih5 x30 x28 M29 (by have h9 := li_up (li_gt c4); rw [← ex30] at h9; omega) hf
          refine li_if_ne 29 dX6_readFactor_22 (by decide) (fun c27 => ?_) (fun c27 => ?_)
          · have tc27 : ¬ x2.toInt = 0 := tl_ne c27
            refine li_iconst 0 dX6_readFactor_29 (by decide) ?_
            refine li_pick [0, 1, 2, 3, 4] [(4, .int x1), (3, .int x2), (0, .ref (Z.2.2 r)), (1, .ref (Z.2.2 1)), (2, .int p1)] rfl ?_
            have z0 : (0 : Int32).toInt = 0 := rfl
            exact J30 0 M15 hf
          · have tc27 : x2.toInt = 0 := tl_eq c27
            refine li_iconst 1 dX6_readFactor_25 (by decide) ?_
            refine li_goto 30 dX6_readFactor_26 (by decide) ?_
            refine li_pick [0, 1, 2, 3, 4] [(4, .int x1), (3, .int x2), (0, .ref (Z.2.2 r)), (1, .ref (Z.2.2 1)), (2, .int p1)] rfl ?_
            have z1 : (1 : Int32).toInt = 1 := rfl
            exact J30 1 M15 hf
  have z0 : (0 : Int32).toInt = 0 := rfl
  have z0 : (0 : Int32).toInt = 0 := rfl
  exact L5 _ 0 0 M0 (Nat.lt_succ_self _) hf
set_option maxRecDepth 100000 in
set_option maxHeartbeats 4000000 in
theorem k_X6_readProduct {l : Launch} {Z : li_Z} (d : Nat) (hd : 8 ≤ d) {r : Nat} (hr : li_ru r) (p1 : Int32) (dE : Nat) (IH : p1.toInt < 4 → ∀ (q : Int32), q.toInt = p1.toInt + 1 → ∀ (M : li_M), li_Met l Z YX6_readExpression dE [.ref (Z.2.2 r), .ref (Z.2.2 1), .int q] M (li_SZ (fun i => i = r ∨ i = r + 1 ∨ i = 1) M)) (hE : dE + 3 ≤ d) (M0 : li_M) : li_Met l Z YX6_readProduct d [.ref (Z.2.2 r), .ref (Z.2.2 1), .int p1] M0 (li_SZ (fun i => i = r ∨ i = r + 1 ∨ i = 1) M0) := by
  refine li_enter (by decide +kernel) (Nat.le_of_ble_eq_true rfl) ?_
  show li_T l Z YX6_readProduct d 0 [(0, .ref (Z.2.2 r)), (1, .ref (Z.2.2 1)), (2, .int p1)] [] M0 _
  have hf : li_fr (fun i => i = r ∨ i = r + 1 ∨ i = 1) M0 M0 := li_fr_refl
  have gp1 := tl_rg p1
  refine li_aload_n 0 dX6_readProduct_0 rfl ?_
  refine li_aload_n 1 dX6_readProduct_1 rfl ?_
  refine li_iload_n 2 dX6_readProduct_2 rfl ?_
  refine li_callV (n := 2) (As := [.ref (Z.2.2 1), .int p1]) dX6_readProduct_3 (k_X6_readFactor (d - 1) (by omega) hr p1 dE IH (by omega) M0) (by omega) (Nat.le_of_ble_eq_true rfl) w_560 w_562 w_4 w_107 w_563 (by decide +kernel) rfl (snR0 hr) (shR0 hr) rfl rfl (Nat.le_of_ble_eq_true rfl) (fun r M2 h3 => ?_)
  obtain ⟨⟨x1, rfl, bx1⟩, h3⟩ := h3
  have ux1 := tl_b bx1
  have hf := li_fr_trans hf h3 (fun i (h : i = r ∨ i = r + 1 ∨ i = 1) => (show i = r ∨ i = r + 1 ∨ i = 1 by omega))
  refine li_if_ne 11 dX6_readProduct_6 (by decide) (fun c4 => ?_) (fun c4 => ?_)
  · have tc4 : ¬ x1.toInt = 0 := tl_ne c4
    refine li_iconst 0 dX6_readProduct_11 (by decide) ?_
    refine li_istore_n [(3, .int 0), (0, .ref (Z.2.2 r)), (1, .ref (Z.2.2 1)), (2, .int p1)] dX6_readProduct_12 (by decide) rfl ?_
    have L13 : ∀ (n : Nat) (x5 : Int32) (M6 : li_M), (2147483647 - (x5 : Int32).toInt).toNat < n → li_fr (fun i => i = r ∨ i = r + 1 ∨ i = 1) M0 M6 → li_T l Z YX6_readProduct d 13 [(3, .int x5), (0, .ref (Z.2.2 r)), (1, .ref (Z.2.2 1)), (2, .int p1)] [] M6 (li_SZ (fun i => i = r ∨ i = r + 1 ∨ i = 1) M0) := by
      intro n
      induction n with
      | zero => intro x5 M6 hn; exact absurd hn (Nat.not_lt_zero _)
      | succ n ih13 =>
        intro x5 M6 hn hf
        have gx5 := tl_rg x5
        refine li_iload_n 0 dX6_readProduct_13 rfl ?_
        refine li_bipush 80 dX6_readProduct_14 (by decide) ?_
        refine li_icmp_ge 62 dX6_readProduct_16 (by decide) (fun c7 => ?_) (fun c7 => ?_)
        · have tc7 : 80 ≤ x5.toInt := tl_le c7
          refine li_iconst 1 dX6_readProduct_62 (by decide) ?_
          exact li_iret dX6_readProduct_63 rfl (li_nz (Or.inr rfl)) ⟨⟨_, rfl, Or.inr rfl⟩, hf⟩
        · have tc7 : x5.toInt < 80 := tl_nle c7
          refine li_aload_n 2 dX6_readProduct_19 rfl ?_
          refine li_ldcS 2 dX6_readProduct_20 (by decide) ⟨rfl, rfl⟩ ?_
          refine li_callV (n := 1) (As := [.ref (Z.2.2 (2100 + 2))]) dX6_readProduct_22 (k_X7_takeAnyOf (d - 1) (by omega) (by decide) M6) (by omega) (Nat.le_of_ble_eq_true rfl) w_576 w_577 w_578 w_102 w_579 (by decide +kernel) rfl (by decide) sh_1 rfl rfl (Nat.le_of_ble_eq_true rfl) (fun r M9 h10 => ?_)
          obtain ⟨⟨x8, rfl⟩, h10⟩ := h10
          have gx8 := tl_rg x8
          have hf := li_fr_trans hf h10 (fun i (h : i = 1) => (show i = r ∨ i = r + 1 ∨ i = 1 by omega))
          refine li_istore [(4, .int x8), (3, .int x5), (0, .ref (Z.2.2 r)), (1, .ref (Z.2.2 1)), (2, .int p1)] dX6_readProduct_25 (by decide) rfl ?_
          refine li_iload 0 dX6_readProduct_27 rfl ?_
          refine li_if_ge 34 dX6_readProduct_29 (by decide) (fun c11 => ?_) (fun c11 => ?_)
          · have tc11 : 0 ≤ x8.toInt := tl_le c11
            refine li_aload_n 2 dX6_readProduct_34 rfl ?_
            refine li_aload_n 3 dX6_readProduct_35 rfl ?_
            refine li_iload_n 4 dX6_readProduct_36 rfl ?_
            refine li_callV (n := 2) (As := [.ref (Z.2.2 1), .int p1]) dX6_readProduct_37 (k_X6_readFactor (d - 1) (by omega) hr p1 dE IH (by omega) M9) (by omega) (Nat.le_of_ble_eq_true rfl) w_560 w_562 w_4 w_107 w_563 (by decide +kernel) rfl (snR0 hr) (shR0 hr) rfl rfl (Nat.le_of_ble_eq_true rfl) (fun r M13 h14 => ?_)
            obtain ⟨⟨x12, rfl, bx12⟩, h14⟩ := h14
            have ux12 := tl_b bx12
            have hf := li_fr_trans hf h14 (fun i (h : i = r ∨ i = r + 1 ∨ i = 1) => (show i = r ∨ i = r + 1 ∨ i = 1 by omega))
            refine li_if_eq 54 dX6_readProduct_40 (by decide) (fun c15 => ?_) (fun c15 => ?_)
            · have tc15 : x12.toInt = 0 := tl_eq c15
              refine li_iconst 0 dX6_readProduct_54 (by decide) ?_
              exact li_iret dX6_readProduct_55 rfl (li_nz (Or.inl rfl)) ⟨⟨_, rfl, Or.inl rfl⟩, hf⟩
            · have tc15 : ¬ x12.toInt = 0 := tl_ne c15
              refine li_aload_n 2 dX6_readProduct_43 rfl ?_
              refine li_ldcS 2 dX6_readProduct_44 (by decide) ⟨rfl, rfl⟩ ?_
              refine li_iload 0 dX6_readProduct_46 rfl ?_
              refine li_callV (n := 2) (As := [.ref (Z.2.2 (2100 + 2)), .int x8]) dX6_readProduct_48 (k_X6_addSign (d - 1) (by omega) hr (by decide) x8 M13) (by omega) (Nat.le_of_ble_eq_true rfl) w_645 w_647 w_7 w_107 w_648 (by decide +kernel) rfl (snR0 hr) (shR0 hr) rfl rfl (Nat.le_of_ble_eq_true rfl) (fun r M17 h18 => ?_)
              obtain ⟨⟨x16, rfl, bx16⟩, h18⟩ := h18
              have ux16 := tl_b bx16
              have hf := li_fr_trans hf h18 (fun i (h : i = r ∨ i = r + 1) => (show i = r ∨ i = r + 1 ∨ i = 1 by omega))
              refine li_if_ne 56 dX6_readProduct_51 (by decide) (fun c19 => ?_) (fun c19 => ?_)
              · have tc19 : ¬ x16.toInt = 0 := tl_ne c19
                obtain ⟨x20, ex20⟩ : ∃ y : Int32, y = x5 + 1 := ⟨_, rfl⟩
                have tx20 : (-2147483648 ≤ x5.toInt + 1 ∧ x5.toInt + 1 ≤ 2147483647) → x20.toInt = x5.toInt + 1 := tl_add ex20
                refine li_iinc 1 [(3, .int x20), (4, .int x8), (0, .ref (Z.2.2 r)), (1, .ref (Z.2.2 1)), (2, .int p1)] x20 dX6_readProduct_56 rfl (by rw [ex20]; rfl) (by decide) rfl ?_
                refine li_goto 13 dX6_readProduct_59 (by decide) ?_
                refine li_pick [0, 2, 3, 4] [(3, .int x20), (0, .ref (Z.2.2 r)), (1, .ref (Z.2.2 1)), (2, .int p1)] rfl ?_
                exact ih13 x20 M17 (by have h9 := li_up (li_gt c7); rw [← ex20] at h9; omega) hf
              · have tc19 : x16.toInt = 0 := tl_eq c19
                refine li_iconst 0 dX6_readProduct_54 (by decide) ?_
                exact li_iret dX6_readProduct_55 rfl (li_nz (Or.inl rfl)) ⟨⟨_, rfl, Or.inl rfl⟩, hf⟩
          · have tc11 : x8.toInt < 0 := tl_nle c11
            refine li_iconst 1 dX6_readProduct_32 (by decide) ?_
            exact li_iret dX6_readProduct_33 rfl (li_nz (Or.inr rfl)) ⟨⟨_, rfl, Or.inr rfl⟩, hf⟩
    have z0 : (0 : Int32).toInt = 0 := rfl
    exact L13 _ 0 M2 (Nat.lt_succ_self _) hf
  · have tc4 : x1.toInt = 0 := tl_eq c4
    refine li_iconst 0 dX6_readProduct_9 (by decide) ?_
    exact li_iret dX6_readProduct_10 rfl (li_nz (Or.inl rfl)) ⟨⟨_, rfl, Or.inl rfl⟩, hf⟩
set_option maxRecDepth 100000 in
set_option maxHeartbeats 4000000 in
theorem k_X6_readSum {l : Launch} {Z : li_Z} (d : Nat) (hd : 9 ≤ d) {r : Nat} (hr : li_ru r) (p1 : Int32) (dE : Nat) (IH : p1.toInt < 4 → ∀ (q : Int32), q.toInt = p1.toInt + 1 → ∀ (M : li_M), li_Met l Z YX6_readExpression dE [.ref (Z.2.2 r), .ref (Z.2.2 1), .int q] M (li_SZ (fun i => i = r ∨ i = r + 1 ∨ i = 1) M)) (hE : dE + 4 ≤ d) (M0 : li_M) : li_Met l Z YX6_readSum d [.ref (Z.2.2 r), .ref (Z.2.2 1), .int p1] M0 (li_SZ (fun i => i = r ∨ i = r + 1 ∨ i = 1) M0) := by
  refine li_enter (by decide +kernel) (Nat.le_of_ble_eq_true rfl) ?_
  show li_T l Z YX6_readSum d 0 [(0, .ref (Z.2.2 r)), (1, .ref (Z.2.2 1)), (2, .int p1)] [] M0 _
  have hf : li_fr (fun i => i = r ∨ i = r + 1 ∨ i = 1) M0 M0 := li_fr_refl
  have gp1 := tl_rg p1
  refine li_aload_n 0 dX6_readSum_0 rfl ?_
  refine li_aload_n 1 dX6_readSum_1 rfl ?_
  refine li_iload_n 2 dX6_readSum_2 rfl ?_
  refine li_callV (n := 2) (As := [.ref (Z.2.2 1), .int p1]) dX6_readSum_3 (k_X6_readProduct (d - 1) (by omega) hr p1 dE IH (by omega) M0) (by omega) (Nat.le_of_ble_eq_true rfl) w_556 w_558 w_3 w_107 w_559 (by decide +kernel) rfl (snR0 hr) (shR0 hr) rfl rfl (Nat.le_of_ble_eq_true rfl) (fun r M2 h3 => ?_)
  obtain ⟨⟨x1, rfl, bx1⟩, h3⟩ := h3
  have ux1 := tl_b bx1
  have hf := li_fr_trans hf h3 (fun i (h : i = r ∨ i = r + 1 ∨ i = 1) => (show i = r ∨ i = r + 1 ∨ i = 1 by omega))
  refine li_if_ne 11 dX6_readSum_6 (by decide) (fun c4 => ?_) (fun c4 => ?_)
  · have tc4 : ¬ x1.toInt = 0 := tl_ne c4
    refine li_iconst 0 dX6_readSum_11 (by decide) ?_
    refine li_istore_n [(3, .int 0), (0, .ref (Z.2.2 r)), (1, .ref (Z.2.2 1)), (2, .int p1)] dX6_readSum_12 (by decide) rfl ?_
    have L13 : ∀ (n : Nat) (x5 : Int32) (M6 : li_M), (2147483647 - (x5 : Int32).toInt).toNat < n → li_fr (fun i => i = r ∨ i = r + 1 ∨ i = 1) M0 M6 → li_T l Z YX6_readSum d 13 [(3, .int x5), (0, .ref (Z.2.2 r)), (1, .ref (Z.2.2 1)), (2, .int p1)] [] M6 (li_SZ (fun i => i = r ∨ i = r + 1 ∨ i = 1) M0) := by
      intro n
      induction n with
      | zero => intro x5 M6 hn; exact absurd hn (Nat.not_lt_zero _)
      | succ n ih13 =>
        intro x5 M6 hn hf
        have gx5 := tl_rg x5
        refine li_iload_n 0 dX6_readSum_13 rfl ?_
        refine li_bipush 80 dX6_readSum_14 (by decide) ?_
        refine li_icmp_ge 62 dX6_readSum_16 (by decide) (fun c7 => ?_) (fun c7 => ?_)
        · have tc7 : 80 ≤ x5.toInt := tl_le c7
          refine li_iconst 1 dX6_readSum_62 (by decide) ?_
          exact li_iret dX6_readSum_63 rfl (li_nz (Or.inr rfl)) ⟨⟨_, rfl, Or.inr rfl⟩, hf⟩
        · have tc7 : x5.toInt < 80 := tl_nle c7
          refine li_aload_n 2 dX6_readSum_19 rfl ?_
          refine li_ldcS 1 dX6_readSum_20 (by decide) ⟨rfl, rfl⟩ ?_
          refine li_callV (n := 1) (As := [.ref (Z.2.2 (2100 + 1))]) dX6_readSum_22 (k_X7_takeAnyOf (d - 1) (by omega) (by decide) M6) (by omega) (Nat.le_of_ble_eq_true rfl) w_576 w_577 w_578 w_102 w_579 (by decide +kernel) rfl (by decide) sh_1 rfl rfl (Nat.le_of_ble_eq_true rfl) (fun r M9 h10 => ?_)
          obtain ⟨⟨x8, rfl⟩, h10⟩ := h10
          have gx8 := tl_rg x8
          have hf := li_fr_trans hf h10 (fun i (h : i = 1) => (show i = r ∨ i = r + 1 ∨ i = 1 by omega))
          refine li_istore [(4, .int x8), (3, .int x5), (0, .ref (Z.2.2 r)), (1, .ref (Z.2.2 1)), (2, .int p1)] dX6_readSum_25 (by decide) rfl ?_
          refine li_iload 0 dX6_readSum_27 rfl ?_
          refine li_if_ge 34 dX6_readSum_29 (by decide) (fun c11 => ?_) (fun c11 => ?_)
          · have tc11 : 0 ≤ x8.toInt := tl_le c11
            refine li_aload_n 2 dX6_readSum_34 rfl ?_
            refine li_aload_n 3 dX6_readSum_35 rfl ?_
            refine li_iload_n 4 dX6_readSum_36 rfl ?_
            refine li_callV (n := 2) (As := [.ref (Z.2.2 1), .int p1]) dX6_readSum_37 (k_X6_readProduct (d - 1) (by omega) hr p1 dE IH (by omega) M9) (by omega) (Nat.le_of_ble_eq_true rfl) w_556 w_558 w_3 w_107 w_559 (by decide +kernel) rfl (snR0 hr) (shR0 hr) rfl rfl (Nat.le_of_ble_eq_true rfl) (fun r M13 h14 => ?_)
            obtain ⟨⟨x12, rfl, bx12⟩, h14⟩ := h14
            have ux12 := tl_b bx12
            have hf := li_fr_trans hf h14 (fun i (h : i = r ∨ i = r + 1 ∨ i = 1) => (show i = r ∨ i = r + 1 ∨ i = 1 by omega))
            refine li_if_eq 54 dX6_readSum_40 (by decide) (fun c15 => ?_) (fun c15 => ?_)
            · have tc15 : x12.toInt = 0 := tl_eq c15
              refine li_iconst 0 dX6_readSum_54 (by decide) ?_
              exact li_iret dX6_readSum_55 rfl (li_nz (Or.inl rfl)) ⟨⟨_, rfl, Or.inl rfl⟩, hf⟩
            · have tc15 : ¬ x12.toInt = 0 := tl_ne c15
              refine li_aload_n 2 dX6_readSum_43 rfl ?_
              refine li_ldcS 1 dX6_readSum_44 (by decide) ⟨rfl, rfl⟩ ?_
              refine li_iload 0 dX6_readSum_46 rfl ?_
              refine li_callV (n := 2) (As := [.ref (Z.2.2 (2100 + 1)), .int x8]) dX6_readSum_48 (k_X6_addSign (d - 1) (by omega) hr (by decide) x8 M13) (by omega) (Nat.le_of_ble_eq_true rfl) w_645 w_647 w_7 w_107 w_648 (by decide +kernel) rfl (snR0 hr) (shR0 hr) rfl rfl (Nat.le_of_ble_eq_true rfl) (fun r M17 h18 => ?_)
              obtain ⟨⟨x16, rfl, bx16⟩, h18⟩ := h18
              have ux16 := tl_b bx16
              have hf := li_fr_trans hf h18 (fun i (h : i = r ∨ i = r + 1) => (show i = r ∨ i = r + 1 ∨ i = 1 by omega))
              refine li_if_ne 56 dX6_readSum_51 (by decide) (fun c19 => ?_) (fun c19 => ?_)
              · have tc19 : ¬ x16.toInt = 0 := tl_ne c19
                obtain ⟨x20, ex20⟩ : ∃ y : Int32, y = x5 + 1 := ⟨_, rfl⟩
                have tx20 : (-2147483648 ≤ x5.toInt + 1 ∧ x5.toInt + 1 ≤ 2147483647) → x20.toInt = x5.toInt + 1 := tl_add ex20
                refine li_iinc 1 [(3, .int x20), (4, .int x8), (0, .ref (Z.2.2 r)), (1, .ref (Z.2.2 1)), (2, .int p1)] x20 dX6_readSum_56 rfl (by rw [ex20]; rfl) (by decide) rfl ?_
                refine li_goto 13 dX6_readSum_59 (by decide) ?_
                refine li_pick [0, 2, 3, 4] [(3, .int x20), (0, .ref (Z.2.2 r)), (1, .ref (Z.2.2 1)), (2, .int p1)] rfl ?_
                exact ih13 x20 M17 (by have h9 := li_up (li_gt c7); rw [← ex20] at h9; omega) hf
              · have tc19 : x16.toInt = 0 := tl_eq c19
                refine li_iconst 0 dX6_readSum_54 (by decide) ?_
                exact li_iret dX6_readSum_55 rfl (li_nz (Or.inl rfl)) ⟨⟨_, rfl, Or.inl rfl⟩, hf⟩
          · have tc11 : x8.toInt < 0 := tl_nle c11
            refine li_iconst 1 dX6_readSum_32 (by decide) ?_
            exact li_iret dX6_readSum_33 rfl (li_nz (Or.inr rfl)) ⟨⟨_, rfl, Or.inr rfl⟩, hf⟩
    have z0 : (0 : Int32).toInt = 0 := rfl
    exact L13 _ 0 M2 (Nat.lt_succ_self _) hf
  · have tc4 : x1.toInt = 0 := tl_eq c4
    refine li_iconst 0 dX6_readSum_9 (by decide) ?_
    exact li_iret dX6_readSum_10 rfl (li_nz (Or.inl rfl)) ⟨⟨_, rfl, Or.inl rfl⟩, hf⟩
set_option maxRecDepth 100000 in
set_option maxHeartbeats 4000000 in
theorem k_X6_readExpression {l : Launch} {Z : li_Z} (d : Nat) (hd : 10 ≤ d) {r : Nat} (hr : li_ru r) (p1 : Int32) (dE : Nat) (IH : p1.toInt < 4 → ∀ (q : Int32), q.toInt = p1.toInt + 1 → ∀ (M : li_M), li_Met l Z YX6_readExpression dE [.ref (Z.2.2 r), .ref (Z.2.2 1), .int q] M (li_SZ (fun i => i = r ∨ i = r + 1 ∨ i = 1) M)) (hE : dE + 5 ≤ d) (M0 : li_M) : li_Met l Z YX6_readExpression d [.ref (Z.2.2 r), .ref (Z.2.2 1), .int p1] M0 (li_SZ (fun i => i = r ∨ i = r + 1 ∨ i = 1) M0) := by
  refine li_enter (by decide +kernel) (Nat.le_of_ble_eq_true rfl) ?_
  show li_T l Z YX6_readExpression d 0 [(0, .ref (Z.2.2 r)), (1, .ref (Z.2.2 1)), (2, .int p1)] [] M0 _
  have hf : li_fr (fun i => i = r ∨ i = r + 1 ∨ i = 1) M0 M0 := li_fr_refl
  have gp1 := tl_rg p1
  refine li_iload_n 2 dX6_readExpression_0 rfl ?_
  refine li_iconst 4 dX6_readExpression_1 (by decide) ?_
  refine li_icmp_gt 14 dX6_readExpression_2 (by decide) (fun c1 => ?_) (fun c1 => ?_)
  · have tc1 : 4 < p1.toInt := tl_lt c1
    refine li_iconst 0 dX6_readExpression_14 (by decide) ?_
    exact li_iret dX6_readExpression_15 rfl (li_nz (Or.inl rfl)) ⟨⟨_, rfl, Or.inl rfl⟩, hf⟩
  · have tc1 : p1.toInt ≤ 4 := tl_nlt c1
    refine li_aload_n 0 dX6_readExpression_5 rfl ?_
    refine li_aload_n 1 dX6_readExpression_6 rfl ?_
    refine li_iload_n 2 dX6_readExpression_7 rfl ?_
    refine li_callV (n := 2) (As := [.ref (Z.2.2 1), .int p1]) dX6_readExpression_8 (k_X6_readSum (d - 1) (by omega) hr p1 dE IH (by omega) M0) (by omega) (Nat.le_of_ble_eq_true rfl) w_552 w_554 w_2 w_107 w_555 (by decide +kernel) rfl (snR0 hr) (shR0 hr) rfl rfl (Nat.le_of_ble_eq_true rfl) (fun r M3 h4 => ?_)
    obtain ⟨⟨x2, rfl, bx2⟩, h4⟩ := h4
    have ux2 := tl_b bx2
    have hf := li_fr_trans hf h4 (fun i (h : i = r ∨ i = r + 1 ∨ i = 1) => (show i = r ∨ i = r + 1 ∨ i = 1 by omega))
    refine li_if_ne 16 dX6_readExpression_11 (by decide) (fun c5 => ?_) (fun c5 => ?_)
    · have tc5 : ¬ x2.toInt = 0 := tl_ne c5
      refine li_aload_n 1 dX6_readExpression_16 rfl ?_
      refine li_ldcS 0 dX6_readExpression_17 (by decide) ⟨rfl, rfl⟩ ?_
      refine li_callV (n := 1) (As := [.ref (Z.2.2 (2100 + 0))]) dX6_readExpression_19 (k_X7_takeAnyOf (d - 1) (by omega) (by decide) M3) (by omega) (Nat.le_of_ble_eq_true rfl) w_576 w_577 w_578 w_102 w_579 (by decide +kernel) rfl (by decide) sh_1 rfl rfl (Nat.le_of_ble_eq_true rfl) (fun r M7 h8 => ?_)
      obtain ⟨⟨x6, rfl⟩, h8⟩ := h8
      have gx6 := tl_rg x6
      have hf := li_fr_trans hf h8 (fun i (h : i = 1) => (show i = r ∨ i = r + 1 ∨ i = 1 by omega))
      refine li_istore_n [(3, .int x6), (0, .ref (Z.2.2 r)), (1, .ref (Z.2.2 1)), (2, .int p1)] dX6_readExpression_22 (by decide) rfl ?_
      refine li_iload_n 0 dX6_readExpression_23 rfl ?_
      refine li_if_lt 46 dX6_readExpression_24 (by decide) (fun c9 => ?_) (fun c9 => ?_)
      · have tc9 : x6.toInt < 0 := tl_lt c9
        refine li_iconst 1 dX6_readExpression_46 (by decide) ?_
        refine li_goto 51 dX6_readExpression_47 (by decide) ?_
        exact li_iret dX6_readExpression_51 rfl (li_nz (Or.inr rfl)) ⟨⟨_, rfl, Or.inr rfl⟩, hf⟩
      · have tc9 : 0 ≤ x6.toInt := tl_nlt c9
        refine li_aload_n 1 dX6_readExpression_27 rfl ?_
        refine li_aload_n 2 dX6_readExpression_28 rfl ?_
        refine li_iload_n 3 dX6_readExpression_29 rfl ?_
        refine li_callV (n := 2) (As := [.ref (Z.2.2 1), .int p1]) dX6_readExpression_30 (k_X6_readSum (d - 1) (by omega) hr p1 dE IH (by omega) M7) (by omega) (Nat.le_of_ble_eq_true rfl) w_552 w_554 w_2 w_107 w_555 (by decide +kernel) rfl (snR0 hr) (shR0 hr) rfl rfl (Nat.le_of_ble_eq_true rfl) (fun r M11 h12 => ?_)
        obtain ⟨⟨x10, rfl, bx10⟩, h12⟩ := h12
        have ux10 := tl_b bx10
        have hf := li_fr_trans hf h12 (fun i (h : i = r ∨ i = r + 1 ∨ i = 1) => (show i = r ∨ i = r + 1 ∨ i = 1 by omega))
        refine li_if_eq 50 dX6_readExpression_33 (by decide) (fun c13 => ?_) (fun c13 => ?_)
        · have tc13 : x10.toInt = 0 := tl_eq c13
          refine li_iconst 0 dX6_readExpression_50 (by decide) ?_
          exact li_iret dX6_readExpression_51 rfl (li_nz (Or.inl rfl)) ⟨⟨_, rfl, Or.inl rfl⟩, hf⟩
        · have tc13 : ¬ x10.toInt = 0 := tl_ne c13
          refine li_aload_n 1 dX6_readExpression_36 rfl ?_
          refine li_ldcS 0 dX6_readExpression_37 (by decide) ⟨rfl, rfl⟩ ?_
          refine li_iload_n 0 dX6_readExpression_39 rfl ?_
          refine li_callV (n := 2) (As := [.ref (Z.2.2 (2100 + 0)), .int x6]) dX6_readExpression_40 (k_X6_addSign (d - 1) (by omega) hr (by decide) x6 M11) (by omega) (Nat.le_of_ble_eq_true rfl) w_645 w_647 w_7 w_107 w_648 (by decide +kernel) rfl (snR0 hr) (shR0 hr) rfl rfl (Nat.le_of_ble_eq_true rfl) (fun r M15 h16 => ?_)
          obtain ⟨⟨x14, rfl, bx14⟩, h16⟩ := h16
          have ux14 := tl_b bx14
          have hf := li_fr_trans hf h16 (fun i (h : i = r ∨ i = r + 1) => (show i = r ∨ i = r + 1 ∨ i = 1 by omega))
          refine li_if_eq 50 dX6_readExpression_43 (by decide) (fun c17 => ?_) (fun c17 => ?_)
          · have tc17 : x14.toInt = 0 := tl_eq c17
            refine li_iconst 0 dX6_readExpression_50 (by decide) ?_
            exact li_iret dX6_readExpression_51 rfl (li_nz (Or.inl rfl)) ⟨⟨_, rfl, Or.inl rfl⟩, hf⟩
          · have tc17 : ¬ x14.toInt = 0 := tl_ne c17
            refine li_iconst 1 dX6_readExpression_46 (by decide) ?_
            refine li_goto 51 dX6_readExpression_47 (by decide) ?_
            exact li_iret dX6_readExpression_51 rfl (li_nz (Or.inr rfl)) ⟨⟨_, rfl, Or.inr rfl⟩, hf⟩
    · have tc5 : x2.toInt = 0 := tl_eq c5
      refine li_iconst 0 dX6_readExpression_14 (by decide) ?_
      exact li_iret dX6_readExpression_15 rfl (li_nz (Or.inl rfl)) ⟨⟨_, rfl, Or.inl rfl⟩, hf⟩
theorem kk_X6_readExpression {l : Launch} {Z : li_Z} {r : Nat} (hr : li_ru r) : ∀ (n d : Nat) (p1 : Int32) (M0 : li_M), (4 - p1.toInt).toNat ≤ n → 5 * n + 12 ≤ d → li_Met l Z YX6_readExpression d [.ref (Z.2.2 r), .ref (Z.2.2 1), .int p1] M0 (li_SZ (fun i => i = r ∨ i = r + 1 ∨ i = 1) M0) := by
  intro n
  induction n with
  | zero =>
    intro d p1 M0 h1 h2
    exact k_X6_readExpression d (by omega) hr p1 0 (fun h => absurd h (by omega)) (by omega) M0
  | succ n ih =>
    intro d p1 M0 h1 h2
    exact k_X6_readExpression d (by omega) hr p1 (5 * n + 12) (fun h q hq M => ih (5 * n + 12) q M (by omega) (by omega)) (by omega) M0
set_option maxRecDepth 100000 in
set_option maxHeartbeats 4000000 in
theorem k_X6_readAll {l : Launch} {Z : li_Z} (d : Nat) (hd : 34 ≤ d) {r : Nat} (hr : li_ru r) (M0 : li_M) : li_Met l Z YX6_readAll d [.ref (Z.2.2 r), .ref (Z.2.2 1)] M0 (li_SZ (fun i => i = r ∨ i = r + 1 ∨ i = 1) M0) := by
  refine li_enter (by decide +kernel) (Nat.le_of_ble_eq_true rfl) ?_
  show li_T l Z YX6_readAll d 0 [(0, .ref (Z.2.2 r)), (1, .ref (Z.2.2 1))] [] M0 _
  have hf : li_fr (fun i => i = r ∨ i = r + 1 ∨ i = 1) M0 M0 := li_fr_refl
  refine li_aload_n 0 dX6_readAll_0 rfl ?_
  refine li_iconst 0 dX6_readAll_1 (by decide) ?_
  refine li_puti (k := 3) (N := 4) (T := TX6) (C0 := RX6) dX6_readAll_2 (snR0 hr) (shR0 hr) rfl rfl (by decide) li_in6 tyX6_ok nmX6 rfl rfl rfl rfl w_319 ?_
  refine li_nm (fun M1 eM1 => ?_)
  have hf := li_fr_ui hf (show r = r ∨ r = r + 1 ∨ r = 1 by omega) eM1
  refine li_aload_n 1 dX6_readAll_5 rfl ?_
  refine li_callV (n := 0) (As := []) dX6_readAll_6 (k_X7_atEnd (d - 1) (by omega)  M1) (by omega) (Nat.le_of_ble_eq_true rfl) w_544 w_545 w_546 w_102 w_547 (by decide +kernel) rfl (by decide) sh_1 rfl rfl (Nat.le_of_ble_eq_true rfl) (fun r M3 h4 => ?_)
  obtain ⟨⟨x2, rfl, bx2⟩, h4⟩ := h4
  have hf := li_fr_trans hf h4 (fun i h => False.elim h)
  refine li_if_ne 28 dX6_readAll_9 (by decide) (fun c5 => ?_) (fun c5 => ?_)
  · refine li_iconst 1 dX6_readAll_28 (by decide) ?_
    refine li_goto 33 dX6_readAll_29 (by decide) ?_
    exact li_iret dX6_readAll_33 rfl (li_nz (Or.inr rfl)) ⟨⟨_, rfl, Or.inr rfl⟩, hf⟩
  · refine li_aload_n 0 dX6_readAll_12 rfl ?_
    refine li_aload_n 1 dX6_readAll_13 rfl ?_
    refine li_iconst 0 dX6_readAll_14 (by decide) ?_
    refine li_callV (n := 2) (As := [.ref (Z.2.2 1), .int 0]) dX6_readAll_15 (kk_X6_readExpression hr 4 (d - 1) 0 M3 (by decide) (by omega)) (by omega) (Nat.le_of_ble_eq_true rfl) w_548 w_550 w_1 w_107 w_551 (by decide +kernel) rfl (snR0 hr) (shR0 hr) rfl rfl (Nat.le_of_ble_eq_true rfl) (fun r M7 h8 => ?_)
    obtain ⟨⟨x6, rfl, bx6⟩, h8⟩ := h8
    have hf := li_fr_trans hf h8 (fun i (h : i = r ∨ i = r + 1 ∨ i = 1) => (show i = r ∨ i = r + 1 ∨ i = 1 by omega))
    refine li_if_eq 32 dX6_readAll_18 (by decide) (fun c9 => ?_) (fun c9 => ?_)
    · refine li_iconst 0 dX6_readAll_32 (by decide) ?_
      exact li_iret dX6_readAll_33 rfl (li_nz (Or.inl rfl)) ⟨⟨_, rfl, Or.inl rfl⟩, hf⟩
    · refine li_aload_n 1 dX6_readAll_21 rfl ?_
      refine li_callV (n := 0) (As := []) dX6_readAll_22 (k_X7_atEnd (d - 1) (by omega)  M7) (by omega) (Nat.le_of_ble_eq_true rfl) w_544 w_545 w_546 w_102 w_547 (by decide +kernel) rfl (by decide) sh_1 rfl rfl (Nat.le_of_ble_eq_true rfl) (fun r M11 h12 => ?_)
      obtain ⟨⟨x10, rfl, bx10⟩, h12⟩ := h12
      have hf := li_fr_trans hf h12 (fun i h => False.elim h)
      refine li_if_eq 32 dX6_readAll_25 (by decide) (fun c13 => ?_) (fun c13 => ?_)
      · refine li_iconst 0 dX6_readAll_32 (by decide) ?_
        exact li_iret dX6_readAll_33 rfl (li_nz (Or.inl rfl)) ⟨⟨_, rfl, Or.inl rfl⟩, hf⟩
      · refine li_iconst 1 dX6_readAll_28 (by decide) ?_
        refine li_goto 33 dX6_readAll_29 (by decide) ?_
        exact li_iret dX6_readAll_33 rfl (li_nz (Or.inr rfl)) ⟨⟨_, rfl, Or.inr rfl⟩, hf⟩
set_option maxRecDepth 100000 in
set_option maxHeartbeats 4000000 in
theorem k_X6_copyFrom {l : Launch} {Z : li_Z} (d : Nat) (hd : 1 ≤ d) (M0 : li_M) : li_Met l Z YX6_copyFrom d [.ref (Z.2.2 144), .ref (Z.2.2 151)] M0 (li_SV (fun i => i = 144 ∨ i = 145) M0) := by
  refine li_enter (by decide +kernel) (Nat.le_of_ble_eq_true rfl) ?_
  show li_T l Z YX6_copyFrom d 0 [(0, .ref (Z.2.2 144)), (1, .ref (Z.2.2 151))] [] M0 _
  have hf : li_fr (fun i => i = 144 ∨ i = 145) M0 M0 := li_fr_refl
  refine li_aload_n 0 dX6_copyFrom_0 rfl ?_
  refine li_aload_n 1 dX6_copyFrom_1 rfl ?_
  refine li_geti (k := 3) (N := 4) (T := TX6) (C0 := RX6) dX6_copyFrom_2 (by decide) sh_151 rfl rfl (by decide) li_in6 w_319 ?_
  refine li_top (fun x1 ex1 => ?_)
  refine li_puti (k := 3) (N := 4) (T := TX6) (C0 := RX6) dX6_copyFrom_5 (by decide) sh_144 rfl rfl (by decide) li_in6 tyX6_ok nmX6 rfl rfl rfl rfl w_319 ?_
  refine li_nm (fun M2 eM2 => ?_)
  have hf := li_fr_ui hf (show 144 = 144 ∨ 144 = 145 by omega) eM2
  refine li_aload_n 1 dX6_copyFrom_8 rfl ?_
  refine li_getr (k := 0) (N := 4) (T := TX6) (C0 := RX6) dX6_copyFrom_9 (by decide) sh_151 rfl rfl (by decide) (by decide) li_in6 w_315 ?_
  refine li_iconst 0 dX6_copyFrom_12 (by decide) ?_
  refine li_aload_n 0 dX6_copyFrom_13 rfl ?_
  refine li_getr (k := 0) (N := 4) (T := TX6) (C0 := RX6) dX6_copyFrom_14 (by decide) sh_144 rfl rfl (by decide) (by decide) li_in6 w_315 ?_
  refine li_iconst 0 dX6_copyFrom_17 (by decide) ?_
  refine li_bipush 80 dX6_copyFrom_18 (by decide) ?_
  refine li_copyI dX6_copyFrom_20 (by omega) w_751 w_753 w_752 w_118 (by decide) sh_152 (by decide) sh_145 (by decide) (by decide) (by decide) (Nat.le_of_ble_eq_true rfl) ?_
  refine li_nm (fun M3 eM3 => ?_)
  have hf := li_fr_uc hf (show 145 = 144 ∨ 145 = 145 by omega) eM3
  exact li_vret dX6_copyFrom_23 rfl ⟨rfl, hf⟩
set_option maxRecDepth 100000 in
set_option maxHeartbeats 4000000 in
theorem k_X6_evaluate {l : Launch} {Z : li_Z} (d : Nat) (hd : 2 ≤ d) {r : Nat} (hr : li_ru r) (M0 : li_M) : li_Met l Z YX6_evaluate d [.ref (Z.2.2 r)] M0 (li_SI (fun i => i = r + 2) M0) := by
  refine li_enter (by decide +kernel) (Nat.le_of_ble_eq_true rfl) ?_
  show li_T l Z YX6_evaluate d 0 [(0, .ref (Z.2.2 r))] [] M0 _
  have hf : li_fr (fun i => i = r + 2) M0 M0 := li_fr_refl
  refine li_aload_n 0 dX6_evaluate_0 rfl ?_
  refine li_geti (k := 3) (N := 4) (T := TX6) (C0 := RX6) dX6_evaluate_1 (snR0 hr) (shR0 hr) rfl rfl (by decide) li_in6 w_319 ?_
  refine li_top (fun x1 ex1 => ?_)
  refine li_if_ne 27 dX6_evaluate_4 (by decide) (fun c2 => ?_) (fun c2 => ?_)
  · refine li_iconst 0 dX6_evaluate_27 (by decide) ?_
    refine li_istore_n [(1, .int 0), (0, .ref (Z.2.2 r))] dX6_evaluate_28 (by decide) rfl ?_
    refine li_iconst 0 dX6_evaluate_29 (by decide) ?_
    refine li_istore_n [(2, .int 0), (1, .int 0), (0, .ref (Z.2.2 r))] dX6_evaluate_30 (by decide) rfl ?_
    have L31 : ∀ (n : Nat) (x3 : Int32) (x4 : Int32) (M5 : li_M), (2147483647 - (x3 : Int32).toInt).toNat < n → li_fr (fun i => i = r + 2) M0 M5 → li_T l Z YX6_evaluate d 31 [(2, .int x3), (1, .int x4), (0, .ref (Z.2.2 r))] [] M5 (li_SI (fun i => i = r + 2) M0) := by
      intro n
      induction n with
      | zero => intro x3 x4 M5 hn; exact absurd hn (Nat.not_lt_zero _)
      | succ n ih31 =>
        intro x3 x4 M5 hn hf
        refine li_iload_n 0 dX6_evaluate_31 rfl ?_
        refine li_aload_n 2 dX6_evaluate_32 rfl ?_
        refine li_geti (k := 3) (N := 4) (T := TX6) (C0 := RX6) dX6_evaluate_33 (snR0 hr) (shR0 hr) rfl rfl (by decide) li_in6 w_319 ?_
        refine li_top (fun x6 ex6 => ?_)
        refine li_icmp_ge 172 dX6_evaluate_36 (by decide) (fun c7 => ?_) (fun c7 => ?_)
        · refine li_aload_n 2 dX6_evaluate_172 rfl ?_
          refine li_getr (k := 1) (N := 4) (T := TX6) (C0 := RX6) dX6_evaluate_173 (snR0 hr) (shR0 hr) rfl rfl (lkR2 hr) (by decide) li_in6 w_316 ?_
          refine li_iconst 0 dX6_evaluate_176 (by decide) ?_
          refine li_callN (n := 2) (As := [.ref (Z.2.2 (r + 2)), .int 0]) dX6_evaluate_177 (k_X11_at (d - 1) (by omega) (snR2 hr) (shR2 hr) (by decide) 0 M5) (by omega) (Nat.le_of_ble_eq_true rfl) nw_18 w_569 w_101 w_570 (by decide +kernel) rfl rfl (Nat.le_of_ble_eq_true rfl) (fun r M9 h10 => ?_)
          obtain ⟨⟨x8, rfl⟩, h10⟩ := h10
          have hf := li_fr_trans hf h10 (fun i h => False.elim h)
          refine li_sipush 999 dX6_evaluate_180 (by decide) ?_
          refine li_callN (n := 2) (As := [.int x8, .int 999]) dX6_evaluate_183 (k_X11_clamp (d - 1) (by omega) x8 999 M9) (by omega) (Nat.le_of_ble_eq_true rfl) nw_19 w_772 w_101 w_773 (by decide +kernel) rfl rfl (Nat.le_of_ble_eq_true rfl) (fun r M12 h13 => ?_)
          obtain ⟨⟨x11, rfl⟩, h13⟩ := h13
          have hf := li_fr_trans hf h13 (fun i h => False.elim h)
          exact li_iret dX6_evaluate_186 rfl rfl ⟨⟨_, rfl⟩, hf⟩
        · refine li_aload_n 2 dX6_evaluate_39 rfl ?_
          refine li_getr (k := 0) (N := 4) (T := TX6) (C0 := RX6) dX6_evaluate_40 (snR0 hr) (shR0 hr) rfl rfl (lkR1 hr) (by decide) li_in6 w_315 ?_
          refine li_iload_n 0 dX6_evaluate_43 rfl ?_
          refine li_callN (n := 2) (As := [.ref (Z.2.2 (r + 1)), .int x3]) dX6_evaluate_44 (k_X11_at (d - 1) (by omega) (snR1 hr) (shR1 hr) (by decide) x3 M5) (by omega) (Nat.le_of_ble_eq_true rfl) nw_18 w_569 w_101 w_570 (by decide +kernel) rfl rfl (Nat.le_of_ble_eq_true rfl) (fun r M15 h16 => ?_)
          obtain ⟨⟨x14, rfl⟩, h16⟩ := h16
          have hf := li_fr_trans hf h16 (fun i h => False.elim h)
          refine li_istore_n [(3, .int x14), (2, .int x3), (1, .int x4), (0, .ref (Z.2.2 r))] dX6_evaluate_47 (by decide) rfl ?_
          refine li_iload_n 0 dX6_evaluate_48 rfl ?_
          refine li_sipush 1000 dX6_evaluate_49 (by decide) ?_
          have J166 : ∀ (x18 : Int32) (M19 : li_M), li_fr (fun i => i = r + 2) M0 M19 → li_T l Z YX6_evaluate d 166 [(3, .int x14), (2, .int x3), (1, .int x18), (0, .ref (Z.2.2 r))] [] M19 (li_SI (fun i => i = r + 2) M0) := by
            intro x18 M19 hf
            obtain ⟨x20, ex20⟩ : ∃ y : Int32, y = x3 + 1 := ⟨_, rfl⟩
            refine li_iinc 1 [(2, .int x20), (3, .int x14), (1, .int x18), (0, .ref (Z.2.2 r))] x20 dX6_evaluate_166 rfl (by rw [ex20]; rfl) (by decide) rfl ?_
            refine li_goto 31 dX6_evaluate_169 (by decide) ?_
            refine li_pick [0, 2, 3] [(2, .int x20), (1, .int x18), (0, .ref (Z.2.2 r))] rfl ?_
            exact ih31 x20 x18 M19 (by have h9 := li_up (li_gt c7); rw [← ex20] at h9; omega) hf
          refine li_icmp_lt 81 dX6_evaluate_52 (by decide) (fun c17 => ?_) (fun c17 => ?_)
          · refine li_iload_n 0 dX6_evaluate_81 rfl ?_
            refine li_if_lt 100 dX6_evaluate_82 (by decide) (fun c21 => ?_) (fun c21 => ?_)
            · refine li_iload_n 0 dX6_evaluate_100 rfl ?_
              refine li_bipush (-126) dX6_evaluate_101 (by decide) ?_
              refine li_icmp_ne 130 dX6_evaluate_103 (by decide) (fun c22 => ?_) (fun c22 => ?_)
              · obtain ⟨x23, ex23⟩ : ∃ y : Int32, y = x4 + (-1) := ⟨_, rfl⟩
                refine li_iinc 2 [(1, .int x23), (3, .int x14), (2, .int x3), (0, .ref (Z.2.2 r))] x23 dX6_evaluate_130 rfl (by rw [ex23]; rfl) (by decide) rfl ?_
                refine li_aload_n 3 dX6_evaluate_133 rfl ?_
                refine li_getr (k := 1) (N := 4) (T := TX6) (C0 := RX6) dX6_evaluate_134 (snR0 hr) (shR0 hr) rfl rfl (lkR2 hr) (by decide) li_in6 w_316 ?_
                refine li_iload_n 0 dX6_evaluate_137 rfl ?_
                refine li_iconst 1 dX6_evaluate_138 (by decide) ?_
                refine li_isub dX6_evaluate_139 ?_
                refine li_top (fun x24 ex24 => ?_)
                refine li_iload_n 1 dX6_evaluate_140 rfl ?_
                refine li_ineg dX6_evaluate_141 ?_
                refine li_top (fun x25 ex25 => ?_)
                refine li_aload_n 3 dX6_evaluate_142 rfl ?_
                refine li_getr (k := 1) (N := 4) (T := TX6) (C0 := RX6) dX6_evaluate_143 (snR0 hr) (shR0 hr) rfl rfl (lkR2 hr) (by decide) li_in6 w_316 ?_
                refine li_iload_n 0 dX6_evaluate_146 rfl ?_
                refine li_iconst 1 dX6_evaluate_147 (by decide) ?_
                refine li_isub dX6_evaluate_148 ?_
                refine li_top (fun x26 ex26 => ?_)
                refine li_callN (n := 2) (As := [.ref (Z.2.2 (r + 2)), .int x26]) dX6_evaluate_149 (k_X11_at (d - 1) (by omega) (snR2 hr) (shR2 hr) (by decide) x26 M15) (by omega) (Nat.le_of_ble_eq_true rfl) nw_18 w_569 w_101 w_570 (by decide +kernel) rfl rfl (Nat.le_of_ble_eq_true rfl) (fun r M28 h29 => ?_)
                obtain ⟨⟨x27, rfl⟩, h29⟩ := h29
                have hf := li_fr_trans hf h29 (fun i h => False.elim h)
                refine li_aload_n 3 dX6_evaluate_152 rfl ?_
                refine li_getr (k := 1) (N := 4) (T := TX6) (C0 := RX6) dX6_evaluate_153 (snR0 hr) (shR0 hr) rfl rfl (lkR2 hr) (by decide) li_in6 w_316 ?_
                refine li_iload_n 0 dX6_evaluate_156 rfl ?_
                refine li_callN (n := 2) (As := [.ref (Z.2.2 (r + 2)), .int x23]) dX6_evaluate_157 (k_X11_at (d - 1) (by omega) (snR2 hr) (shR2 hr) (by decide) x23 M28) (by omega) (Nat.le_of_ble_eq_true rfl) nw_18 w_569 w_101 w_570 (by decide +kernel) rfl rfl (Nat.le_of_ble_eq_true rfl) (fun r M31 h32 => ?_)
                obtain ⟨⟨x30, rfl⟩, h32⟩ := h32
                have hf := li_fr_trans hf h32 (fun i h => False.elim h)
                refine li_callS (n := 3) (As := [.int x25, .int x27, .int x30]) dX6_evaluate_160 (k_X6_reckon (d - 1) (by omega) x25 x27 x30 M31) (by omega) (Nat.le_of_ble_eq_true rfl) w_835 w_836 w_107 w_837 (by decide +kernel) rfl rfl (Nat.le_of_ble_eq_true rfl) (fun r M34 h35 => ?_)
                obtain ⟨⟨x33, rfl⟩, h35⟩ := h35
                have hf := li_fr_trans hf h35 (fun i h => False.elim h)
                refine li_callN (n := 3) (As := [.ref (Z.2.2 (r + 2)), .int x24, .int x33]) dX6_evaluate_163 (k_X11_put (d - 1) (by omega) (snR2 hr) (shR2 hr) (by decide) x24 x33 M34) (by omega) (Nat.le_of_ble_eq_true rfl) nw_9 w_522 w_101 w_523 (by decide +kernel) rfl rfl (Nat.le_of_ble_eq_true rfl) (fun r M37 h38 => ?_)
                obtain ⟨rfl, h38⟩ := h38
                have hf := li_fr_trans hf h38 (fun i (h : i = r + 2) => (show i = r + 2 by omega))
                refine li_pick [1, 2, 0, 3] [(3, .int x14), (2, .int x3), (1, .int x23), (0, .ref (Z.2.2 r))] rfl ?_
                exact J166 x23 M37 hf
              · refine li_aload_n 3 dX6_evaluate_106 rfl ?_
                refine li_getr (k := 1) (N := 4) (T := TX6) (C0 := RX6) dX6_evaluate_107 (snR0 hr) (shR0 hr) rfl rfl (lkR2 hr) (by decide) li_in6 w_316 ?_
                refine li_iload_n 2 dX6_evaluate_110 rfl ?_
                refine li_iconst 1 dX6_evaluate_111 (by decide) ?_
                refine li_isub dX6_evaluate_112 ?_
                refine li_top (fun x39 ex39 => ?_)
                refine li_aload_n 3 dX6_evaluate_113 rfl ?_
                refine li_getr (k := 1) (N := 4) (T := TX6) (C0 := RX6) dX6_evaluate_114 (snR0 hr) (shR0 hr) rfl rfl (lkR2 hr) (by decide) li_in6 w_316 ?_
                refine li_iload_n 2 dX6_evaluate_117 rfl ?_
                refine li_iconst 1 dX6_evaluate_118 (by decide) ?_
                refine li_isub dX6_evaluate_119 ?_
                refine li_top (fun x40 ex40 => ?_)
                refine li_callN (n := 2) (As := [.ref (Z.2.2 (r + 2)), .int x40]) dX6_evaluate_120 (k_X11_at (d - 1) (by omega) (snR2 hr) (shR2 hr) (by decide) x40 M15) (by omega) (Nat.le_of_ble_eq_true rfl) nw_18 w_569 w_101 w_570 (by decide +kernel) rfl rfl (Nat.le_of_ble_eq_true rfl) (fun r M42 h43 => ?_)
                obtain ⟨⟨x41, rfl⟩, h43⟩ := h43
                have hf := li_fr_trans hf h43 (fun i h => False.elim h)
                refine li_ineg dX6_evaluate_123 ?_
                refine li_top (fun x44 ex44 => ?_)
                refine li_callN (n := 3) (As := [.ref (Z.2.2 (r + 2)), .int x39, .int x44]) dX6_evaluate_124 (k_X11_put (d - 1) (by omega) (snR2 hr) (shR2 hr) (by decide) x39 x44 M42) (by omega) (Nat.le_of_ble_eq_true rfl) nw_9 w_522 w_101 w_523 (by decide +kernel) rfl rfl (Nat.le_of_ble_eq_true rfl) (fun r M46 h47 => ?_)
                obtain ⟨rfl, h47⟩ := h47
                have hf := li_fr_trans hf h47 (fun i (h : i = r + 2) => (show i = r + 2 by omega))
                refine li_goto 166 dX6_evaluate_127 (by decide) ?_
                refine li_pick [0, 1, 2, 3] [(3, .int x14), (2, .int x3), (1, .int x4), (0, .ref (Z.2.2 r))] rfl ?_
                exact J166 x4 M46 hf
            · refine li_aload_n 3 dX6_evaluate_85 rfl ?_
              refine li_getr (k := 1) (N := 4) (T := TX6) (C0 := RX6) dX6_evaluate_86 (snR0 hr) (shR0 hr) rfl rfl (lkR2 hr) (by decide) li_in6 w_316 ?_
              refine li_iload_n 2 dX6_evaluate_89 rfl ?_
              obtain ⟨x48, ex48⟩ : ∃ y : Int32, y = x4 + 1 := ⟨_, rfl⟩
              refine li_iinc 2 [(1, .int x48), (3, .int x14), (2, .int x3), (0, .ref (Z.2.2 r))] x48 dX6_evaluate_90 rfl (by rw [ex48]; rfl) (by decide) rfl ?_
              refine li_iload_n 1 dX6_evaluate_93 rfl ?_
              refine li_callN (n := 3) (As := [.ref (Z.2.2 (r + 2)), .int x4, .int x14]) dX6_evaluate_94 (k_X11_put (d - 1) (by omega) (snR2 hr) (shR2 hr) (by decide) x4 x14 M15) (by omega) (Nat.le_of_ble_eq_true rfl) nw_9 w_522 w_101 w_523 (by decide +kernel) rfl rfl (Nat.le_of_ble_eq_true rfl) (fun r M50 h51 => ?_)
              obtain ⟨rfl, h51⟩ := h51
              have hf := li_fr_trans hf h51 (fun i (h : i = r + 2) => (show i = r + 2 by omega))
              refine li_goto 166 dX6_evaluate_97 (by decide) ?_
              refine li_pick [1, 2, 0, 3] [(3, .int x14), (2, .int x3), (1, .int x48), (0, .ref (Z.2.2 r))] rfl ?_
              exact J166 x48 M50 hf
          · refine li_aload_n 3 dX6_evaluate_55 rfl ?_
            refine li_getr (k := 1) (N := 4) (T := TX6) (C0 := RX6) dX6_evaluate_56 (snR0 hr) (shR0 hr) rfl rfl (lkR2 hr) (by decide) li_in6 w_316 ?_
            refine li_iload_n 2 dX6_evaluate_59 rfl ?_
            obtain ⟨x52, ex52⟩ : ∃ y : Int32, y = x4 + 1 := ⟨_, rfl⟩
            refine li_iinc 2 [(1, .int x52), (3, .int x14), (2, .int x3), (0, .ref (Z.2.2 r))] x52 dX6_evaluate_60 rfl (by rw [ex52]; rfl) (by decide) rfl ?_
            refine li_aload_n 3 dX6_evaluate_63 rfl ?_
            refine li_getr (k := 2) (N := 4) (T := TX6) (C0 := RX6) dX6_evaluate_64 (snR0 hr) (shR0 hr) rfl rfl (lkR3 hr) (by decide) li_in6 w_317 ?_
            refine li_iload_n 1 dX6_evaluate_67 rfl ?_
            refine li_sipush 1000 dX6_evaluate_68 (by decide) ?_
            refine li_isub dX6_evaluate_71 ?_
            refine li_top (fun x53 ex53 => ?_)
            refine li_callN (n := 2) (As := [.ref (Z.2.2 (r + 3)), .int x53]) dX6_evaluate_72 (k_X11_at (d - 1) (by omega) (snR3 hr) (shR3 hr) (by decide) x53 M15) (by omega) (Nat.le_of_ble_eq_true rfl) nw_18 w_569 w_101 w_570 (by decide +kernel) rfl rfl (Nat.le_of_ble_eq_true rfl) (fun r M55 h56 => ?_)
            obtain ⟨⟨x54, rfl⟩, h56⟩ := h56
            have hf := li_fr_trans hf h56 (fun i h => False.elim h)
            refine li_callN (n := 3) (As := [.ref (Z.2.2 (r + 2)), .int x4, .int x54]) dX6_evaluate_75 (k_X11_put (d - 1) (by omega) (snR2 hr) (shR2 hr) (by decide) x4 x54 M55) (by omega) (Nat.le_of_ble_eq_true rfl) nw_9 w_522 w_101 w_523 (by decide +kernel) rfl rfl (Nat.le_of_ble_eq_true rfl) (fun r M58 h59 => ?_)
            obtain ⟨rfl, h59⟩ := h59
            have hf := li_fr_trans hf h59 (fun i (h : i = r + 2) => (show i = r + 2 by omega))
            refine li_goto 166 dX6_evaluate_78 (by decide) ?_
            refine li_pick [1, 2, 0, 3] [(3, .int x14), (2, .int x3), (1, .int x52), (0, .ref (Z.2.2 r))] rfl ?_
            exact J166 x52 M58 hf
    exact L31 _ 0 0 M0 (Nat.lt_succ_self _) hf
  · refine li_aload_n 0 dX6_evaluate_7 rfl ?_
    refine li_getr (k := 2) (N := 4) (T := TX6) (C0 := RX6) dX6_evaluate_8 (snR0 hr) (shR0 hr) rfl rfl (lkR3 hr) (by decide) li_in6 w_317 ?_
    refine li_iconst 0 dX6_evaluate_11 (by decide) ?_
    refine li_callN (n := 2) (As := [.ref (Z.2.2 (r + 3)), .int 0]) dX6_evaluate_12 (k_X11_at (d - 1) (by omega) (snR3 hr) (shR3 hr) (by decide) 0 M0) (by omega) (Nat.le_of_ble_eq_true rfl) nw_18 w_569 w_101 w_570 (by decide +kernel) rfl rfl (Nat.le_of_ble_eq_true rfl) (fun r M61 h62 => ?_)
    obtain ⟨⟨x60, rfl⟩, h62⟩ := h62
    have hf := li_fr_trans hf h62 (fun i h => False.elim h)
    refine li_aload_n 0 dX6_evaluate_15 rfl ?_
    refine li_getr (k := 2) (N := 4) (T := TX6) (C0 := RX6) dX6_evaluate_16 (snR0 hr) (shR0 hr) rfl rfl (lkR3 hr) (by decide) li_in6 w_317 ?_
    refine li_iconst 1 dX6_evaluate_19 (by decide) ?_
    refine li_callN (n := 2) (As := [.ref (Z.2.2 (r + 3)), .int 1]) dX6_evaluate_20 (k_X11_at (d - 1) (by omega) (snR3 hr) (shR3 hr) (by decide) 1 M61) (by omega) (Nat.le_of_ble_eq_true rfl) nw_18 w_569 w_101 w_570 (by decide +kernel) rfl rfl (Nat.le_of_ble_eq_true rfl) (fun r M64 h65 => ?_)
    obtain ⟨⟨x63, rfl⟩, h65⟩ := h65
    have hf := li_fr_trans hf h65 (fun i h => False.elim h)
    refine li_callS (n := 2) (As := [.int x60, .int x63]) dX6_evaluate_23 (k_X6_usual (d - 1) (by omega) x60 x63 M64) (by omega) (Nat.le_of_ble_eq_true rfl) w_832 w_833 w_107 w_834 (by decide +kernel) rfl rfl (Nat.le_of_ble_eq_true rfl) (fun r M67 h68 => ?_)
    obtain ⟨⟨x66, rfl⟩, h68⟩ := h68
    have hf := li_fr_trans hf h68 (fun i h => False.elim h)
    exact li_iret dX6_evaluate_26 rfl rfl ⟨⟨_, rfl⟩, hf⟩
