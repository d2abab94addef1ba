theorem w_8 : (Jvm.Cond.selects "ClockForTalk" ({ cls := "ClockForTalk", name := "readLines", desc := "(II)I" } : Jvm.MethodName) ({ cls := "ClockForTalk", name := "readLines", desc := "(II)I" } : Jvm.MethodName)) ∈ li_ws := li_mem 8 (by decide +kernel) (by decide +kernel)
theorem w_9 : (Jvm.Cond.selects "ClockForTalk" ({ cls := "ClockForTalk", name := "readLine", desc := "(II)Z" } : Jvm.MethodName) ({ cls := "ClockForTalk", name := "readLine", desc := "(II)Z" } : Jvm.MethodName)) ∈ li_ws := li_mem 9 (by decide +kernel) (by decide +kernel)
theorem w_10 : (Jvm.Cond.selects "ClockForTalk" ({ cls := "ClockForTalk", name := "readWish", desc := "(I)Z" } : Jvm.MethodName) ({ cls := "ClockForTalk", name := "readWish", desc := "(I)Z" } : Jvm.MethodName)) ∈ li_ws := li_mem 10 (by decide +kernel) (by decide +kernel)
theorem w_11 : (Jvm.Cond.selects "ClockForTalk" ({ cls := "ClockForTalk", name := "readAct", desc := "(I)Z" } : Jvm.MethodName) ({ cls := "ClockForTalk", name := "readAct", desc := "(I)Z" } : Jvm.MethodName)) ∈ li_ws := li_mem 11 (by decide +kernel) (by decide +kernel)
theorem w_12 : (Jvm.Cond.selects "ClockForTalk" ({ cls := "ClockForTalk", name := "readSaying", desc := "(I)Z" } : Jvm.MethodName) ({ cls := "ClockForTalk", name := "readSaying", desc := "(I)Z" } : Jvm.MethodName)) ∈ li_ws := li_mem 12 (by decide +kernel) (by decide +kernel)
theorem w_13 : (Jvm.Cond.selects "ClockForTalk" ({ cls := "ClockForTalk", name := "writeAct", desc := "(IIIII)V" } : Jvm.MethodName) ({ cls := "ClockForTalk", name := "writeAct", desc := "(IIIII)V" } : Jvm.MethodName)) ∈ li_ws := li_mem 13 (by decide +kernel) (by decide +kernel)
theorem w_14 : (Jvm.Cond.selects "ClockForTalk" ({ cls := "ClockForTalk", name := "readGift", desc := "(I)Z" } : Jvm.MethodName) ({ cls := "ClockForTalk", name := "readGift", desc := "(I)Z" } : Jvm.MethodName)) ∈ li_ws := li_mem 14 (by decide +kernel) (by decide +kernel)
theorem w_15 : (Jvm.Cond.selects "ClockForTalk" ({ cls := "ClockForTalk", name := "utter", desc := "(II)I" } : Jvm.MethodName) ({ cls := "ClockForTalk", name := "utter", desc := "(II)I" } : Jvm.MethodName)) ∈ li_ws := li_mem 15 (by decide +kernel) (by decide +kernel)
theorem w_17 : (Jvm.Cond.selects "ClockForTalk" ({ cls := "ClockForTalk", name := "handOver", desc := "(III)I" } : Jvm.MethodName) ({ cls := "ClockForTalk", name := "handOver", desc := "(III)I" } : Jvm.MethodName)) ∈ li_ws := li_mem 17 (by decide +kernel) (by decide +kernel)
theorem w_18 : (Jvm.Cond.selects "ClockForTalk" ({ cls := "ClockForTalk", name := "passDays", desc := "(I)V" } : Jvm.MethodName) ({ cls := "ClockForTalk", name := "passDays", desc := "(I)V" } : Jvm.MethodName)) ∈ li_ws := li_mem 18 (by decide +kernel) (by decide +kernel)
theorem w_106 : (Jvm.Cond.initialized "ClockForTalk$History") ∈ li_ws := li_mem 106 (by decide +kernel) (by decide +kernel)
theorem w_140 : (Jvm.Cond.fieldLink "ClockForTalk" (97 : Nat) "ClockForTalk$Text" "length" "I") ∈ li_ws := li_mem 140 (by decide +kernel) (by decide +kernel)
theorem w_144 : (Jvm.Cond.fieldLink "ClockForTalk" (445 : Nat) "ClockForTalk$Text" "place" "I") ∈ li_ws := li_mem 144 (by decide +kernel) (by decide +kernel)
theorem w_178 : (Jvm.Cond.fieldLink "ClockForTalk" (104 : Nat) "ClockForTalk$Town" "persons" "I") ∈ li_ws := li_mem 178 (by decide +kernel) (by decide +kernel)
theorem w_180 : (Jvm.Cond.fieldLink "ClockForTalk" (118 : Nat) "ClockForTalk$Town" "wishes" "I") ∈ li_ws := li_mem 180 (by decide +kernel) (by decide +kernel)
theorem w_190 : (Jvm.Cond.fieldLink "ClockForTalk" (175 : Nat) "ClockForTalk$Town" "who" "[I") ∈ li_ws := li_mem 190 (by decide +kernel) (by decide +kernel)
theorem w_231 : (Jvm.Cond.fieldLink "ClockForTalk" (257 : Nat) "ClockForTalk$Ledger" "day" "I") ∈ li_ws := li_mem 231 (by decide +kernel) (by decide +kernel)
theorem w_233 : (Jvm.Cond.fieldLink "ClockForTalk" (190 : Nat) "ClockForTalk$Ledger" "said" "I") ∈ li_ws := li_mem 233 (by decide +kernel) (by decide +kernel)
theorem w_243 : (Jvm.Cond.fieldLink "ClockForTalk" (146 : Nat) "ClockForTalk$Ledger" "clocks" "[I") ∈ li_ws := li_mem 243 (by decide +kernel) (by decide +kernel)
theorem w_380 : (Jvm.Cond.fieldLink "ClockForTalk" (311 : Nat) "ClockForTalk$Costs" "chosenWorth" "I") ∈ li_ws := li_mem 380 (by decide +kernel) (by decide +kernel)
theorem w_473 : (Jvm.Cond.fieldLink "ClockForTalk" (12 : Nat) "ClockForTalk" "text" "LClockForTalk$Text;") ∈ li_ws := li_mem 473 (by decide +kernel) (by decide +kernel)
theorem w_475 : (Jvm.Cond.fieldLink "ClockForTalk" (26 : Nat) "ClockForTalk" "town" "LClockForTalk$Town;") ∈ li_ws := li_mem 475 (by decide +kernel) (by decide +kernel)
theorem w_476 : (Jvm.Cond.fieldLink "ClockForTalk" (33 : Nat) "ClockForTalk" "ledger" "LClockForTalk$Ledger;") ∈ li_ws := li_mem 476 (by decide +kernel) (by decide +kernel)
theorem w_477 : (Jvm.Cond.fieldLink "ClockForTalk" (40 : Nat) "ClockForTalk" "past" "LClockForTalk$History;") ∈ li_ws := li_mem 477 (by decide +kernel) (by decide +kernel)
theorem w_479 : (Jvm.Cond.fieldLink "ClockForTalk" (51 : Nat) "ClockForTalk" "otherLaw" "LClockForTalk$Rule;") ∈ li_ws := li_mem 479 (by decide +kernel) (by decide +kernel)
theorem w_480 : (Jvm.Cond.fieldLink "ClockForTalk" (70 : Nat) "ClockForTalk" "costs" "LClockForTalk$Costs;") ∈ li_ws := li_mem 480 (by decide +kernel) (by decide +kernel)
theorem w_483 : (Jvm.Cond.fieldLink "ClockForTalk" (57 : Nat) "ClockForTalk" "wordings" "LClockForTalk$Wordings;") ∈ li_ws := li_mem 483 (by decide +kernel) (by decide +kernel)
theorem w_485 : (Jvm.Cond.fieldLink "ClockForTalk" (61 : Nat) "ClockForTalk" "acts" "[I") ∈ li_ws := li_mem 485 (by decide +kernel) (by decide +kernel)
theorem w_540 : (Jvm.Cond.methodLink "ClockForTalk" (448 : Nat) ({ cls := "ClockForTalk$Rule", name := "readAll", desc := "(LClockForTalk$Text;)Z" } : Jvm.MethodName)) ∈ li_ws := li_mem 540 (by decide +kernel) (by decide +kernel)
theorem w_541 : (Jvm.Cond.instanceMethod ({ cls := "ClockForTalk$Rule", name := "readAll", desc := "(LClockForTalk$Text;)Z" } : Jvm.MethodName)) ∈ li_ws := li_mem 541 (by decide +kernel) (by decide +kernel)
theorem w_542 : (Jvm.Cond.selects "ClockForTalk$Rule" ({ cls := "ClockForTalk$Rule", name := "readAll", desc := "(LClockForTalk$Text;)Z" } : Jvm.MethodName) ({ cls := "ClockForTalk$Rule", name := "readAll", desc := "(LClockForTalk$Text;)Z" } : Jvm.MethodName)) ∈ li_ws := li_mem 542 (by decide +kernel) (by decide +kernel)
theorem w_543 : (Jvm.Cond.code ({ cls := "ClockForTalk$Rule", name := "readAll", desc := "(LClockForTalk$Text;)Z" } : Jvm.MethodName) prog_7_method_3_code (2 : Nat) (Option.some Jvm.ClassFile.FieldType.boolean)) ∈ li_ws := li_mem 543 (by decide +kernel) (by decide +kernel)
theorem w_653 : (Jvm.Cond.methodLink "ClockForTalk" (452 : Nat) ({ cls := "ClockForTalk$Wordings", name := "readWording", desc := "(LClockForTalk$Text;)I" } : Jvm.MethodName)) ∈ li_ws := li_mem 653 (by decide +kernel) (by decide +kernel)
theorem w_654 : (Jvm.Cond.instanceMethod ({ cls := "ClockForTalk$Wordings", name := "readWording", desc := "(LClockForTalk$Text;)I" } : Jvm.MethodName)) ∈ li_ws := li_mem 654 (by decide +kernel) (by decide +kernel)
theorem w_655 : (Jvm.Cond.selects "ClockForTalk$Wordings" ({ cls := "ClockForTalk$Wordings", name := "readWording", desc := "(LClockForTalk$Text;)I" } : Jvm.MethodName) ({ cls := "ClockForTalk$Wordings", name := "readWording", desc := "(LClockForTalk$Text;)I" } : Jvm.MethodName)) ∈ li_ws := li_mem 655 (by decide +kernel) (by decide +kernel)
theorem w_656 : (Jvm.Cond.code ({ cls := "ClockForTalk$Wordings", name := "readWording", desc := "(LClockForTalk$Text;)I" } : Jvm.MethodName) prog_11_method_4_code (5 : Nat) (Option.some Jvm.ClassFile.FieldType.int)) ∈ li_ws := li_mem 656 (by decide +kernel) (by decide +kernel)
theorem w_663 : (Jvm.Cond.methodLink "ClockForTalk" (456 : Nat) ({ cls := "ClockForTalk$Text", name := "atEnd", desc := "()Z" } : Jvm.MethodName)) ∈ li_ws := li_mem 663 (by decide +kernel) (by decide +kernel)
theorem w_664 : (Jvm.Cond.methodLink "ClockForTalk" (460 : Nat) ({ cls := "ClockForTalk", name := "readLines", desc := "(II)I" } : Jvm.MethodName)) ∈ li_ws := li_mem 664 (by decide +kernel) (by decide +kernel)
theorem w_666 : (Jvm.Cond.instanceMethod ({ cls := "ClockForTalk", name := "readLines", desc := "(II)I" } : Jvm.MethodName)) ∈ li_ws := li_mem 666 (by decide +kernel) (by decide +kernel)
theorem w_667 : (Jvm.Cond.code ({ cls := "ClockForTalk", name := "readLines", desc := "(II)I" } : Jvm.MethodName) prog_1_method_50_code (4 : Nat) (Option.some Jvm.ClassFile.FieldType.int)) ∈ li_ws := li_mem 667 (by decide +kernel) (by decide +kernel)
theorem w_668 : (Jvm.Cond.methodLink "ClockForTalk" (466 : Nat) ({ cls := "ClockForTalk", name := "readLine", desc := "(II)Z" } : Jvm.MethodName)) ∈ li_ws := li_mem 668 (by decide +kernel) (by decide +kernel)
theorem w_670 : (Jvm.Cond.instanceMethod ({ cls := "ClockForTalk", name := "readLine", desc := "(II)Z" } : Jvm.MethodName)) ∈ li_ws := li_mem 670 (by decide +kernel) (by decide +kernel)
theorem w_671 : (Jvm.Cond.code ({ cls := "ClockForTalk", name := "readLine", desc := "(II)Z" } : Jvm.MethodName) prog_1_method_51_code (3 : Nat) (Option.some Jvm.ClassFile.FieldType.boolean)) ∈ li_ws := li_mem 671 (by decide +kernel) (by decide +kernel)
theorem w_672 : (Jvm.Cond.methodLink "ClockForTalk" (472 : Nat) ({ cls := "ClockForTalk$Town", name := "readPerson", desc := "(LClockForTalk$Text;I)Z" } : Jvm.MethodName)) ∈ li_ws := li_mem 672 (by decide +kernel) (by decide +kernel)
theorem w_673 : (Jvm.Cond.instanceMethod ({ cls := "ClockForTalk$Town", name := "readPerson", desc := "(LClockForTalk$Text;I)Z" } : Jvm.MethodName)) ∈ li_ws := li_mem 673 (by decide +kernel) (by decide +kernel)
theorem w_674 : (Jvm.Cond.selects "ClockForTalk$Town" ({ cls := "ClockForTalk$Town", name := "readPerson", desc := "(LClockForTalk$Text;I)Z" } : Jvm.MethodName) ({ cls := "ClockForTalk$Town", name := "readPerson", desc := "(LClockForTalk$Text;I)Z" } : Jvm.MethodName)) ∈ li_ws := li_mem 674 (by decide +kernel) (by decide +kernel)
theorem w_675 : (Jvm.Cond.code ({ cls := "ClockForTalk$Town", name := "readPerson", desc := "(LClockForTalk$Text;I)Z" } : Jvm.MethodName) prog_9_method_8_code (5 : Nat) (Option.some Jvm.ClassFile.FieldType.boolean)) ∈ li_ws := li_mem 675 (by decide +kernel) (by decide +kernel)
theorem w_679 : (Jvm.Cond.methodLink "ClockForTalk" (476 : Nat) ({ cls := "ClockForTalk", name := "readWish", desc := "(I)Z" } : Jvm.MethodName)) ∈ li_ws := li_mem 679 (by decide +kernel) (by decide +kernel)
theorem w_681 : (Jvm.Cond.instanceMethod ({ cls := "ClockForTalk", name := "readWish", desc := "(I)Z" } : Jvm.MethodName)) ∈ li_ws := li_mem 681 (by decide +kernel) (by decide +kernel)
theorem w_682 : (Jvm.Cond.code ({ cls := "ClockForTalk", name := "readWish", desc := "(I)Z" } : Jvm.MethodName) prog_1_method_52_code (2 : Nat) (Option.some Jvm.ClassFile.FieldType.boolean)) ∈ li_ws := li_mem 682 (by decide +kernel) (by decide +kernel)
theorem w_683 : (Jvm.Cond.methodLink "ClockForTalk" (484 : Nat) ({ cls := "ClockForTalk$Town", name := "readTwo", desc := "(LClockForTalk$Text;I)Z" } : Jvm.MethodName)) ∈ li_ws := li_mem 683 (by decide +kernel) (by decide +kernel)
theorem w_684 : (Jvm.Cond.instanceMethod ({ cls := "ClockForTalk$Town", name := "readTwo", desc := "(LClockForTalk$Text;I)Z" } : Jvm.MethodName)) ∈ li_ws := li_mem 684 (by decide +kernel) (by decide +kernel)
theorem w_685 : (Jvm.Cond.selects "ClockForTalk$Town" ({ cls := "ClockForTalk$Town", name := "readTwo", desc := "(LClockForTalk$Text;I)Z" } : Jvm.MethodName) ({ cls := "ClockForTalk$Town", name := "readTwo", desc := "(LClockForTalk$Text;I)Z" } : Jvm.MethodName)) ∈ li_ws := li_mem 685 (by decide +kernel) (by decide +kernel)
theorem w_686 : (Jvm.Cond.code ({ cls := "ClockForTalk$Town", name := "readTwo", desc := "(LClockForTalk$Text;I)Z" } : Jvm.MethodName) prog_9_method_9_code (5 : Nat) (Option.some Jvm.ClassFile.FieldType.boolean)) ∈ li_ws := li_mem 686 (by decide +kernel) (by decide +kernel)
theorem w_688 : (Jvm.Cond.methodLink "ClockForTalk" (487 : Nat) ({ cls := "ClockForTalk$Town", name := "readSeconds", desc := "(LClockForTalk$Text;I)Z" } : Jvm.MethodName)) ∈ li_ws := li_mem 688 (by decide +kernel) (by decide +kernel)
theorem w_689 : (Jvm.Cond.instanceMethod ({ cls := "ClockForTalk$Town", name := "readSeconds", desc := "(LClockForTalk$Text;I)Z" } : Jvm.MethodName)) ∈ li_ws := li_mem 689 (by decide +kernel) (by decide +kernel)
theorem w_690 : (Jvm.Cond.selects "ClockForTalk$Town" ({ cls := "ClockForTalk$Town", name := "readSeconds", desc := "(LClockForTalk$Text;I)Z" } : Jvm.MethodName) ({ cls := "ClockForTalk$Town", name := "readSeconds", desc := "(LClockForTalk$Text;I)Z" } : Jvm.MethodName)) ∈ li_ws := li_mem 690 (by decide +kernel) (by decide +kernel)
theorem w_691 : (Jvm.Cond.code ({ cls := "ClockForTalk$Town", name := "readSeconds", desc := "(LClockForTalk$Text;I)Z" } : Jvm.MethodName) prog_9_method_10_code (5 : Nat) (Option.some Jvm.ClassFile.FieldType.boolean)) ∈ li_ws := li_mem 691 (by decide +kernel) (by decide +kernel)
theorem w_692 : (Jvm.Cond.methodLink "ClockForTalk" (490 : Nat) ({ cls := "ClockForTalk$Town", name := "readDayAndWorth", desc := "(LClockForTalk$Text;I)Z" } : Jvm.MethodName)) ∈ li_ws := li_mem 692 (by decide +kernel) (by decide +kernel)
theorem w_693 : (Jvm.Cond.instanceMethod ({ cls := "ClockForTalk$Town", name := "readDayAndWorth", desc := "(LClockForTalk$Text;I)Z" } : Jvm.MethodName)) ∈ li_ws := li_mem 693 (by decide +kernel) (by decide +kernel)
theorem w_694 : (Jvm.Cond.selects "ClockForTalk$Town" ({ cls := "ClockForTalk$Town", name := "readDayAndWorth", desc := "(LClockForTalk$Text;I)Z" } : Jvm.MethodName) ({ cls := "ClockForTalk$Town", name := "readDayAndWorth", desc := "(LClockForTalk$Text;I)Z" } : Jvm.MethodName)) ∈ li_ws := li_mem 694 (by decide +kernel) (by decide +kernel)
theorem w_695 : (Jvm.Cond.code ({ cls := "ClockForTalk$Town", name := "readDayAndWorth", desc := "(LClockForTalk$Text;I)Z" } : Jvm.MethodName) prog_9_method_11_code (5 : Nat) (Option.some Jvm.ClassFile.FieldType.boolean)) ∈ li_ws := li_mem 695 (by decide +kernel) (by decide +kernel)
theorem w_696 : (Jvm.Cond.methodLink "ClockForTalk" (479 : Nat) ({ cls := "ClockForTalk", name := "readAct", desc := "(I)Z" } : Jvm.MethodName)) ∈ li_ws := li_mem 696 (by decide +kernel) (by decide +kernel)
theorem w_698 : (Jvm.Cond.instanceMethod ({ cls := "ClockForTalk", name := "readAct", desc := "(I)Z" } : Jvm.MethodName)) ∈ li_ws := li_mem 698 (by decide +kernel) (by decide +kernel)
theorem w_699 : (Jvm.Cond.code ({ cls := "ClockForTalk", name := "readAct", desc := "(I)Z" } : Jvm.MethodName) prog_1_method_53_code (3 : Nat) (Option.some Jvm.ClassFile.FieldType.boolean)) ∈ li_ws := li_mem 699 (by decide +kernel) (by decide +kernel)
theorem w_700 : (Jvm.Cond.methodLink "ClockForTalk" (469 : Nat) ({ cls := "ClockForTalk$Text", name := "skip", desc := "(I)Z" } : Jvm.MethodName)) ∈ li_ws := li_mem 700 (by decide +kernel) (by decide +kernel)
theorem w_701 : (Jvm.Cond.methodLink "ClockForTalk" (493 : Nat) ({ cls := "ClockForTalk", name := "readSaying", desc := "(I)Z" } : Jvm.MethodName)) ∈ li_ws := li_mem 701 (by decide +kernel) (by decide +kernel)
theorem w_703 : (Jvm.Cond.instanceMethod ({ cls := "ClockForTalk", name := "readSaying", desc := "(I)Z" } : Jvm.MethodName)) ∈ li_ws := li_mem 703 (by decide +kernel) (by decide +kernel)
theorem w_704 : (Jvm.Cond.code ({ cls := "ClockForTalk", name := "readSaying", desc := "(I)Z" } : Jvm.MethodName) prog_1_method_54_code (4 : Nat) (Option.some Jvm.ClassFile.FieldType.boolean)) ∈ li_ws := li_mem 704 (by decide +kernel) (by decide +kernel)
theorem w_705 : (Jvm.Cond.methodLink "ClockForTalk" (496 : Nat) ({ cls := "ClockForTalk$Text", name := "takeOneOf", desc := "(II)I" } : Jvm.MethodName)) ∈ li_ws := li_mem 705 (by decide +kernel) (by decide +kernel)
theorem w_706 : (Jvm.Cond.methodLink "ClockForTalk" (499 : Nat) ({ cls := "ClockForTalk", name := "writeAct", desc := "(IIIII)V" } : Jvm.MethodName)) ∈ li_ws := li_mem 706 (by decide +kernel) (by decide +kernel)
theorem w_708 : (Jvm.Cond.instanceMethod ({ cls := "ClockForTalk", name := "writeAct", desc := "(IIIII)V" } : Jvm.MethodName)) ∈ li_ws := li_mem 708 (by decide +kernel) (by decide +kernel)
theorem w_709 : (Jvm.Cond.code ({ cls := "ClockForTalk", name := "writeAct", desc := "(IIIII)V" } : Jvm.MethodName) prog_1_method_56_code (7 : Nat) (Option.none : Option Jvm.ClassFile.FieldType)) ∈ li_ws := li_mem 709 (by decide +kernel) (by decide +kernel)
theorem w_710 : (Jvm.Cond.methodLink "ClockForTalk" (224 : Nat) ({ cls := "ClockForTalk", name := "put", desc := "([III)V" } : Jvm.MethodName)) ∈ li_ws := li_mem 710 (by decide +kernel) (by decide +kernel)
theorem w_711 : (Jvm.Cond.methodLink "ClockForTalk" (503 : Nat) ({ cls := "ClockForTalk", name := "readGift", desc := "(I)Z" } : Jvm.MethodName)) ∈ li_ws := li_mem 711 (by decide +kernel) (by decide +kernel)
theorem w_713 : (Jvm.Cond.instanceMethod ({ cls := "ClockForTalk", name := "readGift", desc := "(I)Z" } : Jvm.MethodName)) ∈ li_ws := li_mem 713 (by decide +kernel) (by decide +kernel)
theorem w_714 : (Jvm.Cond.code ({ cls := "ClockForTalk", name := "readGift", desc := "(I)Z" } : Jvm.MethodName) prog_1_method_55_code (5 : Nat) (Option.some Jvm.ClassFile.FieldType.boolean)) ∈ li_ws := li_mem 714 (by decide +kernel) (by decide +kernel)
theorem w_715 : (Jvm.Cond.methodLink "ClockForTalk" (506 : Nat) ({ cls := "ClockForTalk$Text", name := "takeNumber", desc := "(I)I" } : Jvm.MethodName)) ∈ li_ws := li_mem 715 (by decide +kernel) (by decide +kernel)
theorem w_716 : (Jvm.Cond.methodLink "ClockForTalk" (482 : Nat) ({ cls := "ClockForTalk$Wordings", name := "readLine", desc := "(LClockForTalk$Text;I)Z" } : Jvm.MethodName)) ∈ li_ws := li_mem 716 (by decide +kernel) (by decide +kernel)
theorem w_717 : (Jvm.Cond.instanceMethod ({ cls := "ClockForTalk$Wordings", name := "readLine", desc := "(LClockForTalk$Text;I)Z" } : Jvm.MethodName)) ∈ li_ws := li_mem 717 (by decide +kernel) (by decide +kernel)
theorem w_718 : (Jvm.Cond.selects "ClockForTalk$Wordings" ({ cls := "ClockForTalk$Wordings", name := "readLine", desc := "(LClockForTalk$Text;I)Z" } : Jvm.MethodName) ({ cls := "ClockForTalk$Wordings", name := "readLine", desc := "(LClockForTalk$Text;I)Z" } : Jvm.MethodName)) ∈ li_ws := li_mem 718 (by decide +kernel) (by decide +kernel)
theorem w_719 : (Jvm.Cond.code ({ cls := "ClockForTalk$Wordings", name := "readLine", desc := "(LClockForTalk$Text;I)Z" } : Jvm.MethodName) prog_11_method_2_code (6 : Nat) (Option.some Jvm.ClassFile.FieldType.boolean)) ∈ li_ws := li_mem 719 (by decide +kernel) (by decide +kernel)
theorem w_721 : (Jvm.Cond.methodLink "ClockForTalk" (463 : Nat) ({ cls := "ClockForTalk$Text", name := "verdict", desc := "(II)I" } : Jvm.MethodName)) ∈ li_ws := li_mem 721 (by decide +kernel) (by decide +kernel)
theorem w_722 : (Jvm.Cond.instanceMethod ({ cls := "ClockForTalk$Text", name := "verdict", desc := "(II)I" } : Jvm.MethodName)) ∈ li_ws := li_mem 722 (by decide +kernel) (by decide +kernel)
theorem w_723 : (Jvm.Cond.selects "ClockForTalk$Text" ({ cls := "ClockForTalk$Text", name := "verdict", desc := "(II)I" } : Jvm.MethodName) ({ cls := "ClockForTalk$Text", name := "verdict", desc := "(II)I" } : Jvm.MethodName)) ∈ li_ws := li_mem 723 (by decide +kernel) (by decide +kernel)
theorem w_724 : (Jvm.Cond.code ({ cls := "ClockForTalk$Text", name := "verdict", desc := "(II)I" } : Jvm.MethodName) prog_8_method_9_code (3 : Nat) (Option.some Jvm.ClassFile.FieldType.int)) ∈ li_ws := li_mem 724 (by decide +kernel) (by decide +kernel)
theorem w_762 : (Jvm.Cond.methodLink "ClockForTalk" (128 : Nat) ({ cls := "ClockForTalk", name := "within", desc := "(III)Z" } : Jvm.MethodName)) ∈ li_ws := li_mem 762 (by decide +kernel) (by decide +kernel)
theorem w_763 : (Jvm.Cond.methodLink "ClockForTalk" (142 : Nat) ({ cls := "ClockForTalk", name := "at", desc := "([II)I" } : Jvm.MethodName)) ∈ li_ws := li_mem 763 (by decide +kernel) (by decide +kernel)
theorem w_784 : (Jvm.Cond.methodLink "ClockForTalk" (170 : Nat) ({ cls := "ClockForTalk$Town", name := "hasThing", desc := "(I)Z" } : Jvm.MethodName)) ∈ li_ws := li_mem 784 (by decide +kernel) (by decide +kernel)
theorem w_785 : (Jvm.Cond.instanceMethod ({ cls := "ClockForTalk$Town", name := "hasThing", desc := "(I)Z" } : Jvm.MethodName)) ∈ li_ws := li_mem 785 (by decide +kernel) (by decide +kernel)
theorem w_786 : (Jvm.Cond.selects "ClockForTalk$Town" ({ cls := "ClockForTalk$Town", name := "hasThing", desc := "(I)Z" } : Jvm.MethodName) ({ cls := "ClockForTalk$Town", name := "hasThing", desc := "(I)Z" } : Jvm.MethodName)) ∈ li_ws := li_mem 786 (by decide +kernel) (by decide +kernel)
theorem w_787 : (Jvm.Cond.code ({ cls := "ClockForTalk$Town", name := "hasThing", desc := "(I)Z" } : Jvm.MethodName) prog_9_method_3_code (2 : Nat) (Option.some Jvm.ClassFile.FieldType.boolean)) ∈ li_ws := li_mem 787 (by decide +kernel) (by decide +kernel)
theorem w_788 : (Jvm.Cond.methodLink "ClockForTalk" (235 : Nat) ({ cls := "ClockForTalk$Costs", name := "isHeard", desc := "(II)Z" } : Jvm.MethodName)) ∈ li_ws := li_mem 788 (by decide +kernel) (by decide +kernel)
theorem w_807 : (Jvm.Cond.methodLink "ClockForTalk" (238 : Nat) ({ cls := "ClockForTalk$Costs", name := "ofThing", desc := "(II)I" } : Jvm.MethodName)) ∈ li_ws := li_mem 807 (by decide +kernel) (by decide +kernel)
theorem w_852 : (Jvm.Cond.methodLink "ClockForTalk" (245 : Nat) ({ cls := "ClockForTalk", name := "utter", desc := "(II)I" } : Jvm.MethodName)) ∈ li_ws := li_mem 852 (by decide +kernel) (by decide +kernel)
theorem w_854 : (Jvm.Cond.instanceMethod ({ cls := "ClockForTalk", name := "utter", desc := "(II)I" } : Jvm.MethodName)) ∈ li_ws := li_mem 854 (by decide +kernel) (by decide +kernel)
theorem w_855 : (Jvm.Cond.code ({ cls := "ClockForTalk", name := "utter", desc := "(II)I" } : Jvm.MethodName) prog_1_method_43_code (5 : Nat) (Option.some Jvm.ClassFile.FieldType.int)) ∈ li_ws := li_mem 855 (by decide +kernel) (by decide +kernel)
theorem w_856 : (Jvm.Cond.methodLink "ClockForTalk" (193 : Nat) ({ cls := "ClockForTalk", name := "holds", desc := "(II)Z" } : Jvm.MethodName)) ∈ li_ws := li_mem 856 (by decide +kernel) (by decide +kernel)
theorem w_859 : (Jvm.Cond.methodLink "ClockForTalk" (438 : Nat) ({ cls := "ClockForTalk$Ledger", name := "isLate", desc := "(LClockForTalk$Town;I)Z" } : Jvm.MethodName)) ∈ li_ws := li_mem 859 (by decide +kernel) (by decide +kernel)
theorem w_863 : (Jvm.Cond.methodLink "ClockForTalk" (442 : Nat) ({ cls := "ClockForTalk$Ledger", name := "spend", desc := "(II)V" } : Jvm.MethodName)) ∈ li_ws := li_mem 863 (by decide +kernel) (by decide +kernel)
theorem w_864 : (Jvm.Cond.instanceMethod ({ cls := "ClockForTalk$Ledger", name := "spend", desc := "(II)V" } : Jvm.MethodName)) ∈ li_ws := li_mem 864 (by decide +kernel) (by decide +kernel)
theorem w_865 : (Jvm.Cond.selects "ClockForTalk$Ledger" ({ cls := "ClockForTalk$Ledger", name := "spend", desc := "(II)V" } : Jvm.MethodName) ({ cls := "ClockForTalk$Ledger", name := "spend", desc := "(II)V" } : Jvm.MethodName)) ∈ li_ws := li_mem 865 (by decide +kernel) (by decide +kernel)
theorem w_866 : (Jvm.Cond.code ({ cls := "ClockForTalk$Ledger", name := "spend", desc := "(II)V" } : Jvm.MethodName) prog_5_method_6_code (3 : Nat) (Option.none : Option Jvm.ClassFile.FieldType)) ∈ li_ws := li_mem 866 (by decide +kernel) (by decide +kernel)
theorem w_871 : (Jvm.Cond.methodLink "ClockForTalk" (284 : Nat) ({ cls := "ClockForTalk$History", name := "hold", desc := "()V" } : Jvm.MethodName)) ∈ li_ws := li_mem 871 (by decide +kernel) (by decide +kernel)
theorem w_872 : (Jvm.Cond.instanceMethod ({ cls := "ClockForTalk$History", name := "hold", desc := "()V" } : Jvm.MethodName)) ∈ li_ws := li_mem 872 (by decide +kernel) (by decide +kernel)
theorem w_873 : (Jvm.Cond.selects "ClockForTalk$History" ({ cls := "ClockForTalk$History", name := "hold", desc := "()V" } : Jvm.MethodName) ({ cls := "ClockForTalk$History", name := "hold", desc := "()V" } : Jvm.MethodName)) ∈ li_ws := li_mem 873 (by decide +kernel) (by decide +kernel)
theorem w_874 : (Jvm.Cond.code ({ cls := "ClockForTalk$History", name := "hold", desc := "()V" } : Jvm.MethodName) prog_4_method_5_code (1 : Nat) (Option.none : Option Jvm.ClassFile.FieldType)) ∈ li_ws := li_mem 874 (by decide +kernel) (by decide +kernel)
theorem w_880 : (Jvm.Cond.methodLink "ClockForTalk" (251 : Nat) ({ cls := "ClockForTalk", name := "handOver", desc := "(III)I" } : Jvm.MethodName)) ∈ li_ws := li_mem 880 (by decide +kernel) (by decide +kernel)
theorem w_882 : (Jvm.Cond.instanceMethod ({ cls := "ClockForTalk", name := "handOver", desc := "(III)I" } : Jvm.MethodName)) ∈ li_ws := li_mem 882 (by decide +kernel) (by decide +kernel)
theorem w_883 : (Jvm.Cond.code ({ cls := "ClockForTalk", name := "handOver", desc := "(III)I" } : Jvm.MethodName) prog_1_method_44_code (4 : Nat) (Option.some Jvm.ClassFile.FieldType.int)) ∈ li_ws := li_mem 883 (by decide +kernel) (by decide +kernel)
theorem w_884 : (Jvm.Cond.methodLink "ClockForTalk" (254 : Nat) ({ cls := "ClockForTalk$Town", name := "areTwo", desc := "(II)Z" } : Jvm.MethodName)) ∈ li_ws := li_mem 884 (by decide +kernel) (by decide +kernel)
theorem w_885 : (Jvm.Cond.instanceMethod ({ cls := "ClockForTalk$Town", name := "areTwo", desc := "(II)Z" } : Jvm.MethodName)) ∈ li_ws := li_mem 885 (by decide +kernel) (by decide +kernel)
theorem w_886 : (Jvm.Cond.selects "ClockForTalk$Town" ({ cls := "ClockForTalk$Town", name := "areTwo", desc := "(II)Z" } : Jvm.MethodName) ({ cls := "ClockForTalk$Town", name := "areTwo", desc := "(II)Z" } : Jvm.MethodName)) ∈ li_ws := li_mem 886 (by decide +kernel) (by decide +kernel)
theorem w_887 : (Jvm.Cond.code ({ cls := "ClockForTalk$Town", name := "areTwo", desc := "(II)Z" } : Jvm.MethodName) prog_9_method_4_code (3 : Nat) (Option.some Jvm.ClassFile.FieldType.boolean)) ∈ li_ws := li_mem 887 (by decide +kernel) (by decide +kernel)
theorem w_889 : (Jvm.Cond.methodLink "ClockForTalk" (260 : Nat) ({ cls := "ClockForTalk$Ledger", name := "carry", desc := "(III)V" } : Jvm.MethodName)) ∈ li_ws := li_mem 889 (by decide +kernel) (by decide +kernel)
theorem w_921 : (Jvm.Cond.methodLink "ClockForTalk" (276 : Nat) ({ cls := "ClockForTalk", name := "passDays", desc := "(I)V" } : Jvm.MethodName)) ∈ li_ws := li_mem 921 (by decide +kernel) (by decide +kernel)
theorem w_923 : (Jvm.Cond.instanceMethod ({ cls := "ClockForTalk", name := "passDays", desc := "(I)V" } : Jvm.MethodName)) ∈ li_ws := li_mem 923 (by decide +kernel) (by decide +kernel)
theorem w_924 : (Jvm.Cond.code ({ cls := "ClockForTalk", name := "passDays", desc := "(I)V" } : Jvm.MethodName) prog_1_method_45_code (3 : Nat) (Option.none : Option Jvm.ClassFile.FieldType)) ∈ li_ws := li_mem 924 (by decide +kernel) (by decide +kernel)
theorem w_925 : (Jvm.Cond.methodLink "ClockForTalk" (415 : Nat) ({ cls := "ClockForTalk$Ledger", name := "passDay", desc := "(LClockForTalk$Town;)V" } : Jvm.MethodName)) ∈ li_ws := li_mem 925 (by decide +kernel) (by decide +kernel)
theorem w_926 : (Jvm.Cond.instanceMethod ({ cls := "ClockForTalk$Ledger", name := "passDay", desc := "(LClockForTalk$Town;)V" } : Jvm.MethodName)) ∈ li_ws := li_mem 926 (by decide +kernel) (by decide +kernel)
theorem w_927 : (Jvm.Cond.selects "ClockForTalk$Ledger" ({ cls := "ClockForTalk$Ledger", name := "passDay", desc := "(LClockForTalk$Town;)V" } : Jvm.MethodName) ({ cls := "ClockForTalk$Ledger", name := "passDay", desc := "(LClockForTalk$Town;)V" } : Jvm.MethodName)) ∈ li_ws := li_mem 927 (by decide +kernel) (by decide +kernel)
theorem w_928 : (Jvm.Cond.code ({ cls := "ClockForTalk$Ledger", name := "passDay", desc := "(LClockForTalk$Town;)V" } : Jvm.MethodName) prog_5_method_16_code (3 : Nat) (Option.none : Option Jvm.ClassFile.FieldType)) ∈ li_ws := li_mem 928 (by decide +kernel) (by decide +kernel)
theorem w_964 : (Jvm.Cond.methodLink "ClockForTalk" (201 : Nat) ({ cls := "ClockForTalk$Costs", name := "leastWay", desc := "(I)I" } : Jvm.MethodName)) ∈ li_ws := li_mem 964 (by decide +kernel) (by decide +kernel)
theorem w_965 : (Jvm.Cond.instanceMethod ({ cls := "ClockForTalk$Costs", name := "leastWay", desc := "(I)I" } : Jvm.MethodName)) ∈ li_ws := li_mem 965 (by decide +kernel) (by decide +kernel)
theorem w_966 : (Jvm.Cond.selects "ClockForTalk$Costs" ({ cls := "ClockForTalk$Costs", name := "leastWay", desc := "(I)I" } : Jvm.MethodName) ({ cls := "ClockForTalk$Costs", name := "leastWay", desc := "(I)I" } : Jvm.MethodName)) ∈ li_ws := li_mem 966 (by decide +kernel) (by decide +kernel)
theorem w_967 : (Jvm.Cond.code ({ cls := "ClockForTalk$Costs", name := "leastWay", desc := "(I)I" } : Jvm.MethodName) prog_2_method_6_code (2 : Nat) (Option.some Jvm.ClassFile.FieldType.int)) ∈ li_ws := li_mem 967 (by decide +kernel) (by decide +kernel)
theorem w_988 : (Jvm.Cond.methodLink "ClockForTalk" (299 : Nat) ({ cls := "ClockForTalk$Costs", name := "fill", desc := "()V" } : Jvm.MethodName)) ∈ li_ws := li_mem 988 (by decide +kernel) (by decide +kernel)
theorem w_989 : (Jvm.Cond.instanceMethod ({ cls := "ClockForTalk$Costs", name := "fill", desc := "()V" } : Jvm.MethodName)) ∈ li_ws := li_mem 989 (by decide +kernel) (by decide +kernel)
theorem w_990 : (Jvm.Cond.selects "ClockForTalk$Costs" ({ cls := "ClockForTalk$Costs", name := "fill", desc := "()V" } : Jvm.MethodName) ({ cls := "ClockForTalk$Costs", name := "fill", desc := "()V" } : Jvm.MethodName)) ∈ li_ws := li_mem 990 (by decide +kernel) (by decide +kernel)
theorem w_991 : (Jvm.Cond.code ({ cls := "ClockForTalk$Costs", name := "fill", desc := "()V" } : Jvm.MethodName) prog_2_method_8_code (5 : Nat) (Option.none : Option Jvm.ClassFile.FieldType)) ∈ li_ws := li_mem 991 (by decide +kernel) (by decide +kernel)
theorem w_995 : (Jvm.Cond.methodLink "ClockForTalk" (302 : Nat) ({ cls := "ClockForTalk$Costs", name := "chooseFor", desc := "(I)V" } : Jvm.MethodName)) ∈ li_ws := li_mem 995 (by decide +kernel) (by decide +kernel)
theorem w_996 : (Jvm.Cond.instanceMethod ({ cls := "ClockForTalk$Costs", name := "chooseFor", desc := "(I)V" } : Jvm.MethodName)) ∈ li_ws := li_mem 996 (by decide +kernel) (by decide +kernel)
theorem w_997 : (Jvm.Cond.selects "ClockForTalk$Costs" ({ cls := "ClockForTalk$Costs", name := "chooseFor", desc := "(I)V" } : Jvm.MethodName) ({ cls := "ClockForTalk$Costs", name := "chooseFor", desc := "(I)V" } : Jvm.MethodName)) ∈ li_ws := li_mem 997 (by decide +kernel) (by decide +kernel)
theorem w_998 : (Jvm.Cond.code ({ cls := "ClockForTalk$Costs", name := "chooseFor", desc := "(I)V" } : Jvm.MethodName) prog_2_method_12_code (2 : Nat) (Option.none : Option Jvm.ClassFile.FieldType)) ∈ li_ws := li_mem 998 (by decide +kernel) (by decide +kernel)
theorem dX11_held_0 : decode cX11_held 0 = .ok (.iload_n 1, 1) := by decide +kernel
theorem dX11_held_1 : decode cX11_held 1 = .ok (.ifCond .lt 10, 3) := by decide +kernel
theorem dX11_held_4 : decode cX11_held 4 = .ok (.aload_n 0, 1) := by decide +kernel
theorem dX11_held_5 : decode cX11_held 5 = .ok (.getfield 40, 3) := by decide +kernel
theorem dX11_held_8 : decode cX11_held 8 = .ok (.invokevirtual 284, 3) := by decide +kernel
theorem dX11_held_11 : decode cX11_held 11 = .ok (.iload_n 1, 1) := by decide +kernel
theorem dX11_held_12 : decode cX11_held 12 = .ok (.ireturn, 1) := by decide +kernel
abbrev YX11_held : li_Y := (yX11_held, cX11_held, 2, (some .int))
theorem dX11_utter_0 : decode cX11_utter 0 = .ok (.aload_n 0, 1) := by decide +kernel
theorem dX11_utter_1 : decode cX11_utter 1 = .ok (.getfield 26, 3) := by decide +kernel
theorem dX11_utter_4 : decode cX11_utter 4 = .ok (.iload_n 1, 1) := by decide +kernel
theorem dX11_utter_5 : decode cX11_utter 5 = .ok (.invokevirtual 170, 3) := by decide +kernel
theorem dX11_utter_8 : decode cX11_utter 8 = .ok (.ifCond .eq 12, 3) := by decide +kernel
theorem dX11_utter_11 : decode cX11_utter 11 = .ok (.iload_n 2, 1) := by decide +kernel
theorem dX11_utter_12 : decode cX11_utter 12 = .ok (.iconst 0, 1) := by decide +kernel
theorem dX11_utter_13 : decode cX11_utter 13 = .ok (.iconst 3, 1) := by decide +kernel
theorem dX11_utter_14 : decode cX11_utter 14 = .ok (.invokestatic 128, 3) := by decide +kernel
theorem dX11_utter_17 : decode cX11_utter 17 = .ok (.ifCond .ne 5, 3) := by decide +kernel
theorem dX11_utter_20 : decode cX11_utter 20 = .ok (.iconst (-1), 1) := by decide +kernel
theorem dX11_utter_21 : decode cX11_utter 21 = .ok (.ireturn, 1) := by decide +kernel
theorem dX11_utter_22 : decode cX11_utter 22 = .ok (.aload_n 0, 1) := by decide +kernel
theorem dX11_utter_23 : decode cX11_utter 23 = .ok (.getfield 33, 3) := by decide +kernel
theorem dX11_utter_26 : decode cX11_utter 26 = .ok (.getfield 190, 3) := by decide +kernel
theorem dX11_utter_29 : decode cX11_utter 29 = .ok (.iload_n 1, 1) := by decide +kernel
theorem dX11_utter_30 : decode cX11_utter 30 = .ok (.invokestatic 193, 3) := by decide +kernel
theorem dX11_utter_33 : decode cX11_utter 33 = .ok (.ifCond .eq 6, 3) := by decide +kernel
theorem dX11_utter_36 : decode cX11_utter 36 = .ok (.bipush (-2), 2) := by decide +kernel
theorem dX11_utter_38 : decode cX11_utter 38 = .ok (.ireturn, 1) := by decide +kernel
theorem dX11_utter_39 : decode cX11_utter 39 = .ok (.aload_n 0, 1) := by decide +kernel
theorem dX11_utter_40 : decode cX11_utter 40 = .ok (.getfield 33, 3) := by decide +kernel
theorem dX11_utter_43 : decode cX11_utter 43 = .ok (.aload_n 0, 1) := by decide +kernel
theorem dX11_utter_44 : decode cX11_utter 44 = .ok (.getfield 26, 3) := by decide +kernel
theorem dX11_utter_47 : decode cX11_utter 47 = .ok (.iload_n 1, 1) := by decide +kernel
theorem dX11_utter_48 : decode cX11_utter 48 = .ok (.invokevirtual 438, 3) := by decide +kernel
theorem dX11_utter_51 : decode cX11_utter 51 = .ok (.ifCond .eq 6, 3) := by decide +kernel
theorem dX11_utter_54 : decode cX11_utter 54 = .ok (.bipush (-3), 2) := by decide +kernel
theorem dX11_utter_56 : decode cX11_utter 56 = .ok (.ireturn, 1) := by decide +kernel
theorem dX11_utter_57 : decode cX11_utter 57 = .ok (.aload_n 0, 1) := by decide +kernel
theorem dX11_utter_58 : decode cX11_utter 58 = .ok (.getfield 70, 3) := by decide +kernel
theorem dX11_utter_61 : decode cX11_utter 61 = .ok (.iload_n 1, 1) := by decide +kernel
theorem dX11_utter_62 : decode cX11_utter 62 = .ok (.iload_n 2, 1) := by decide +kernel
theorem dX11_utter_63 : decode cX11_utter 63 = .ok (.invokevirtual 235, 3) := by decide +kernel
theorem dX11_utter_66 : decode cX11_utter 66 = .ok (.ifCond .ne 6, 3) := by decide +kernel
theorem dX11_utter_69 : decode cX11_utter 69 = .ok (.bipush (-4), 2) := by decide +kernel
theorem dX11_utter_71 : decode cX11_utter 71 = .ok (.ireturn, 1) := by decide +kernel
theorem dX11_utter_72 : decode cX11_utter 72 = .ok (.aload_n 0, 1) := by decide +kernel
theorem dX11_utter_73 : decode cX11_utter 73 = .ok (.getfield 70, 3) := by decide +kernel
theorem dX11_utter_76 : decode cX11_utter 76 = .ok (.iload_n 1, 1) := by decide +kernel
theorem dX11_utter_77 : decode cX11_utter 77 = .ok (.iload_n 2, 1) := by decide +kernel
theorem dX11_utter_78 : decode cX11_utter 78 = .ok (.invokevirtual 238, 3) := by decide +kernel
theorem dX11_utter_81 : decode cX11_utter 81 = .ok (.istore_n 3, 1) := by decide +kernel
theorem dX11_utter_82 : decode cX11_utter 82 = .ok (.aload_n 0, 1) := by decide +kernel
theorem dX11_utter_83 : decode cX11_utter 83 = .ok (.getfield 26, 3) := by decide +kernel
theorem dX11_utter_86 : decode cX11_utter 86 = .ok (.getfield 175, 3) := by decide +kernel
theorem dX11_utter_89 : decode cX11_utter 89 = .ok (.iload_n 1, 1) := by decide +kernel
theorem dX11_utter_90 : decode cX11_utter 90 = .ok (.invokestatic 142, 3) := by decide +kernel
theorem dX11_utter_93 : decode cX11_utter 93 = .ok (.istore 4, 2) := by decide +kernel
theorem dX11_utter_95 : decode cX11_utter 95 = .ok (.aload_n 0, 1) := by decide +kernel
theorem dX11_utter_96 : decode cX11_utter 96 = .ok (.getfield 33, 3) := by decide +kernel
theorem dX11_utter_99 : decode cX11_utter 99 = .ok (.getfield 146, 3) := by decide +kernel
theorem dX11_utter_102 : decode cX11_utter 102 = .ok (.iload 4, 2) := by decide +kernel
theorem dX11_utter_104 : decode cX11_utter 104 = .ok (.invokestatic 142, 3) := by decide +kernel
theorem dX11_utter_107 : decode cX11_utter 107 = .ok (.iload_n 3, 1) := by decide +kernel
theorem dX11_utter_108 : decode cX11_utter 108 = .ok (.if_icmp .ge 6, 3) := by decide +kernel
theorem dX11_utter_111 : decode cX11_utter 111 = .ok (.bipush (-5), 2) := by decide +kernel
theorem dX11_utter_113 : decode cX11_utter 113 = .ok (.ireturn, 1) := by decide +kernel
theorem dX11_utter_114 : decode cX11_utter 114 = .ok (.aload_n 0, 1) := by decide +kernel
theorem dX11_utter_115 : decode cX11_utter 115 = .ok (.getfield 33, 3) := by decide +kernel
theorem dX11_utter_118 : decode cX11_utter 118 = .ok (.iload 4, 2) := by decide +kernel
theorem dX11_utter_120 : decode cX11_utter 120 = .ok (.iload_n 3, 1) := by decide +kernel
theorem dX11_utter_121 : decode cX11_utter 121 = .ok (.invokevirtual 442, 3) := by decide +kernel
theorem dX11_utter_124 : decode cX11_utter 124 = .ok (.aload_n 0, 1) := by decide +kernel
theorem dX11_utter_125 : decode cX11_utter 125 = .ok (.getfield 33, 3) := by decide +kernel
theorem dX11_utter_128 : decode cX11_utter 128 = .ok (.dup, 1) := by decide +kernel
theorem dX11_utter_129 : decode cX11_utter 129 = .ok (.getfield 190, 3) := by decide +kernel
theorem dX11_utter_132 : decode cX11_utter 132 = .ok (.iconst 1, 1) := by decide +kernel
theorem dX11_utter_133 : decode cX11_utter 133 = .ok (.iload_n 1, 1) := by decide +kernel
theorem dX11_utter_134 : decode cX11_utter 134 = .ok (.ishl, 1) := by decide +kernel
theorem dX11_utter_135 : decode cX11_utter 135 = .ok (.ior, 1) := by decide +kernel
theorem dX11_utter_136 : decode cX11_utter 136 = .ok (.putfield 190, 3) := by decide +kernel
theorem dX11_utter_139 : decode cX11_utter 139 = .ok (.iload_n 3, 1) := by decide +kernel
theorem dX11_utter_140 : decode cX11_utter 140 = .ok (.ireturn, 1) := by decide +kernel
abbrev YX11_utter : li_Y := (yX11_utter, cX11_utter, 5, (some .int))
theorem dX11_handOver_0 : decode cX11_handOver 0 = .ok (.aload_n 0, 1) := by decide +kernel
theorem dX11_handOver_1 : decode cX11_handOver 1 = .ok (.getfield 26, 3) := by decide +kernel
theorem dX11_handOver_4 : decode cX11_handOver 4 = .ok (.iload_n 1, 1) := by decide +kernel
theorem dX11_handOver_5 : decode cX11_handOver 5 = .ok (.iload_n 2, 1) := by decide +kernel
theorem dX11_handOver_6 : decode cX11_handOver 6 = .ok (.invokevirtual 254, 3) := by decide +kernel
theorem dX11_handOver_9 : decode cX11_handOver 9 = .ok (.ifCond .eq 14, 3) := by decide +kernel
theorem dX11_handOver_12 : decode cX11_handOver 12 = .ok (.iload_n 3, 1) := by decide +kernel
theorem dX11_handOver_13 : decode cX11_handOver 13 = .ok (.iconst 1, 1) := by decide +kernel
theorem dX11_handOver_14 : decode cX11_handOver 14 = .ok (.sipush 9999, 3) := by decide +kernel
theorem dX11_handOver_17 : decode cX11_handOver 17 = .ok (.invokestatic 128, 3) := by decide +kernel
theorem dX11_handOver_20 : decode cX11_handOver 20 = .ok (.ifCond .ne 5, 3) := by decide +kernel
theorem dX11_handOver_23 : decode cX11_handOver 23 = .ok (.iconst (-1), 1) := by decide +kernel
theorem dX11_handOver_24 : decode cX11_handOver 24 = .ok (.ireturn, 1) := by decide +kernel
theorem dX11_handOver_25 : decode cX11_handOver 25 = .ok (.aload_n 0, 1) := by decide +kernel
theorem dX11_handOver_26 : decode cX11_handOver 26 = .ok (.getfield 33, 3) := by decide +kernel
theorem dX11_handOver_29 : decode cX11_handOver 29 = .ok (.getfield 146, 3) := by decide +kernel
theorem dX11_handOver_32 : decode cX11_handOver 32 = .ok (.iload_n 1, 1) := by decide +kernel
theorem dX11_handOver_33 : decode cX11_handOver 33 = .ok (.invokestatic 142, 3) := by decide +kernel
theorem dX11_handOver_36 : decode cX11_handOver 36 = .ok (.iload_n 3, 1) := by decide +kernel
theorem dX11_handOver_37 : decode cX11_handOver 37 = .ok (.if_icmp .ge 6, 3) := by decide +kernel
theorem dX11_handOver_40 : decode cX11_handOver 40 = .ok (.bipush (-2), 2) := by decide +kernel
theorem dX11_handOver_42 : decode cX11_handOver 42 = .ok (.ireturn, 1) := by decide +kernel
theorem dX11_handOver_43 : decode cX11_handOver 43 = .ok (.aload_n 0, 1) := by decide +kernel
theorem dX11_handOver_44 : decode cX11_handOver 44 = .ok (.getfield 33, 3) := by decide +kernel
theorem dX11_handOver_47 : decode cX11_handOver 47 = .ok (.iload_n 1, 1) := by decide +kernel
theorem dX11_handOver_48 : decode cX11_handOver 48 = .ok (.iload_n 2, 1) := by decide +kernel
theorem dX11_handOver_49 : decode cX11_handOver 49 = .ok (.iload_n 3, 1) := by decide +kernel
theorem dX11_handOver_50 : decode cX11_handOver 50 = .ok (.invokevirtual 260, 3) := by decide +kernel
theorem dX11_handOver_53 : decode cX11_handOver 53 = .ok (.aload_n 0, 1) := by decide +kernel
theorem dX11_handOver_54 : decode cX11_handOver 54 = .ok (.getfield 33, 3) := by decide +kernel
theorem dX11_handOver_57 : decode cX11_handOver 57 = .ok (.getfield 146, 3) := by decide +kernel
theorem dX11_handOver_60 : decode cX11_handOver 60 = .ok (.iload_n 2, 1) := by decide +kernel
theorem dX11_handOver_61 : decode cX11_handOver 61 = .ok (.invokestatic 142, 3) := by decide +kernel
theorem dX11_handOver_64 : decode cX11_handOver 64 = .ok (.ireturn, 1) := by decide +kernel
abbrev YX11_handOver : li_Y := (yX11_handOver, cX11_handOver, 4, (some .int))
theorem dX11_passDays_0 : decode cX11_passDays 0 = .ok (.iconst 0, 1) := by decide +kernel
theorem dX11_passDays_1 : decode cX11_passDays 1 = .ok (.istore_n 2, 1) := by decide +kernel
theorem dX11_passDays_2 : decode cX11_passDays 2 = .ok (.iload_n 2, 1) := by decide +kernel
theorem dX11_passDays_3 : decode cX11_passDays 3 = .ok (.iload_n 1, 1) := by decide +kernel
theorem dX11_passDays_4 : decode cX11_passDays 4 = .ok (.if_icmp .ge 20, 3) := by decide +kernel
theorem dX11_passDays_7 : decode cX11_passDays 7 = .ok (.aload_n 0, 1) := by decide +kernel
theorem dX11_passDays_8 : decode cX11_passDays 8 = .ok (.getfield 33, 3) := by decide +kernel
theorem dX11_passDays_11 : decode cX11_passDays 11 = .ok (.aload_n 0, 1) := by decide +kernel
theorem dX11_passDays_12 : decode cX11_passDays 12 = .ok (.getfield 26, 3) := by decide +kernel
theorem dX11_passDays_15 : decode cX11_passDays 15 = .ok (.invokevirtual 415, 3) := by decide +kernel
theorem dX11_passDays_18 : decode cX11_passDays 18 = .ok (.iinc 2 1, 3) := by decide +kernel
theorem dX11_passDays_21 : decode cX11_passDays 21 = .ok (.goto (-19), 3) := by decide +kernel
theorem dX11_passDays_24 : decode cX11_passDays 24 = .ok (.return_, 1) := by decide +kernel
abbrev YX11_passDays : li_Y := (yX11_passDays, cX11_passDays, 3, none)
theorem dX11_isSpeech_0 : decode cX11_isSpeech 0 = .ok (.aload_n 0, 1) := by decide +kernel
theorem dX11_isSpeech_1 : decode cX11_isSpeech 1 = .ok (.getfield 61, 3) := by decide +kernel
theorem dX11_isSpeech_4 : decode cX11_isSpeech 4 = .ok (.iload_n 1, 1) := by decide +kernel
theorem dX11_isSpeech_5 : decode cX11_isSpeech 5 = .ok (.iconst 4, 1) := by decide +kernel
theorem dX11_isSpeech_6 : decode cX11_isSpeech 6 = .ok (.imul, 1) := by decide +kernel
theorem dX11_isSpeech_7 : decode cX11_isSpeech 7 = .ok (.invokestatic 142, 3) := by decide +kernel
theorem dX11_isSpeech_10 : decode cX11_isSpeech 10 = .ok (.istore_n 2, 1) := by decide +kernel
theorem dX11_isSpeech_11 : decode cX11_isSpeech 11 = .ok (.iload_n 2, 1) := by decide +kernel
theorem dX11_isSpeech_12 : decode cX11_isSpeech 12 = .ok (.bipush 115, 2) := by decide +kernel
theorem dX11_isSpeech_14 : decode cX11_isSpeech 14 = .ok (.if_icmp .eq 9, 3) := by decide +kernel
theorem dX11_isSpeech_17 : decode cX11_isSpeech 17 = .ok (.iload_n 2, 1) := by decide +kernel
theorem dX11_isSpeech_18 : decode cX11_isSpeech 18 = .ok (.bipush 98, 2) := by decide +kernel
theorem dX11_isSpeech_20 : decode cX11_isSpeech 20 = .ok (.if_icmp .ne 7, 3) := by decide +kernel
theorem dX11_isSpeech_23 : decode cX11_isSpeech 23 = .ok (.iconst 1, 1) := by decide +kernel
theorem dX11_isSpeech_24 : decode cX11_isSpeech 24 = .ok (.goto 4, 3) := by decide +kernel
theorem dX11_isSpeech_27 : decode cX11_isSpeech 27 = .ok (.iconst 0, 1) := by decide +kernel
theorem dX11_isSpeech_28 : decode cX11_isSpeech 28 = .ok (.ireturn, 1) := by decide +kernel
abbrev YX11_isSpeech : li_Y := (yX11_isSpeech, cX11_isSpeech, 3, (some .boolean))
theorem dX11_doAct_0 : decode cX11_doAct 0 = .ok (.iload_n 1, 1) := by decide +kernel
theorem dX11_doAct_1 : decode cX11_doAct 1 = .ok (.iconst 4, 1) := by decide +kernel
theorem dX11_doAct_2 : decode cX11_doAct 2 = .ok (.imul, 1) := by decide +kernel
theorem dX11_doAct_3 : decode cX11_doAct 3 = .ok (.istore_n 2, 1) := by decide +kernel
theorem dX11_doAct_4 : decode cX11_doAct 4 = .ok (.aload_n 0, 1) := by decide +kernel
theorem dX11_doAct_5 : decode cX11_doAct 5 = .ok (.getfield 61, 3) := by decide +kernel
theorem dX11_doAct_8 : decode cX11_doAct 8 = .ok (.iload_n 2, 1) := by decide +kernel
theorem dX11_doAct_9 : decode cX11_doAct 9 = .ok (.iconst 1, 1) := by decide +kernel
theorem dX11_doAct_10 : decode cX11_doAct 10 = .ok (.iadd, 1) := by decide +kernel
theorem dX11_doAct_11 : decode cX11_doAct 11 = .ok (.invokestatic 142, 3) := by decide +kernel
theorem dX11_doAct_14 : decode cX11_doAct 14 = .ok (.istore_n 3, 1) := by decide +kernel
theorem dX11_doAct_15 : decode cX11_doAct 15 = .ok (.aload_n 0, 1) := by decide +kernel
theorem dX11_doAct_16 : decode cX11_doAct 16 = .ok (.getfield 61, 3) := by decide +kernel
theorem dX11_doAct_19 : decode cX11_doAct 19 = .ok (.iload_n 2, 1) := by decide +kernel
theorem dX11_doAct_20 : decode cX11_doAct 20 = .ok (.iconst 2, 1) := by decide +kernel
theorem dX11_doAct_21 : decode cX11_doAct 21 = .ok (.iadd, 1) := by decide +kernel
theorem dX11_doAct_22 : decode cX11_doAct 22 = .ok (.invokestatic 142, 3) := by decide +kernel
theorem dX11_doAct_25 : decode cX11_doAct 25 = .ok (.istore 4, 2) := by decide +kernel
theorem dX11_doAct_27 : decode cX11_doAct 27 = .ok (.aload_n 0, 1) := by decide +kernel
theorem dX11_doAct_28 : decode cX11_doAct 28 = .ok (.getfield 61, 3) := by decide +kernel
theorem dX11_doAct_31 : decode cX11_doAct 31 = .ok (.iload_n 2, 1) := by decide +kernel
theorem dX11_doAct_32 : decode cX11_doAct 32 = .ok (.iconst 3, 1) := by decide +kernel
theorem dX11_doAct_33 : decode cX11_doAct 33 = .ok (.iadd, 1) := by decide +kernel
theorem dX11_doAct_34 : decode cX11_doAct 34 = .ok (.invokestatic 142, 3) := by decide +kernel
theorem dX11_doAct_37 : decode cX11_doAct 37 = .ok (.istore 5, 2) := by decide +kernel
theorem dX11_doAct_39 : decode cX11_doAct 39 = .ok (.aload_n 0, 1) := by decide +kernel
theorem dX11_doAct_40 : decode cX11_doAct 40 = .ok (.getfield 61, 3) := by decide +kernel
theorem dX11_doAct_43 : decode cX11_doAct 43 = .ok (.iload_n 2, 1) := by decide +kernel
theorem dX11_doAct_44 : decode cX11_doAct 44 = .ok (.invokestatic 142, 3) := by decide +kernel
theorem dX11_doAct_47 : decode cX11_doAct 47 = .ok (.lookupswitch 65 #[(98, 41), (103, 55), (115, 33)], 33) := by decide +kernel
theorem dX11_doAct_80 : decode cX11_doAct 80 = .ok (.aload_n 0, 1) := by decide +kernel
theorem dX11_doAct_81 : decode cX11_doAct 81 = .ok (.iload_n 3, 1) := by decide +kernel
theorem dX11_doAct_82 : decode cX11_doAct 82 = .ok (.iload 4, 2) := by decide +kernel
theorem dX11_doAct_84 : decode cX11_doAct 84 = .ok (.invokevirtual 245, 3) := by decide +kernel
theorem dX11_doAct_87 : decode cX11_doAct 87 = .ok (.ireturn, 1) := by decide +kernel
theorem dX11_doAct_88 : decode cX11_doAct 88 = .ok (.aload_n 0, 1) := by decide +kernel
theorem dX11_doAct_89 : decode cX11_doAct 89 = .ok (.iload_n 3, 1) := by decide +kernel
theorem dX11_doAct_90 : decode cX11_doAct 90 = .ok (.aload_n 0, 1) := by decide +kernel
theorem dX11_doAct_91 : decode cX11_doAct 91 = .ok (.getfield 70, 3) := by decide +kernel
theorem dX11_doAct_94 : decode cX11_doAct 94 = .ok (.iload_n 3, 1) := by decide +kernel
theorem dX11_doAct_95 : decode cX11_doAct 95 = .ok (.invokevirtual 201, 3) := by decide +kernel
theorem dX11_doAct_98 : decode cX11_doAct 98 = .ok (.invokevirtual 245, 3) := by decide +kernel
theorem dX11_doAct_101 : decode cX11_doAct 101 = .ok (.ireturn, 1) := by decide +kernel
theorem dX11_doAct_102 : decode cX11_doAct 102 = .ok (.aload_n 0, 1) := by decide +kernel
theorem dX11_doAct_103 : decode cX11_doAct 103 = .ok (.iload_n 3, 1) := by decide +kernel
theorem dX11_doAct_104 : decode cX11_doAct 104 = .ok (.iload 4, 2) := by decide +kernel
theorem dX11_doAct_106 : decode cX11_doAct 106 = .ok (.iload 5, 2) := by decide +kernel
theorem dX11_doAct_108 : decode cX11_doAct 108 = .ok (.invokevirtual 251, 3) := by decide +kernel
theorem dX11_doAct_111 : decode cX11_doAct 111 = .ok (.ireturn, 1) := by decide +kernel
theorem dX11_doAct_112 : decode cX11_doAct 112 = .ok (.aload_n 0, 1) := by decide +kernel
theorem dX11_doAct_113 : decode cX11_doAct 113 = .ok (.iload 5, 2) := by decide +kernel
theorem dX11_doAct_115 : decode cX11_doAct 115 = .ok (.invokevirtual 276, 3) := by decide +kernel
theorem dX11_doAct_118 : decode cX11_doAct 118 = .ok (.aload_n 0, 1) := by decide +kernel
theorem dX11_doAct_119 : decode cX11_doAct 119 = .ok (.getfield 33, 3) := by decide +kernel
theorem dX11_doAct_122 : decode cX11_doAct 122 = .ok (.getfield 257, 3) := by decide +kernel
theorem dX11_doAct_125 : decode cX11_doAct 125 = .ok (.ireturn, 1) := by decide +kernel
abbrev YX11_doAct : li_Y := (yX11_doAct, cX11_doAct, 6, (some .int))
theorem dX11_writeAct_0 : decode cX11_writeAct 0 = .ok (.iload_n 1, 1) := by decide +kernel
theorem dX11_writeAct_1 : decode cX11_writeAct 1 = .ok (.iconst 4, 1) := by decide +kernel
theorem dX11_writeAct_2 : decode cX11_writeAct 2 = .ok (.imul, 1) := by decide +kernel
theorem dX11_writeAct_3 : decode cX11_writeAct 3 = .ok (.istore 6, 2) := by decide +kernel
theorem dX11_writeAct_5 : decode cX11_writeAct 5 = .ok (.aload_n 0, 1) := by decide +kernel
theorem dX11_writeAct_6 : decode cX11_writeAct 6 = .ok (.getfield 61, 3) := by decide +kernel
theorem dX11_writeAct_9 : decode cX11_writeAct 9 = .ok (.iload 6, 2) := by decide +kernel
theorem dX11_writeAct_11 : decode cX11_writeAct 11 = .ok (.iload_n 2, 1) := by decide +kernel
theorem dX11_writeAct_12 : decode cX11_writeAct 12 = .ok (.invokestatic 224, 3) := by decide +kernel
theorem dX11_writeAct_15 : decode cX11_writeAct 15 = .ok (.aload_n 0, 1) := by decide +kernel
theorem dX11_writeAct_16 : decode cX11_writeAct 16 = .ok (.getfield 61, 3) := by decide +kernel
theorem dX11_writeAct_19 : decode cX11_writeAct 19 = .ok (.iload 6, 2) := by decide +kernel
theorem dX11_writeAct_21 : decode cX11_writeAct 21 = .ok (.iconst 1, 1) := by decide +kernel
theorem dX11_writeAct_22 : decode cX11_writeAct 22 = .ok (.iadd, 1) := by decide +kernel
theorem dX11_writeAct_23 : decode cX11_writeAct 23 = .ok (.iload_n 3, 1) := by decide +kernel
theorem dX11_writeAct_24 : decode cX11_writeAct 24 = .ok (.invokestatic 224, 3) := by decide +kernel
theorem dX11_writeAct_27 : decode cX11_writeAct 27 = .ok (.aload_n 0, 1) := by decide +kernel
theorem dX11_writeAct_28 : decode cX11_writeAct 28 = .ok (.getfield 61, 3) := by decide +kernel
theorem dX11_writeAct_31 : decode cX11_writeAct 31 = .ok (.iload 6, 2) := by decide +kernel
theorem dX11_writeAct_33 : decode cX11_writeAct 33 = .ok (.iconst 2, 1) := by decide +kernel
theorem dX11_writeAct_34 : decode cX11_writeAct 34 = .ok (.iadd, 1) := by decide +kernel
theorem dX11_writeAct_35 : decode cX11_writeAct 35 = .ok (.iload 4, 2) := by decide +kernel
theorem dX11_writeAct_37 : decode cX11_writeAct 37 = .ok (.invokestatic 224, 3) := by decide +kernel
theorem dX11_writeAct_40 : decode cX11_writeAct 40 = .ok (.aload_n 0, 1) := by decide +kernel
theorem dX11_writeAct_41 : decode cX11_writeAct 41 = .ok (.getfield 61, 3) := by decide +kernel
theorem dX11_writeAct_44 : decode cX11_writeAct 44 = .ok (.iload 6, 2) := by decide +kernel
theorem dX11_writeAct_46 : decode cX11_writeAct 46 = .ok (.iconst 3, 1) := by decide +kernel
theorem dX11_writeAct_47 : decode cX11_writeAct 47 = .ok (.iadd, 1) := by decide +kernel
theorem dX11_writeAct_48 : decode cX11_writeAct 48 = .ok (.iload 5, 2) := by decide +kernel
theorem dX11_writeAct_50 : decode cX11_writeAct 50 = .ok (.invokestatic 224, 3) := by decide +kernel
theorem dX11_writeAct_53 : decode cX11_writeAct 53 = .ok (.return_, 1) := by decide +kernel
abbrev YX11_writeAct : li_Y := (yX11_writeAct, cX11_writeAct, 7, none)
theorem dX11_readSaying_0 : decode cX11_readSaying 0 = .ok (.aload_n 0, 1) := by decide +kernel
theorem dX11_readSaying_1 : decode cX11_readSaying 1 = .ok (.getfield 12, 3) := by decide +kernel
theorem dX11_readSaying_4 : decode cX11_readSaying 4 = .ok (.bipush 48, 2) := by decide +kernel
theorem dX11_readSaying_6 : decode cX11_readSaying 6 = .ok (.bipush 10, 2) := by decide +kernel
theorem dX11_readSaying_8 : decode cX11_readSaying 8 = .ok (.invokevirtual 496, 3) := by decide +kernel
theorem dX11_readSaying_11 : decode cX11_readSaying 11 = .ok (.istore_n 2, 1) := by decide +kernel
theorem dX11_readSaying_12 : decode cX11_readSaying 12 = .ok (.iload_n 2, 1) := by decide +kernel
theorem dX11_readSaying_13 : decode cX11_readSaying 13 = .ok (.ifCond .ge 5, 3) := by decide +kernel
theorem dX11_readSaying_16 : decode cX11_readSaying 16 = .ok (.iconst 0, 1) := by decide +kernel
theorem dX11_readSaying_17 : decode cX11_readSaying 17 = .ok (.ireturn, 1) := by decide +kernel
theorem dX11_readSaying_18 : decode cX11_readSaying 18 = .ok (.aload_n 0, 1) := by decide +kernel
theorem dX11_readSaying_19 : decode cX11_readSaying 19 = .ok (.getfield 12, 3) := by decide +kernel
theorem dX11_readSaying_22 : decode cX11_readSaying 22 = .ok (.bipush 48, 2) := by decide +kernel
theorem dX11_readSaying_24 : decode cX11_readSaying 24 = .ok (.iconst 4, 1) := by decide +kernel
theorem dX11_readSaying_25 : decode cX11_readSaying 25 = .ok (.invokevirtual 496, 3) := by decide +kernel
theorem dX11_readSaying_28 : decode cX11_readSaying 28 = .ok (.istore_n 3, 1) := by decide +kernel
theorem dX11_readSaying_29 : decode cX11_readSaying 29 = .ok (.aload_n 0, 1) := by decide +kernel
theorem dX11_readSaying_30 : decode cX11_readSaying 30 = .ok (.iload_n 1, 1) := by decide +kernel
theorem dX11_readSaying_31 : decode cX11_readSaying 31 = .ok (.bipush 115, 2) := by decide +kernel
theorem dX11_readSaying_33 : decode cX11_readSaying 33 = .ok (.iload_n 2, 1) := by decide +kernel
theorem dX11_readSaying_34 : decode cX11_readSaying 34 = .ok (.iload_n 3, 1) := by decide +kernel
theorem dX11_readSaying_35 : decode cX11_readSaying 35 = .ok (.iconst 0, 1) := by decide +kernel
theorem dX11_readSaying_36 : decode cX11_readSaying 36 = .ok (.invokevirtual 499, 3) := by decide +kernel
theorem dX11_readSaying_39 : decode cX11_readSaying 39 = .ok (.iload_n 3, 1) := by decide +kernel
theorem dX11_readSaying_40 : decode cX11_readSaying 40 = .ok (.ifCond .lt 7, 3) := by decide +kernel
theorem dX11_readSaying_43 : decode cX11_readSaying 43 = .ok (.iconst 1, 1) := by decide +kernel
theorem dX11_readSaying_44 : decode cX11_readSaying 44 = .ok (.goto 4, 3) := by decide +kernel
theorem dX11_readSaying_47 : decode cX11_readSaying 47 = .ok (.iconst 0, 1) := by decide +kernel
theorem dX11_readSaying_48 : decode cX11_readSaying 48 = .ok (.ireturn, 1) := by decide +kernel
abbrev YX11_readSaying : li_Y := (yX11_readSaying, cX11_readSaying, 4, (some .boolean))
theorem dX11_readGift_0 : decode cX11_readGift 0 = .ok (.aload_n 0, 1) := by decide +kernel
theorem dX11_readGift_1 : decode cX11_readGift 1 = .ok (.getfield 12, 3) := by decide +kernel
theorem dX11_readGift_4 : decode cX11_readGift 4 = .ok (.bipush 97, 2) := by decide +kernel
theorem dX11_readGift_6 : decode cX11_readGift 6 = .ok (.bipush 6, 2) := by decide +kernel
theorem dX11_readGift_8 : decode cX11_readGift 8 = .ok (.invokevirtual 496, 3) := by decide +kernel
theorem dX11_readGift_11 : decode cX11_readGift 11 = .ok (.istore_n 2, 1) := by decide +kernel
theorem dX11_readGift_12 : decode cX11_readGift 12 = .ok (.iload_n 2, 1) := by decide +kernel
theorem dX11_readGift_13 : decode cX11_readGift 13 = .ok (.ifCond .ge 5, 3) := by decide +kernel
theorem dX11_readGift_16 : decode cX11_readGift 16 = .ok (.iconst 0, 1) := by decide +kernel
theorem dX11_readGift_17 : decode cX11_readGift 17 = .ok (.ireturn, 1) := by decide +kernel
theorem dX11_readGift_18 : decode cX11_readGift 18 = .ok (.aload_n 0, 1) := by decide +kernel
theorem dX11_readGift_19 : decode cX11_readGift 19 = .ok (.getfield 12, 3) := by decide +kernel
theorem dX11_readGift_22 : decode cX11_readGift 22 = .ok (.bipush 97, 2) := by decide +kernel
theorem dX11_readGift_24 : decode cX11_readGift 24 = .ok (.bipush 6, 2) := by decide +kernel
theorem dX11_readGift_26 : decode cX11_readGift 26 = .ok (.invokevirtual 496, 3) := by decide +kernel
theorem dX11_readGift_29 : decode cX11_readGift 29 = .ok (.istore_n 3, 1) := by decide +kernel
theorem dX11_readGift_30 : decode cX11_readGift 30 = .ok (.iload_n 3, 1) := by decide +kernel
theorem dX11_readGift_31 : decode cX11_readGift 31 = .ok (.ifCond .ge 5, 3) := by decide +kernel
theorem dX11_readGift_34 : decode cX11_readGift 34 = .ok (.iconst 0, 1) := by decide +kernel
theorem dX11_readGift_35 : decode cX11_readGift 35 = .ok (.ireturn, 1) := by decide +kernel
theorem dX11_readGift_36 : decode cX11_readGift 36 = .ok (.aload_n 0, 1) := by decide +kernel
theorem dX11_readGift_37 : decode cX11_readGift 37 = .ok (.getfield 12, 3) := by decide +kernel
theorem dX11_readGift_40 : decode cX11_readGift 40 = .ok (.iconst 3, 1) := by decide +kernel
theorem dX11_readGift_41 : decode cX11_readGift 41 = .ok (.invokevirtual 506, 3) := by decide +kernel
theorem dX11_readGift_44 : decode cX11_readGift 44 = .ok (.istore 4, 2) := by decide +kernel
theorem dX11_readGift_46 : decode cX11_readGift 46 = .ok (.aload_n 0, 1) := by decide +kernel
theorem dX11_readGift_47 : decode cX11_readGift 47 = .ok (.iload_n 1, 1) := by decide +kernel
theorem dX11_readGift_48 : decode cX11_readGift 48 = .ok (.bipush 103, 2) := by decide +kernel
theorem dX11_readGift_50 : decode cX11_readGift 50 = .ok (.iload_n 2, 1) := by decide +kernel
theorem dX11_readGift_51 : decode cX11_readGift 51 = .ok (.iload_n 3, 1) := by decide +kernel
theorem dX11_readGift_52 : decode cX11_readGift 52 = .ok (.iload 4, 2) := by decide +kernel
theorem dX11_readGift_54 : decode cX11_readGift 54 = .ok (.invokevirtual 499, 3) := by decide +kernel
theorem dX11_readGift_57 : decode cX11_readGift 57 = .ok (.iload 4, 2) := by decide +kernel
theorem dX11_readGift_59 : decode cX11_readGift 59 = .ok (.ifCond .lt 7, 3) := by decide +kernel
theorem dX11_readGift_62 : decode cX11_readGift 62 = .ok (.iconst 1, 1) := by decide +kernel
theorem dX11_readGift_63 : decode cX11_readGift 63 = .ok (.goto 4, 3) := by decide +kernel
theorem dX11_readGift_66 : decode cX11_readGift 66 = .ok (.iconst 0, 1) := by decide +kernel
theorem dX11_readGift_67 : decode cX11_readGift 67 = .ok (.ireturn, 1) := by decide +kernel
abbrev YX11_readGift : li_Y := (yX11_readGift, cX11_readGift, 5, (some .boolean))
theorem dX11_readAct_0 : decode cX11_readAct 0 = .ok (.aload_n 0, 1) := by decide +kernel
theorem dX11_readAct_1 : decode cX11_readAct 1 = .ok (.getfield 12, 3) := by decide +kernel
theorem dX11_readAct_4 : decode cX11_readAct 4 = .ok (.bipush 115, 2) := by decide +kernel
theorem dX11_readAct_6 : decode cX11_readAct 6 = .ok (.invokevirtual 469, 3) := by decide +kernel
theorem dX11_readAct_9 : decode cX11_readAct 9 = .ok (.ifCond .eq 9, 3) := by decide +kernel
theorem dX11_readAct_12 : decode cX11_readAct 12 = .ok (.aload_n 0, 1) := by decide +kernel
theorem dX11_readAct_13 : decode cX11_readAct 13 = .ok (.iload_n 1, 1) := by decide +kernel
theorem dX11_readAct_14 : decode cX11_readAct 14 = .ok (.invokevirtual 493, 3) := by decide +kernel
theorem dX11_readAct_17 : decode cX11_readAct 17 = .ok (.ireturn, 1) := by decide +kernel
theorem dX11_readAct_18 : decode cX11_readAct 18 = .ok (.aload_n 0, 1) := by decide +kernel
theorem dX11_readAct_19 : decode cX11_readAct 19 = .ok (.getfield 12, 3) := by decide +kernel
theorem dX11_readAct_22 : decode cX11_readAct 22 = .ok (.bipush 98, 2) := by decide +kernel
theorem dX11_readAct_24 : decode cX11_readAct 24 = .ok (.invokevirtual 469, 3) := by decide +kernel
theorem dX11_readAct_27 : decode cX11_readAct 27 = .ok (.ifCond .eq 35, 3) := by decide +kernel
theorem dX11_readAct_30 : decode cX11_readAct 30 = .ok (.aload_n 0, 1) := by decide +kernel
theorem dX11_readAct_31 : decode cX11_readAct 31 = .ok (.getfield 12, 3) := by decide +kernel
theorem dX11_readAct_34 : decode cX11_readAct 34 = .ok (.bipush 48, 2) := by decide +kernel
theorem dX11_readAct_36 : decode cX11_readAct 36 = .ok (.bipush 10, 2) := by decide +kernel
theorem dX11_readAct_38 : decode cX11_readAct 38 = .ok (.invokevirtual 496, 3) := by decide +kernel
theorem dX11_readAct_41 : decode cX11_readAct 41 = .ok (.istore_n 2, 1) := by decide +kernel
theorem dX11_readAct_42 : decode cX11_readAct 42 = .ok (.aload_n 0, 1) := by decide +kernel
theorem dX11_readAct_43 : decode cX11_readAct 43 = .ok (.iload_n 1, 1) := by decide +kernel
theorem dX11_readAct_44 : decode cX11_readAct 44 = .ok (.bipush 98, 2) := by decide +kernel
theorem dX11_readAct_46 : decode cX11_readAct 46 = .ok (.iload_n 2, 1) := by decide +kernel
theorem dX11_readAct_47 : decode cX11_readAct 47 = .ok (.iconst 0, 1) := by decide +kernel
theorem dX11_readAct_48 : decode cX11_readAct 48 = .ok (.iconst 0, 1) := by decide +kernel
theorem dX11_readAct_49 : decode cX11_readAct 49 = .ok (.invokevirtual 499, 3) := by decide +kernel
theorem dX11_readAct_52 : decode cX11_readAct 52 = .ok (.iload_n 2, 1) := by decide +kernel
theorem dX11_readAct_53 : decode cX11_readAct 53 = .ok (.ifCond .lt 7, 3) := by decide +kernel
theorem dX11_readAct_56 : decode cX11_readAct 56 = .ok (.iconst 1, 1) := by decide +kernel
theorem dX11_readAct_57 : decode cX11_readAct 57 = .ok (.goto 4, 3) := by decide +kernel
theorem dX11_readAct_60 : decode cX11_readAct 60 = .ok (.iconst 0, 1) := by decide +kernel
theorem dX11_readAct_61 : decode cX11_readAct 61 = .ok (.ireturn, 1) := by decide +kernel
theorem dX11_readAct_62 : decode cX11_readAct 62 = .ok (.aload_n 0, 1) := by decide +kernel
theorem dX11_readAct_63 : decode cX11_readAct 63 = .ok (.getfield 12, 3) := by decide +kernel
theorem dX11_readAct_66 : decode cX11_readAct 66 = .ok (.bipush 103, 2) := by decide +kernel
theorem dX11_readAct_68 : decode cX11_readAct 68 = .ok (.invokevirtual 469, 3) := by decide +kernel
theorem dX11_readAct_71 : decode cX11_readAct 71 = .ok (.ifCond .eq 9, 3) := by decide +kernel
theorem dX11_readAct_74 : decode cX11_readAct 74 = .ok (.aload_n 0, 1) := by decide +kernel
theorem dX11_readAct_75 : decode cX11_readAct 75 = .ok (.iload_n 1, 1) := by decide +kernel
theorem dX11_readAct_76 : decode cX11_readAct 76 = .ok (.invokevirtual 503, 3) := by decide +kernel
theorem dX11_readAct_79 : decode cX11_readAct 79 = .ok (.ireturn, 1) := by decide +kernel
theorem dX11_readAct_80 : decode cX11_readAct 80 = .ok (.aload_n 0, 1) := by decide +kernel
theorem dX11_readAct_81 : decode cX11_readAct 81 = .ok (.getfield 12, 3) := by decide +kernel
theorem dX11_readAct_84 : decode cX11_readAct 84 = .ok (.bipush 100, 2) := by decide +kernel
theorem dX11_readAct_86 : decode cX11_readAct 86 = .ok (.invokevirtual 469, 3) := by decide +kernel
theorem dX11_readAct_89 : decode cX11_readAct 89 = .ok (.ifCond .eq 32, 3) := by decide +kernel
theorem dX11_readAct_92 : decode cX11_readAct 92 = .ok (.aload_n 0, 1) := by decide +kernel
theorem dX11_readAct_93 : decode cX11_readAct 93 = .ok (.getfield 12, 3) := by decide +kernel
theorem dX11_readAct_96 : decode cX11_readAct 96 = .ok (.iconst 2, 1) := by decide +kernel
theorem dX11_readAct_97 : decode cX11_readAct 97 = .ok (.invokevirtual 506, 3) := by decide +kernel
theorem dX11_readAct_100 : decode cX11_readAct 100 = .ok (.istore_n 2, 1) := by decide +kernel
theorem dX11_readAct_101 : decode cX11_readAct 101 = .ok (.aload_n 0, 1) := by decide +kernel
theorem dX11_readAct_102 : decode cX11_readAct 102 = .ok (.iload_n 1, 1) := by decide +kernel
theorem dX11_readAct_103 : decode cX11_readAct 103 = .ok (.bipush 100, 2) := by decide +kernel
theorem dX11_readAct_105 : decode cX11_readAct 105 = .ok (.iconst 0, 1) := by decide +kernel
theorem dX11_readAct_106 : decode cX11_readAct 106 = .ok (.iconst 0, 1) := by decide +kernel
theorem dX11_readAct_107 : decode cX11_readAct 107 = .ok (.iload_n 2, 1) := by decide +kernel
theorem dX11_readAct_108 : decode cX11_readAct 108 = .ok (.invokevirtual 499, 3) := by decide +kernel
theorem dX11_readAct_111 : decode cX11_readAct 111 = .ok (.iload_n 2, 1) := by decide +kernel
theorem dX11_readAct_112 : decode cX11_readAct 112 = .ok (.ifCond .lt 7, 3) := by decide +kernel
theorem dX11_readAct_115 : decode cX11_readAct 115 = .ok (.iconst 1, 1) := by decide +kernel
theorem dX11_readAct_116 : decode cX11_readAct 116 = .ok (.goto 4, 3) := by decide +kernel
theorem dX11_readAct_119 : decode cX11_readAct 119 = .ok (.iconst 0, 1) := by decide +kernel
theorem dX11_readAct_120 : decode cX11_readAct 120 = .ok (.ireturn, 1) := by decide +kernel
theorem dX11_readAct_121 : decode cX11_readAct 121 = .ok (.iconst 0, 1) := by decide +kernel
theorem dX11_readAct_122 : decode cX11_readAct 122 = .ok (.ireturn, 1) := by decide +kernel
abbrev YX11_readAct : li_Y := (yX11_readAct, cX11_readAct, 3, (some .boolean))
theorem dX11_readWish_0 : decode cX11_readWish 0 = .ok (.aload_n 0, 1) := by decide +kernel
theorem dX11_readWish_1 : decode cX11_readWish 1 = .ok (.getfield 26, 3) := by decide +kernel
theorem dX11_readWish_4 : decode cX11_readWish 4 = .ok (.aload_n 0, 1) := by decide +kernel
theorem dX11_readWish_5 : decode cX11_readWish 5 = .ok (.getfield 12, 3) := by decide +kernel
theorem dX11_readWish_8 : decode cX11_readWish 8 = .ok (.iload_n 1, 1) := by decide +kernel
theorem dX11_readWish_9 : decode cX11_readWish 9 = .ok (.invokevirtual 484, 3) := by decide +kernel
theorem dX11_readWish_12 : decode cX11_readWish 12 = .ok (.ifCond .eq 37, 3) := by decide +kernel
theorem dX11_readWish_15 : decode cX11_readWish 15 = .ok (.aload_n 0, 1) := by decide +kernel
theorem dX11_readWish_16 : decode cX11_readWish 16 = .ok (.getfield 26, 3) := by decide +kernel
theorem dX11_readWish_19 : decode cX11_readWish 19 = .ok (.aload_n 0, 1) := by decide +kernel
theorem dX11_readWish_20 : decode cX11_readWish 20 = .ok (.getfield 12, 3) := by decide +kernel
theorem dX11_readWish_23 : decode cX11_readWish 23 = .ok (.iload_n 1, 1) := by decide +kernel
theorem dX11_readWish_24 : decode cX11_readWish 24 = .ok (.invokevirtual 487, 3) := by decide +kernel
theorem dX11_readWish_27 : decode cX11_readWish 27 = .ok (.ifCond .eq 22, 3) := by decide +kernel
theorem dX11_readWish_30 : decode cX11_readWish 30 = .ok (.aload_n 0, 1) := by decide +kernel
theorem dX11_readWish_31 : decode cX11_readWish 31 = .ok (.getfield 26, 3) := by decide +kernel
theorem dX11_readWish_34 : decode cX11_readWish 34 = .ok (.aload_n 0, 1) := by decide +kernel
theorem dX11_readWish_35 : decode cX11_readWish 35 = .ok (.getfield 12, 3) := by decide +kernel
theorem dX11_readWish_38 : decode cX11_readWish 38 = .ok (.iload_n 1, 1) := by decide +kernel
theorem dX11_readWish_39 : decode cX11_readWish 39 = .ok (.invokevirtual 490, 3) := by decide +kernel
theorem dX11_readWish_42 : decode cX11_readWish 42 = .ok (.ifCond .eq 7, 3) := by decide +kernel
theorem dX11_readWish_45 : decode cX11_readWish 45 = .ok (.iconst 1, 1) := by decide +kernel
theorem dX11_readWish_46 : decode cX11_readWish 46 = .ok (.goto 4, 3) := by decide +kernel
theorem dX11_readWish_49 : decode cX11_readWish 49 = .ok (.iconst 0, 1) := by decide +kernel
theorem dX11_readWish_50 : decode cX11_readWish 50 = .ok (.ireturn, 1) := by decide +kernel
abbrev YX11_readWish : li_Y := (yX11_readWish, cX11_readWish, 2, (some .boolean))
theorem dX11_readLine_0 : decode cX11_readLine 0 = .ok (.iload_n 1, 1) := by decide +kernel
theorem dX11_readLine_1 : decode cX11_readLine 1 = .ok (.tableswitch 68 0 2 #[27, 48, 62], 27) := by decide +kernel
theorem dX11_readLine_28 : decode cX11_readLine 28 = .ok (.aload_n 0, 1) := by decide +kernel
theorem dX11_readLine_29 : decode cX11_readLine 29 = .ok (.getfield 26, 3) := by decide +kernel
theorem dX11_readLine_32 : decode cX11_readLine 32 = .ok (.aload_n 0, 1) := by decide +kernel
theorem dX11_readLine_33 : decode cX11_readLine 33 = .ok (.getfield 12, 3) := by decide +kernel
theorem dX11_readLine_36 : decode cX11_readLine 36 = .ok (.aload_n 0, 1) := by decide +kernel
theorem dX11_readLine_37 : decode cX11_readLine 37 = .ok (.getfield 26, 3) := by decide +kernel
theorem dX11_readLine_40 : decode cX11_readLine 40 = .ok (.getfield 104, 3) := by decide +kernel
theorem dX11_readLine_43 : decode cX11_readLine 43 = .ok (.iload_n 2, 1) := by decide +kernel
theorem dX11_readLine_44 : decode cX11_readLine 44 = .ok (.iadd, 1) := by decide +kernel
theorem dX11_readLine_45 : decode cX11_readLine 45 = .ok (.invokevirtual 472, 3) := by decide +kernel
theorem dX11_readLine_48 : decode cX11_readLine 48 = .ok (.ireturn, 1) := by decide +kernel
theorem dX11_readLine_49 : decode cX11_readLine 49 = .ok (.aload_n 0, 1) := by decide +kernel
theorem dX11_readLine_50 : decode cX11_readLine 50 = .ok (.aload_n 0, 1) := by decide +kernel
theorem dX11_readLine_51 : decode cX11_readLine 51 = .ok (.getfield 26, 3) := by decide +kernel
theorem dX11_readLine_54 : decode cX11_readLine 54 = .ok (.getfield 118, 3) := by decide +kernel
theorem dX11_readLine_57 : decode cX11_readLine 57 = .ok (.iload_n 2, 1) := by decide +kernel
theorem dX11_readLine_58 : decode cX11_readLine 58 = .ok (.iadd, 1) := by decide +kernel
theorem dX11_readLine_59 : decode cX11_readLine 59 = .ok (.invokevirtual 476, 3) := by decide +kernel
theorem dX11_readLine_62 : decode cX11_readLine 62 = .ok (.ireturn, 1) := by decide +kernel
theorem dX11_readLine_63 : decode cX11_readLine 63 = .ok (.aload_n 0, 1) := by decide +kernel
theorem dX11_readLine_64 : decode cX11_readLine 64 = .ok (.iload_n 2, 1) := by decide +kernel
theorem dX11_readLine_65 : decode cX11_readLine 65 = .ok (.invokevirtual 479, 3) := by decide +kernel
theorem dX11_readLine_68 : decode cX11_readLine 68 = .ok (.ireturn, 1) := by decide +kernel
theorem dX11_readLine_69 : decode cX11_readLine 69 = .ok (.aload_n 0, 1) := by decide +kernel
theorem dX11_readLine_70 : decode cX11_readLine 70 = .ok (.getfield 57, 3) := by decide +kernel
theorem dX11_readLine_73 : decode cX11_readLine 73 = .ok (.aload_n 0, 1) := by decide +kernel
theorem dX11_readLine_74 : decode cX11_readLine 74 = .ok (.getfield 12, 3) := by decide +kernel
theorem dX11_readLine_77 : decode cX11_readLine 77 = .ok (.iload_n 2, 1) := by decide +kernel
theorem dX11_readLine_78 : decode cX11_readLine 78 = .ok (.invokevirtual 482, 3) := by decide +kernel
theorem dX11_readLine_81 : decode cX11_readLine 81 = .ok (.ireturn, 1) := by decide +kernel
abbrev YX11_readLine : li_Y := (yX11_readLine, cX11_readLine, 3, (some .boolean))
theorem dX11_readLines_0 : decode cX11_readLines 0 = .ok (.iconst 0, 1) := by decide +kernel
theorem dX11_readLines_1 : decode cX11_readLines 1 = .ok (.istore_n 3, 1) := by decide +kernel
theorem dX11_readLines_2 : decode cX11_readLines 2 = .ok (.iload_n 3, 1) := by decide +kernel
theorem dX11_readLines_3 : decode cX11_readLines 3 = .ok (.iload_n 2, 1) := by decide +kernel
theorem dX11_readLines_4 : decode cX11_readLines 4 = .ok (.if_icmp .ge 48, 3) := by decide +kernel
theorem dX11_readLines_7 : decode cX11_readLines 7 = .ok (.aload_n 0, 1) := by decide +kernel
theorem dX11_readLines_8 : decode cX11_readLines 8 = .ok (.iload_n 1, 1) := by decide +kernel
theorem dX11_readLines_9 : decode cX11_readLines 9 = .ok (.iload_n 3, 1) := by decide +kernel
theorem dX11_readLines_10 : decode cX11_readLines 10 = .ok (.invokevirtual 466, 3) := by decide +kernel
theorem dX11_readLines_13 : decode cX11_readLines 13 = .ok (.ifCond .ne 5, 3) := by decide +kernel
theorem dX11_readLines_16 : decode cX11_readLines 16 = .ok (.iconst (-1), 1) := by decide +kernel
theorem dX11_readLines_17 : decode cX11_readLines 17 = .ok (.ireturn, 1) := by decide +kernel
theorem dX11_readLines_18 : decode cX11_readLines 18 = .ok (.aload_n 0, 1) := by decide +kernel
theorem dX11_readLines_19 : decode cX11_readLines 19 = .ok (.getfield 12, 3) := by decide +kernel
theorem dX11_readLines_22 : decode cX11_readLines 22 = .ok (.invokevirtual 456, 3) := by decide +kernel
theorem dX11_readLines_25 : decode cX11_readLines 25 = .ok (.ifCond .eq 7, 3) := by decide +kernel
theorem dX11_readLines_28 : decode cX11_readLines 28 = .ok (.iload_n 3, 1) := by decide +kernel
theorem dX11_readLines_29 : decode cX11_readLines 29 = .ok (.iconst 1, 1) := by decide +kernel
theorem dX11_readLines_30 : decode cX11_readLines 30 = .ok (.iadd, 1) := by decide +kernel
theorem dX11_readLines_31 : decode cX11_readLines 31 = .ok (.ireturn, 1) := by decide +kernel
theorem dX11_readLines_32 : decode cX11_readLines 32 = .ok (.aload_n 0, 1) := by decide +kernel
theorem dX11_readLines_33 : decode cX11_readLines 33 = .ok (.getfield 12, 3) := by decide +kernel
theorem dX11_readLines_36 : decode cX11_readLines 36 = .ok (.bipush 59, 2) := by decide +kernel
theorem dX11_readLines_38 : decode cX11_readLines 38 = .ok (.invokevirtual 469, 3) := by decide +kernel
theorem dX11_readLines_41 : decode cX11_readLines 41 = .ok (.ifCond .ne 5, 3) := by decide +kernel
theorem dX11_readLines_44 : decode cX11_readLines 44 = .ok (.iconst (-1), 1) := by decide +kernel
theorem dX11_readLines_45 : decode cX11_readLines 45 = .ok (.ireturn, 1) := by decide +kernel
theorem dX11_readLines_46 : decode cX11_readLines 46 = .ok (.iinc 3 1, 3) := by decide +kernel
theorem dX11_readLines_49 : decode cX11_readLines 49 = .ok (.goto (-47), 3) := by decide +kernel
theorem dX11_readLines_52 : decode cX11_readLines 52 = .ok (.iconst (-1), 1) := by decide +kernel
theorem dX11_readLines_53 : decode cX11_readLines 53 = .ok (.ireturn, 1) := by decide +kernel
abbrev YX11_readLines : li_Y := (yX11_readLines, cX11_readLines, 4, (some .int))
theorem dX11_readText_0 : decode cX11_readText 0 = .ok (.aload_n 0, 1) := by decide +kernel
theorem dX11_readText_1 : decode cX11_readText 1 = .ok (.getfield 12, 3) := by decide +kernel
theorem dX11_readText_4 : decode cX11_readText 4 = .ok (.iconst 0, 1) := by decide +kernel
theorem dX11_readText_5 : decode cX11_readText 5 = .ok (.putfield 445, 3) := by decide +kernel
theorem dX11_readText_8 : decode cX11_readText 8 = .ok (.iload_n 1, 1) := by decide +kernel
theorem dX11_readText_9 : decode cX11_readText 9 = .ok (.iconst 4, 1) := by decide +kernel
theorem dX11_readText_10 : decode cX11_readText 10 = .ok (.if_icmp .ne 27, 3) := by decide +kernel
theorem dX11_readText_13 : decode cX11_readText 13 = .ok (.aload_n 0, 1) := by decide +kernel
theorem dX11_readText_14 : decode cX11_readText 14 = .ok (.getfield 51, 3) := by decide +kernel
theorem dX11_readText_17 : decode cX11_readText 17 = .ok (.aload_n 0, 1) := by decide +kernel
theorem dX11_readText_18 : decode cX11_readText 18 = .ok (.getfield 12, 3) := by decide +kernel
theorem dX11_readText_21 : decode cX11_readText 21 = .ok (.invokevirtual 448, 3) := by decide +kernel
theorem dX11_readText_24 : decode cX11_readText 24 = .ok (.ifCond .eq 7, 3) := by decide +kernel
theorem dX11_readText_27 : decode cX11_readText 27 = .ok (.iconst 0, 1) := by decide +kernel
theorem dX11_readText_28 : decode cX11_readText 28 = .ok (.goto 4, 3) := by decide +kernel
theorem dX11_readText_31 : decode cX11_readText 31 = .ok (.iconst (-1), 1) := by decide +kernel
theorem dX11_readText_32 : decode cX11_readText 32 = .ok (.istore 4, 2) := by decide +kernel
theorem dX11_readText_34 : decode cX11_readText 34 = .ok (.goto 46, 3) := by decide +kernel
theorem dX11_readText_37 : decode cX11_readText 37 = .ok (.iload_n 1, 1) := by decide +kernel
theorem dX11_readText_38 : decode cX11_readText 38 = .ok (.iconst 5, 1) := by decide +kernel
theorem dX11_readText_39 : decode cX11_readText 39 = .ok (.if_icmp .ne 19, 3) := by decide +kernel
theorem dX11_readText_42 : decode cX11_readText 42 = .ok (.aload_n 0, 1) := by decide +kernel
theorem dX11_readText_43 : decode cX11_readText 43 = .ok (.getfield 57, 3) := by decide +kernel
theorem dX11_readText_46 : decode cX11_readText 46 = .ok (.aload_n 0, 1) := by decide +kernel
theorem dX11_readText_47 : decode cX11_readText 47 = .ok (.getfield 12, 3) := by decide +kernel
theorem dX11_readText_50 : decode cX11_readText 50 = .ok (.invokevirtual 452, 3) := by decide +kernel
theorem dX11_readText_53 : decode cX11_readText 53 = .ok (.istore 4, 2) := by decide +kernel
theorem dX11_readText_55 : decode cX11_readText 55 = .ok (.goto 25, 3) := by decide +kernel
theorem dX11_readText_58 : decode cX11_readText 58 = .ok (.aload_n 0, 1) := by decide +kernel
theorem dX11_readText_59 : decode cX11_readText 59 = .ok (.getfield 12, 3) := by decide +kernel
theorem dX11_readText_62 : decode cX11_readText 62 = .ok (.invokevirtual 456, 3) := by decide +kernel
theorem dX11_readText_65 : decode cX11_readText 65 = .ok (.ifCond .eq 7, 3) := by decide +kernel
theorem dX11_readText_68 : decode cX11_readText 68 = .ok (.iconst 0, 1) := by decide +kernel
theorem dX11_readText_69 : decode cX11_readText 69 = .ok (.goto 9, 3) := by decide +kernel
theorem dX11_readText_72 : decode cX11_readText 72 = .ok (.aload_n 0, 1) := by decide +kernel
theorem dX11_readText_73 : decode cX11_readText 73 = .ok (.iload_n 1, 1) := by decide +kernel
theorem dX11_readText_74 : decode cX11_readText 74 = .ok (.iload_n 2, 1) := by decide +kernel
theorem dX11_readText_75 : decode cX11_readText 75 = .ok (.invokevirtual 460, 3) := by decide +kernel
theorem dX11_readText_78 : decode cX11_readText 78 = .ok (.istore 4, 2) := by decide +kernel
theorem dX11_readText_80 : decode cX11_readText 80 = .ok (.aload_n 0, 1) := by decide +kernel
theorem dX11_readText_81 : decode cX11_readText 81 = .ok (.getfield 12, 3) := by decide +kernel
theorem dX11_readText_84 : decode cX11_readText 84 = .ok (.iload 4, 2) := by decide +kernel
theorem dX11_readText_86 : decode cX11_readText 86 = .ok (.iload_n 3, 1) := by decide +kernel
theorem dX11_readText_87 : decode cX11_readText 87 = .ok (.invokevirtual 463, 3) := by decide +kernel
theorem dX11_readText_90 : decode cX11_readText 90 = .ok (.istore 5, 2) := by decide +kernel
theorem dX11_readText_92 : decode cX11_readText 92 = .ok (.aload_n 0, 1) := by decide +kernel
theorem dX11_readText_93 : decode cX11_readText 93 = .ok (.getfield 12, 3) := by decide +kernel
theorem dX11_readText_96 : decode cX11_readText 96 = .ok (.iconst 0, 1) := by decide +kernel
theorem dX11_readText_97 : decode cX11_readText 97 = .ok (.putfield 97, 3) := by decide +kernel
theorem dX11_readText_100 : decode cX11_readText 100 = .ok (.iload 5, 2) := by decide +kernel
theorem dX11_readText_102 : decode cX11_readText 102 = .ok (.ireturn, 1) := by decide +kernel
abbrev YX11_readText : li_Y := (yX11_readText, cX11_readText, 6, (some .int))
theorem dX11_bestOfAll_0 : decode cX11_bestOfAll 0 = .ok (.aload_n 1, 1) := by decide +kernel
theorem dX11_bestOfAll_1 : decode cX11_bestOfAll 1 = .ok (.invokevirtual 299, 3) := by decide +kernel
theorem dX11_bestOfAll_4 : decode cX11_bestOfAll 4 = .ok (.iconst 0, 1) := by decide +kernel
theorem dX11_bestOfAll_5 : decode cX11_bestOfAll 5 = .ok (.istore_n 2, 1) := by decide +kernel
theorem dX11_bestOfAll_6 : decode cX11_bestOfAll 6 = .ok (.iconst 0, 1) := by decide +kernel
theorem dX11_bestOfAll_7 : decode cX11_bestOfAll 7 = .ok (.istore_n 3, 1) := by decide +kernel
theorem dX11_bestOfAll_8 : decode cX11_bestOfAll 8 = .ok (.iload_n 3, 1) := by decide +kernel
theorem dX11_bestOfAll_9 : decode cX11_bestOfAll 9 = .ok (.aload_n 0, 1) := by decide +kernel
theorem dX11_bestOfAll_10 : decode cX11_bestOfAll 10 = .ok (.getfield 26, 3) := by decide +kernel
theorem dX11_bestOfAll_13 : decode cX11_bestOfAll 13 = .ok (.getfield 104, 3) := by decide +kernel
theorem dX11_bestOfAll_16 : decode cX11_bestOfAll 16 = .ok (.if_icmp .ge 21, 3) := by decide +kernel
theorem dX11_bestOfAll_19 : decode cX11_bestOfAll 19 = .ok (.aload_n 1, 1) := by decide +kernel
theorem dX11_bestOfAll_20 : decode cX11_bestOfAll 20 = .ok (.iload_n 3, 1) := by decide +kernel
theorem dX11_bestOfAll_21 : decode cX11_bestOfAll 21 = .ok (.invokevirtual 302, 3) := by decide +kernel
theorem dX11_bestOfAll_24 : decode cX11_bestOfAll 24 = .ok (.iload_n 2, 1) := by decide +kernel
theorem dX11_bestOfAll_25 : decode cX11_bestOfAll 25 = .ok (.aload_n 1, 1) := by decide +kernel
theorem dX11_bestOfAll_26 : decode cX11_bestOfAll 26 = .ok (.getfield 311, 3) := by decide +kernel
theorem dX11_bestOfAll_29 : decode cX11_bestOfAll 29 = .ok (.iadd, 1) := by decide +kernel
theorem dX11_bestOfAll_30 : decode cX11_bestOfAll 30 = .ok (.istore_n 2, 1) := by decide +kernel
theorem dX11_bestOfAll_31 : decode cX11_bestOfAll 31 = .ok (.iinc 3 1, 3) := by decide +kernel
theorem dX11_bestOfAll_34 : decode cX11_bestOfAll 34 = .ok (.goto (-26), 3) := by decide +kernel
theorem dX11_bestOfAll_37 : decode cX11_bestOfAll 37 = .ok (.iload_n 2, 1) := by decide +kernel
theorem dX11_bestOfAll_38 : decode cX11_bestOfAll 38 = .ok (.ireturn, 1) := by decide +kernel
abbrev YX11_bestOfAll : li_Y := (yX11_bestOfAll, cX11_bestOfAll, 4, (some .int))
set_option maxRecDepth 100000 in
set_option maxHeartbeats 4000000 in
theorem k_X11_held {l : Launch} {Z : li_Z} (d : Nat) (hd : 3 ≤ d) (p1 : Int32) (M0 : li_M) : li_Met l Z YX11_held d [.ref (Z.2.2 0), .int p1] M0 (li_SI (fun i => i = 21 ∨ (32 ≤ i ∧ i < 128)) M0) := by
  refine li_enter (by decide +kernel) (Nat.le_of_ble_eq_true rfl) ?_
  show li_T l Z YX11_held d 0 [(0, .ref (Z.2.2 0)), (1, .int p1)] [] M0 _
  have hf : li_fr (fun i => i = 21 ∨ (32 ≤ i ∧ i < 128)) M0 M0 := li_fr_refl
  refine li_iload_n 1 dX11_held_0 rfl ?_
  refine li_if_lt 11 dX11_held_1 (by decide) (fun c1 => ?_) (fun c1 => ?_)
  · refine li_iload_n 1 dX11_held_11 rfl ?_
    exact li_iret dX11_held_12 rfl rfl ⟨⟨_, rfl⟩, hf⟩
  · refine li_aload_n 0 dX11_held_4 rfl ?_
    refine li_getr (k := 4) (N := 13) (T := TX11) (C0 := RX11) dX11_held_5 (by decide) sh_0 rfl rfl (by decide) (by decide) li_in11 w_477 ?_
    refine li_callV (n := 0) (As := []) dX11_held_8 (k_X3_hold (d - 1) (by omega)  M0) (by omega) (Nat.le_of_ble_eq_true rfl) w_871 w_872 w_873 w_106 w_874 (by decide +kernel) rfl (by decide) sh_21 rfl rfl (Nat.le_of_ble_eq_true rfl) (fun r M3 h4 => ?_)
    obtain ⟨rfl, h4⟩ := h4
    have hf := li_fr_trans hf h4 (fun i (h : i = 21 ∨ (32 ≤ i ∧ i < 128)) => (show i = 21 ∨ (32 ≤ i ∧ i < 128) by omega))
    refine li_iload_n 1 dX11_held_11 rfl ?_
    exact li_iret dX11_held_12 rfl rfl ⟨⟨_, rfl⟩, hf⟩
set_option maxRecDepth 100000 in
set_option maxHeartbeats 4000000 in
theorem k_X11_utter {l : Launch} {Z : li_Z} (d : Nat) (hd : 6 ≤ d) (p1 : Int32) (p2 : Int32) (M0 : li_M) : li_Met l Z YX11_utter d [.ref (Z.2.2 0), .int p1, .int p2] M0 (li_SI (fun i => i = 13 ∨ i = 14 ∨ i = 146 ∨ i = 147 ∨ i = 15) M0) := by
  refine li_enter (by decide +kernel) (Nat.le_of_ble_eq_true rfl) ?_
  show li_T l Z YX11_utter d 0 [(0, .ref (Z.2.2 0)), (1, .int p1), (2, .int p2)] [] M0 _
  have hf : li_fr (fun i => i = 13 ∨ i = 14 ∨ i = 146 ∨ i = 147 ∨ i = 15) M0 M0 := li_fr_refl
  refine li_aload_n 0 dX11_utter_0 rfl ?_
  refine li_getr (k := 2) (N := 13) (T := TX11) (C0 := RX11) dX11_utter_1 (by decide) sh_0 rfl rfl (by decide) (by decide) li_in11 w_475 ?_
  refine li_iload_n 1 dX11_utter_4 rfl ?_
  refine li_callV (n := 1) (As := [.int p1]) dX11_utter_5 (k_X8_hasThing (d - 1) (by omega) p1 M0) (by omega) (Nat.le_of_ble_eq_true rfl) w_784 w_785 w_786 w_104 w_787 (by decide +kernel) rfl (by decide) sh_5 rfl rfl (Nat.le_of_ble_eq_true rfl) (fun r M2 h3 => ?_)
  obtain ⟨⟨x1, rfl, bx1⟩, h3⟩ := h3
  have hf := li_fr_trans hf h3 (fun i h => False.elim h)
  refine li_if_eq 20 dX11_utter_8 (by decide) (fun c4 => ?_) (fun c4 => ?_)
  · refine li_iconst (-1) dX11_utter_20 (by decide) ?_
    exact li_iret dX11_utter_21 rfl rfl ⟨⟨_, rfl⟩, hf⟩
  · refine li_iload_n 2 dX11_utter_11 rfl ?_
    refine li_iconst 0 dX11_utter_12 (by decide) ?_
    refine li_iconst 3 dX11_utter_13 (by decide) ?_
    refine li_callS (n := 3) (As := [.int p2, .int 0, .int 3]) dX11_utter_14 (k_X11_within (d - 1) (by omega) p2 0 3 M2) (by omega) (Nat.le_of_ble_eq_true rfl) w_762 w_639 w_101 w_640 (by decide +kernel) rfl rfl (Nat.le_of_ble_eq_true rfl) (fun r M6 h7 => ?_)
    obtain ⟨⟨x5, rfl, bx5, qx5⟩, h7⟩ := h7
    have hf := li_fr_trans hf h7 (fun i h => False.elim h)
    refine li_if_ne 22 dX11_utter_17 (by decide) (fun c8 => ?_) (fun c8 => ?_)
    · refine li_aload_n 0 dX11_utter_22 rfl ?_
      refine li_getr (k := 3) (N := 13) (T := TX11) (C0 := RX11) dX11_utter_23 (by decide) sh_0 rfl rfl (by decide) (by decide) li_in11 w_476 ?_
      refine li_geti (k := 1) (N := 11) (T := TX4) (C0 := RX4) dX11_utter_26 (by decide) sh_13 rfl rfl (by decide) li_in4 w_233 ?_
      refine li_top (fun x9 ex9 => ?_)
      refine li_iload_n 1 dX11_utter_29 rfl ?_
      refine li_callS (n := 2) (As := [.int x9, .int p1]) dX11_utter_30 (k_X11_holds (d - 1) (by omega) x9 p1 M6) (by omega) (Nat.le_of_ble_eq_true rfl) w_856 w_857 w_101 w_858 (by decide +kernel) rfl rfl (Nat.le_of_ble_eq_true rfl) (fun r M11 h12 => ?_)
      obtain ⟨⟨x10, rfl, bx10⟩, h12⟩ := h12
      have hf := li_fr_trans hf h12 (fun i h => False.elim h)
      refine li_if_eq 39 dX11_utter_33 (by decide) (fun c13 => ?_) (fun c13 => ?_)
      · refine li_aload_n 0 dX11_utter_39 rfl ?_
        refine li_getr (k := 3) (N := 13) (T := TX11) (C0 := RX11) dX11_utter_40 (by decide) sh_0 rfl rfl (by decide) (by decide) li_in11 w_476 ?_
        refine li_aload_n 0 dX11_utter_43 rfl ?_
        refine li_getr (k := 2) (N := 13) (T := TX11) (C0 := RX11) dX11_utter_44 (by decide) sh_0 rfl rfl (by decide) (by decide) li_in11 w_475 ?_
        refine li_iload_n 1 dX11_utter_47 rfl ?_
        refine li_callV (n := 2) (As := [.ref (Z.2.2 5), .int p1]) dX11_utter_48 (k_X4_isLate (d - 1) (by omega) p1 M11) (by omega) (Nat.le_of_ble_eq_true rfl) w_859 w_860 w_861 w_105 w_862 (by decide +kernel) rfl (by decide) sh_13 rfl rfl (Nat.le_of_ble_eq_true rfl) (fun r M15 h16 => ?_)
        obtain ⟨⟨x14, rfl, bx14⟩, h16⟩ := h16
        have hf := li_fr_trans hf h16 (fun i h => False.elim h)
        refine li_if_eq 57 dX11_utter_51 (by decide) (fun c17 => ?_) (fun c17 => ?_)
        · refine li_aload_n 0 dX11_utter_57 rfl ?_
          refine li_getr (k := 7) (N := 13) (T := TX11) (C0 := RX11) dX11_utter_58 (by decide) sh_0 rfl rfl (by decide) (by decide) li_in11 w_480 ?_
          refine li_iload_n 1 dX11_utter_61 rfl ?_
          refine li_iload_n 2 dX11_utter_62 rfl ?_
          refine li_callV (n := 2) (As := [.int p1, .int p2]) dX11_utter_63 (k_X0_isHeard (d - 1) (by omega) cob_148 p1 p2 M15) (by omega) (Nat.le_of_ble_eq_true rfl) w_788 w_789 w_790 w_109 w_791 (by decide +kernel) rfl (by decide) sh_148 rfl rfl (Nat.le_of_ble_eq_true rfl) (fun r M19 h20 => ?_)
          obtain ⟨⟨x18, rfl, bx18⟩, h20⟩ := h20
          have hf := li_fr_trans hf h20 (fun i h => False.elim h)
          refine li_if_ne 72 dX11_utter_66 (by decide) (fun c21 => ?_) (fun c21 => ?_)
          · refine li_aload_n 0 dX11_utter_72 rfl ?_
            refine li_getr (k := 7) (N := 13) (T := TX11) (C0 := RX11) dX11_utter_73 (by decide) sh_0 rfl rfl (by decide) (by decide) li_in11 w_480 ?_
            refine li_iload_n 1 dX11_utter_76 rfl ?_
            refine li_iload_n 2 dX11_utter_77 rfl ?_
            refine li_callV (n := 2) (As := [.int p1, .int p2]) dX11_utter_78 (k_X0_ofThing (d - 1) (by omega) cob_148 p1 p2 M19) (by omega) (Nat.le_of_ble_eq_true rfl) w_807 w_808 w_809 w_109 w_810 (by decide +kernel) rfl (by decide) sh_148 rfl rfl (Nat.le_of_ble_eq_true rfl) (fun r M23 h24 => ?_)
            obtain ⟨⟨x22, rfl⟩, h24⟩ := h24
            have hf := li_fr_trans hf h24 (fun i (h : i = 146 ∨ i = 147) => (show i = 13 ∨ i = 14 ∨ i = 146 ∨ i = 147 ∨ i = 15 by omega))
            refine li_istore_n [(3, .int x22), (0, .ref (Z.2.2 0)), (1, .int p1), (2, .int p2)] dX11_utter_81 (by decide) rfl ?_
            refine li_aload_n 1 dX11_utter_82 rfl ?_
            refine li_getr (k := 2) (N := 13) (T := TX11) (C0 := RX11) dX11_utter_83 (by decide) sh_0 rfl rfl (by decide) (by decide) li_in11 w_475 ?_
            refine li_getr (k := 4) (N := 9) (T := TX8) (C0 := RX8) dX11_utter_86 (by decide) sh_5 rfl rfl (by decide) (by decide) li_in8 w_190 ?_
            refine li_iload_n 2 dX11_utter_89 rfl ?_
            refine li_callS (n := 2) (As := [.ref (Z.2.2 8), .int p1]) dX11_utter_90 (k_X11_at (d - 1) (by omega) (by decide) sh_8 (by decide) p1 M23) (by omega) (Nat.le_of_ble_eq_true rfl) w_763 w_569 w_101 w_570 (by decide +kernel) rfl rfl (Nat.le_of_ble_eq_true rfl) (fun r M26 h27 => ?_)
            obtain ⟨⟨x25, rfl⟩, h27⟩ := h27
            have hf := li_fr_trans hf h27 (fun i h => False.elim h)
            refine li_istore [(4, .int x25), (3, .int x22), (0, .ref (Z.2.2 0)), (1, .int p1), (2, .int p2)] dX11_utter_93 (by decide) rfl ?_
            refine li_aload_n 2 dX11_utter_95 rfl ?_
            refine li_getr (k := 3) (N := 13) (T := TX11) (C0 := RX11) dX11_utter_96 (by decide) sh_0 rfl rfl (by decide) (by decide) li_in11 w_476 ?_
            refine li_getr (k := 4) (N := 11) (T := TX4) (C0 := RX4) dX11_utter_99 (by decide) sh_13 rfl rfl (by decide) (by decide) li_in4 w_243 ?_
            refine li_iload 0 dX11_utter_102 rfl ?_
            refine li_callS (n := 2) (As := [.ref (Z.2.2 14), .int x25]) dX11_utter_104 (k_X11_at (d - 1) (by omega) (by decide) sh_14 (by decide) x25 M26) (by omega) (Nat.le_of_ble_eq_true rfl) w_763 w_569 w_101 w_570 (by decide +kernel) rfl rfl (Nat.le_of_ble_eq_true rfl) (fun r M29 h30 => ?_)
            obtain ⟨⟨x28, rfl⟩, h30⟩ := h30
            have hf := li_fr_trans hf h30 (fun i h => False.elim h)
            refine li_iload_n 1 dX11_utter_107 rfl ?_
            refine li_icmp_ge 114 dX11_utter_108 (by decide) (fun c31 => ?_) (fun c31 => ?_)
            · refine li_aload_n 2 dX11_utter_114 rfl ?_
              refine li_getr (k := 3) (N := 13) (T := TX11) (C0 := RX11) dX11_utter_115 (by decide) sh_0 rfl rfl (by decide) (by decide) li_in11 w_476 ?_
              refine li_iload 0 dX11_utter_118 rfl ?_
              refine li_iload_n 1 dX11_utter_120 rfl ?_
              refine li_callV (n := 2) (As := [.int x25, .int x22]) dX11_utter_121 (k_X4_spend (d - 1) (by omega) x25 x22 M29) (by omega) (Nat.le_of_ble_eq_true rfl) w_863 w_864 w_865 w_105 w_866 (by decide +kernel) rfl (by decide) sh_13 rfl rfl (Nat.le_of_ble_eq_true rfl) (fun r M33 h34 => ?_)
              obtain ⟨rfl, h34⟩ := h34
              have hf := li_fr_trans hf h34 (fun i (h : i = 14 ∨ i = 15) => (show i = 13 ∨ i = 14 ∨ i = 146 ∨ i = 147 ∨ i = 15 by omega))
              refine li_aload_n 2 dX11_utter_124 rfl ?_
              refine li_getr (k := 3) (N := 13) (T := TX11) (C0 := RX11) dX11_utter_125 (by decide) sh_0 rfl rfl (by decide) (by decide) li_in11 w_476 ?_
              refine li_dup dX11_utter_128 rfl ?_
              refine li_geti (k := 1) (N := 11) (T := TX4) (C0 := RX4) dX11_utter_129 (by decide) sh_13 rfl rfl (by decide) li_in4 w_233 ?_
              refine li_top (fun x35 ex35 => ?_)
              refine li_iconst 1 dX11_utter_132 (by decide) ?_
              refine li_iload_n 3 dX11_utter_133 rfl ?_
              refine li_ishl dX11_utter_134 ?_
              refine li_top (fun x36 ex36 => ?_)
              refine li_ior dX11_utter_135 ?_
              refine li_top (fun x37 ex37 => ?_)
              refine li_puti (k := 1) (N := 11) (T := TX4) (C0 := RX4) dX11_utter_136 (by decide) sh_13 rfl rfl (by decide) li_in4 tyX4_ok nmX4 rfl rfl rfl rfl w_233 ?_
              refine li_nm (fun M38 eM38 => ?_)
              have hf := li_fr_ui hf (show 13 = 13 ∨ 13 = 14 ∨ 13 = 146 ∨ 13 = 147 ∨ 13 = 15 by omega) eM38
              refine li_iload_n 1 dX11_utter_139 rfl ?_
              exact li_iret dX11_utter_140 rfl rfl ⟨⟨_, rfl⟩, hf⟩
            · refine li_bipush (-5) dX11_utter_111 (by decide) ?_
              exact li_iret dX11_utter_113 rfl rfl ⟨⟨_, rfl⟩, hf⟩
          · refine li_bipush (-4) dX11_utter_69 (by decide) ?_
            exact li_iret dX11_utter_71 rfl rfl ⟨⟨_, rfl⟩, hf⟩
        · refine li_bipush (-3) dX11_utter_54 (by decide) ?_
          exact li_iret dX11_utter_56 rfl rfl ⟨⟨_, rfl⟩, hf⟩
      · refine li_bipush (-2) dX11_utter_36 (by decide) ?_
        exact li_iret dX11_utter_38 rfl rfl ⟨⟨_, rfl⟩, hf⟩
    · refine li_iconst (-1) dX11_utter_20 (by decide) ?_
      exact li_iret dX11_utter_21 rfl rfl ⟨⟨_, rfl⟩, hf⟩
set_option maxRecDepth 100000 in
set_option maxHeartbeats 4000000 in
theorem k_X11_handOver {l : Launch} {Z : li_Z} (d : Nat) (hd : 3 ≤ d) (p1 : Int32) (p2 : Int32) (p3 : Int32) (M0 : li_M) : li_Met l Z YX11_handOver d [.ref (Z.2.2 0), .int p1, .int p2, .int p3] M0 (li_SI (fun i => i = 14) M0) := by
  refine li_enter (by decide +kernel) (Nat.le_of_ble_eq_true rfl) ?_
  show li_T l Z YX11_handOver d 0 [(0, .ref (Z.2.2 0)), (1, .int p1), (2, .int p2), (3, .int p3)] [] M0 _
  have hf : li_fr (fun i => i = 14) M0 M0 := li_fr_refl
  refine li_aload_n 0 dX11_handOver_0 rfl ?_
  refine li_getr (k := 2) (N := 13) (T := TX11) (C0 := RX11) dX11_handOver_1 (by decide) sh_0 rfl rfl (by decide) (by decide) li_in11 w_475 ?_
  refine li_iload_n 1 dX11_handOver_4 rfl ?_
  refine li_iload_n 2 dX11_handOver_5 rfl ?_
  refine li_callV (n := 2) (As := [.int p1, .int p2]) dX11_handOver_6 (k_X8_areTwo (d - 1) (by omega) p1 p2 M0) (by omega) (Nat.le_of_ble_eq_true rfl) w_884 w_885 w_886 w_104 w_887 (by decide +kernel) rfl (by decide) sh_5 rfl rfl (Nat.le_of_ble_eq_true rfl) (fun r M2 h3 => ?_)
  obtain ⟨⟨x1, rfl, bx1⟩, h3⟩ := h3
  have hf := li_fr_trans hf h3 (fun i h => False.elim h)
  refine li_if_eq 23 dX11_handOver_9 (by decide) (fun c4 => ?_) (fun c4 => ?_)
  · refine li_iconst (-1) dX11_handOver_23 (by decide) ?_
    exact li_iret dX11_handOver_24 rfl rfl ⟨⟨_, rfl⟩, hf⟩
  · refine li_iload_n 3 dX11_handOver_12 rfl ?_
    refine li_iconst 1 dX11_handOver_13 (by decide) ?_
    refine li_sipush 9999 dX11_handOver_14 (by decide) ?_
    refine li_callS (n := 3) (As := [.int p3, .int 1, .int 9999]) dX11_handOver_17 (k_X11_within (d - 1) (by omega) p3 1 9999 M2) (by omega) (Nat.le_of_ble_eq_true rfl) w_762 w_639 w_101 w_640 (by decide +kernel) rfl rfl (Nat.le_of_ble_eq_true rfl) (fun r M6 h7 => ?_)
    obtain ⟨⟨x5, rfl, bx5, qx5⟩, h7⟩ := h7
    have hf := li_fr_trans hf h7 (fun i h => False.elim h)
    refine li_if_ne 25 dX11_handOver_20 (by decide) (fun c8 => ?_) (fun c8 => ?_)
    · refine li_aload_n 0 dX11_handOver_25 rfl ?_
      refine li_getr (k := 3) (N := 13) (T := TX11) (C0 := RX11) dX11_handOver_26 (by decide) sh_0 rfl rfl (by decide) (by decide) li_in11 w_476 ?_
      refine li_getr (k := 4) (N := 11) (T := TX4) (C0 := RX4) dX11_handOver_29 (by decide) sh_13 rfl rfl (by decide) (by decide) li_in4 w_243 ?_
      refine li_iload_n 1 dX11_handOver_32 rfl ?_
      refine li_callS (n := 2) (As := [.ref (Z.2.2 14), .int p1]) dX11_handOver_33 (k_X11_at (d - 1) (by omega) (by decide) sh_14 (by decide) p1 M6) (by omega) (Nat.le_of_ble_eq_true rfl) w_763 w_569 w_101 w_570 (by decide +kernel) rfl rfl (Nat.le_of_ble_eq_true rfl) (fun r M10 h11 => ?_)
      obtain ⟨⟨x9, rfl⟩, h11⟩ := h11
      have hf := li_fr_trans hf h11 (fun i h => False.elim h)
      refine li_iload_n 3 dX11_handOver_36 rfl ?_
      refine li_icmp_ge 43 dX11_handOver_37 (by decide) (fun c12 => ?_) (fun c12 => ?_)
      · refine li_aload_n 0 dX11_handOver_43 rfl ?_
        refine li_getr (k := 3) (N := 13) (T := TX11) (C0 := RX11) dX11_handOver_44 (by decide) sh_0 rfl rfl (by decide) (by decide) li_in11 w_476 ?_
        refine li_iload_n 1 dX11_handOver_47 rfl ?_
        refine li_iload_n 2 dX11_handOver_48 rfl ?_
        refine li_iload_n 3 dX11_handOver_49 rfl ?_
        refine li_callV (n := 3) (As := [.int p1, .int p2, .int p3]) dX11_handOver_50 (k_X4_carry (d - 1) (by omega) p1 p2 p3 M10) (by omega) (Nat.le_of_ble_eq_true rfl) w_889 w_890 w_891 w_105 w_892 (by decide +kernel) rfl (by decide) sh_13 rfl rfl (Nat.le_of_ble_eq_true rfl) (fun r M14 h15 => ?_)
        obtain ⟨rfl, h15⟩ := h15
        have hf := li_fr_trans hf h15 (fun i (h : i = 14) => (show i = 14 by omega))
        refine li_aload_n 0 dX11_handOver_53 rfl ?_
        refine li_getr (k := 3) (N := 13) (T := TX11) (C0 := RX11) dX11_handOver_54 (by decide) sh_0 rfl rfl (by decide) (by decide) li_in11 w_476 ?_
        refine li_getr (k := 4) (N := 11) (T := TX4) (C0 := RX4) dX11_handOver_57 (by decide) sh_13 rfl rfl (by decide) (by decide) li_in4 w_243 ?_
        refine li_iload_n 2 dX11_handOver_60 rfl ?_
        refine li_callS (n := 2) (As := [.ref (Z.2.2 14), .int p2]) dX11_handOver_61 (k_X11_at (d - 1) (by omega) (by decide) sh_14 (by decide) p2 M14) (by omega) (Nat.le_of_ble_eq_true rfl) w_763 w_569 w_101 w_570 (by decide +kernel) rfl rfl (Nat.le_of_ble_eq_true rfl) (fun r M17 h18 => ?_)
        obtain ⟨⟨x16, rfl⟩, h18⟩ := h18
        have hf := li_fr_trans hf h18 (fun i h => False.elim h)
        exact li_iret dX11_handOver_64 rfl rfl ⟨⟨_, rfl⟩, hf⟩
      · refine li_bipush (-2) dX11_handOver_40 (by decide) ?_
        exact li_iret dX11_handOver_42 rfl rfl ⟨⟨_, rfl⟩, hf⟩
    · refine li_iconst (-1) dX11_handOver_23 (by decide) ?_
      exact li_iret dX11_handOver_24 rfl rfl ⟨⟨_, rfl⟩, hf⟩
set_option maxRecDepth 100000 in
set_option maxHeartbeats 4000000 in
theorem k_X11_passDays {l : Launch} {Z : li_Z} (d : Nat) (hd : 5 ≤ d) (p1 : Int32) (M0 : li_M) : li_Met l Z YX11_passDays d [.ref (Z.2.2 0), .int p1] M0 (li_SV (fun i => i = 13 ∨ i = 14 ∨ i = 15 ∨ i = 16 ∨ i = 20) M0) := by
  refine li_enter (by decide +kernel) (Nat.le_of_ble_eq_true rfl) ?_
  show li_T l Z YX11_passDays d 0 [(0, .ref (Z.2.2 0)), (1, .int p1)] [] M0 _
  have hf : li_fr (fun i => i = 13 ∨ i = 14 ∨ i = 15 ∨ i = 16 ∨ i = 20) M0 M0 := li_fr_refl
  refine li_iconst 0 dX11_passDays_0 (by decide) ?_
  refine li_istore_n [(2, .int 0), (0, .ref (Z.2.2 0)), (1, .int p1)] dX11_passDays_1 (by decide) rfl ?_
  have L2 : ∀ (n : Nat) (x1 : Int32) (M2 : li_M), (2147483647 - (x1 : Int32).toInt).toNat < n → li_fr (fun i => i = 13 ∨ i = 14 ∨ i = 15 ∨ i = 16 ∨ i = 20) M0 M2 → li_T l Z YX11_passDays d 2 [(2, .int x1), (0, .ref (Z.2.2 0)), (1, .int p1)] [] M2 (li_SV (fun i => i = 13 ∨ i = 14 ∨ i = 15 ∨ i = 16 ∨ i = 20) M0) := by
    intro n
    induction n with
    | zero => intro x1 M2 hn; exact absurd hn (Nat.not_lt_zero _)
    | succ n ih2 =>
      intro x1 M2 hn hf
      refine li_iload_n 0 dX11_passDays_2 rfl ?_
      refine li_iload_n 2 dX11_passDays_3 rfl ?_
      refine li_icmp_ge 24 dX11_passDays_4 (by decide) (fun c3 => ?_) (fun c3 => ?_)
      · exact li_vret dX11_passDays_24 rfl ⟨rfl, hf⟩
      · refine li_aload_n 1 dX11_passDays_7 rfl ?_
        refine li_getr (k := 3) (N := 13) (T := TX11) (C0 := RX11) dX11_passDays_8 (by decide) sh_0 rfl rfl (by decide) (by decide) li_in11 w_476 ?_
        refine li_aload_n 1 dX11_passDays_11 rfl ?_
        refine li_getr (k := 2) (N := 13) (T := TX11) (C0 := RX11) dX11_passDays_12 (by decide) sh_0 rfl rfl (by decide) (by decide) li_in11 w_475 ?_
        refine li_callV (n := 1) (As := [.ref (Z.2.2 5)]) dX11_passDays_15 (k_X4_passDay (d - 1) (by omega)  M2) (by omega) (Nat.le_of_ble_eq_true rfl) w_925 w_926 w_927 w_105 w_928 (by decide +kernel) rfl (by decide) sh_13 rfl rfl (Nat.le_of_ble_eq_true rfl) (fun r M5 h6 => ?_)
        obtain ⟨rfl, h6⟩ := h6
        have hf := li_fr_trans hf h6 (fun i (h : i = 13 ∨ i = 14 ∨ i = 15 ∨ i = 16 ∨ i = 20) => (show i = 13 ∨ i = 14 ∨ i = 15 ∨ i = 16 ∨ i = 20 by omega))
        obtain ⟨x7, ex7⟩ : ∃ y : Int32, y = x1 + 1 := ⟨_, rfl⟩
        refine li_iinc 0 [(2, .int x7), (0, .ref (Z.2.2 0)), (1, .int p1)] x7 dX11_passDays_18 rfl (by rw [ex7]; rfl) (by decide) rfl ?_
        refine li_goto 2 dX11_passDays_21 (by decide) ?_
        refine li_pick [0, 1, 2] [(2, .int x7), (0, .ref (Z.2.2 0)), (1, .int p1)] rfl ?_
        exact ih2 x7 M5 (by have h9 := li_up (li_gt c3); rw [← ex7] at h9; omega) hf
  exact L2 _ 0 M0 (Nat.lt_succ_self _) hf
set_option maxRecDepth 100000 in
set_option maxHeartbeats 4000000 in
theorem k_X11_isSpeech {l : Launch} {Z : li_Z} (d : Nat) (hd : 2 ≤ d) (p1 : Int32) (M0 : li_M) : li_Met l Z YX11_isSpeech d [.ref (Z.2.2 0), .int p1] M0 (li_SZ (fun i => False) M0) := by
  refine li_enter (by decide +kernel) (Nat.le_of_ble_eq_true rfl) ?_
  show li_T l Z YX11_isSpeech d 0 [(0, .ref (Z.2.2 0)), (1, .int p1)] [] M0 _
  have hf : li_fr (fun i => False) M0 M0 := li_fr_refl
  refine li_aload_n 0 dX11_isSpeech_0 rfl ?_
  refine li_getr (k := 12) (N := 13) (T := TX11) (C0 := RX11) dX11_isSpeech_1 (by decide) sh_0 rfl rfl (by decide) (by decide) li_in11 w_485 ?_
  refine li_iload_n 1 dX11_isSpeech_4 rfl ?_
  refine li_iconst 4 dX11_isSpeech_5 (by decide) ?_
  refine li_imul dX11_isSpeech_6 ?_
  refine li_top (fun x1 ex1 => ?_)
  refine li_callS (n := 2) (As := [.ref (Z.2.2 174), .int x1]) dX11_isSpeech_7 (k_X11_at (d - 1) (by omega) (by decide) sh_174 (by decide) x1 M0) (by omega) (Nat.le_of_ble_eq_true rfl) w_763 w_569 w_101 w_570 (by decide +kernel) rfl rfl (Nat.le_of_ble_eq_true rfl) (fun r M3 h4 => ?_)
  obtain ⟨⟨x2, rfl⟩, h4⟩ := h4
  have hf := li_fr_trans hf h4 (fun i h => False.elim h)
  refine li_istore_n [(2, .int x2), (0, .ref (Z.2.2 0)), (1, .int p1)] dX11_isSpeech_10 (by decide) rfl ?_
  refine li_iload_n 0 dX11_isSpeech_11 rfl ?_
  refine li_bipush 115 dX11_isSpeech_12 (by decide) ?_
  refine li_icmp_eq 23 dX11_isSpeech_14 (by decide) (fun c5 => ?_) (fun c5 => ?_)
  · refine li_iconst 1 dX11_isSpeech_23 (by decide) ?_
    refine li_goto 28 dX11_isSpeech_24 (by decide) ?_
    exact li_iret dX11_isSpeech_28 rfl (li_nz (Or.inr rfl)) ⟨⟨_, rfl, Or.inr rfl⟩, hf⟩
  · refine li_iload_n 0 dX11_isSpeech_17 rfl ?_
    refine li_bipush 98 dX11_isSpeech_18 (by decide) ?_
    refine li_icmp_ne 27 dX11_isSpeech_20 (by decide) (fun c6 => ?_) (fun c6 => ?_)
    · refine li_iconst 0 dX11_isSpeech_27 (by decide) ?_
      exact li_iret dX11_isSpeech_28 rfl (li_nz (Or.inl rfl)) ⟨⟨_, rfl, Or.inl rfl⟩, hf⟩
    · refine li_iconst 1 dX11_isSpeech_23 (by decide) ?_
      refine li_goto 28 dX11_isSpeech_24 (by decide) ?_
      exact li_iret dX11_isSpeech_28 rfl (li_nz (Or.inr rfl)) ⟨⟨_, rfl, Or.inr rfl⟩, hf⟩
set_option maxRecDepth 100000 in
set_option maxHeartbeats 4000000 in
theorem k_X11_doAct {l : Launch} {Z : li_Z} (d : Nat) (hd : 7 ≤ d) (p1 : Int32) (M0 : li_M) : li_Met l Z YX11_doAct d [.ref (Z.2.2 0), .int p1] M0 (li_SI (fun i => i = 13 ∨ i = 14 ∨ i = 146 ∨ i = 147 ∨ i = 15 ∨ i = 16 ∨ i = 20) M0) := by
  refine li_enter (by decide +kernel) (Nat.le_of_ble_eq_true rfl) ?_
  show li_T l Z YX11_doAct d 0 [(0, .ref (Z.2.2 0)), (1, .int p1)] [] M0 _
  have hf : li_fr (fun i => i = 13 ∨ i = 14 ∨ i = 146 ∨ i = 147 ∨ i = 15 ∨ i = 16 ∨ i = 20) M0 M0 := li_fr_refl
  refine li_iload_n 1 dX11_doAct_0 rfl ?_
  refine li_iconst 4 dX11_doAct_1 (by decide) ?_
  refine li_imul dX11_doAct_2 ?_
  refine li_top (fun x1 ex1 => ?_)
  refine li_istore_n [(2, .int x1), (0, .ref (Z.2.2 0)), (1, .int p1)] dX11_doAct_3 (by decide) rfl ?_
  refine li_aload_n 1 dX11_doAct_4 rfl ?_
  refine li_getr (k := 12) (N := 13) (T := TX11) (C0 := RX11) dX11_doAct_5 (by decide) sh_0 rfl rfl (by decide) (by decide) li_in11 w_485 ?_
  refine li_iload_n 0 dX11_doAct_8 rfl ?_
  refine li_iconst 1 dX11_doAct_9 (by decide) ?_
  refine li_iadd dX11_doAct_10 ?_
  refine li_top (fun x2 ex2 => ?_)
  refine li_callS (n := 2) (As := [.ref (Z.2.2 174), .int x2]) dX11_doAct_11 (k_X11_at (d - 1) (by omega) (by decide) sh_174 (by decide) x2 M0) (by omega) (Nat.le_of_ble_eq_true rfl) w_763 w_569 w_101 w_570 (by decide +kernel) rfl rfl (Nat.le_of_ble_eq_true rfl) (fun r M4 h5 => ?_)
  obtain ⟨⟨x3, rfl⟩, h5⟩ := h5
  have hf := li_fr_trans hf h5 (fun i h => False.elim h)
  refine li_istore_n [(3, .int x3), (2, .int x1), (0, .ref (Z.2.2 0)), (1, .int p1)] dX11_doAct_14 (by decide) rfl ?_
  refine li_aload_n 2 dX11_doAct_15 rfl ?_
  refine li_getr (k := 12) (N := 13) (T := TX11) (C0 := RX11) dX11_doAct_16 (by decide) sh_0 rfl rfl (by decide) (by decide) li_in11 w_485 ?_
  refine li_iload_n 1 dX11_doAct_19 rfl ?_
  refine li_iconst 2 dX11_doAct_20 (by decide) ?_
  refine li_iadd dX11_doAct_21 ?_
  refine li_top (fun x6 ex6 => ?_)
  refine li_callS (n := 2) (As := [.ref (Z.2.2 174), .int x6]) dX11_doAct_22 (k_X11_at (d - 1) (by omega) (by decide) sh_174 (by decide) x6 M4) (by omega) (Nat.le_of_ble_eq_true rfl) w_763 w_569 w_101 w_570 (by decide +kernel) rfl rfl (Nat.le_of_ble_eq_true rfl) (fun r M8 h9 => ?_)
  obtain ⟨⟨x7, rfl⟩, h9⟩ := h9
  have hf := li_fr_trans hf h9 (fun i h => False.elim h)
  refine li_istore [(4, .int x7), (3, .int x3), (2, .int x1), (0, .ref (Z.2.2 0)), (1, .int p1)] dX11_doAct_25 (by decide) rfl ?_
  refine li_aload_n 3 dX11_doAct_27 rfl ?_
  refine li_getr (k := 12) (N := 13) (T := TX11) (C0 := RX11) dX11_doAct_28 (by decide) sh_0 rfl rfl (by decide) (by decide) li_in11 w_485 ?_
  refine li_iload_n 2 dX11_doAct_31 rfl ?_
  refine li_iconst 3 dX11_doAct_32 (by decide) ?_
  refine li_iadd dX11_doAct_33 ?_
  refine li_top (fun x10 ex10 => ?_)
  refine li_callS (n := 2) (As := [.ref (Z.2.2 174), .int x10]) dX11_doAct_34 (k_X11_at (d - 1) (by omega) (by decide) sh_174 (by decide) x10 M8) (by omega) (Nat.le_of_ble_eq_true rfl) w_763 w_569 w_101 w_570 (by decide +kernel) rfl rfl (Nat.le_of_ble_eq_true rfl) (fun r M12 h13 => ?_)
  obtain ⟨⟨x11, rfl⟩, h13⟩ := h13
  have hf := li_fr_trans hf h13 (fun i h => False.elim h)
  refine li_istore [(5, .int x11), (4, .int x7), (3, .int x3), (2, .int x1), (0, .ref (Z.2.2 0)), (1, .int p1)] dX11_doAct_37 (by decide) rfl ?_
  refine li_aload_n 4 dX11_doAct_39 rfl ?_
  refine li_getr (k := 12) (N := 13) (T := TX11) (C0 := RX11) dX11_doAct_40 (by decide) sh_0 rfl rfl (by decide) (by decide) li_in11 w_485 ?_
  refine li_iload_n 3 dX11_doAct_43 rfl ?_
  refine li_callS (n := 2) (As := [.ref (Z.2.2 174), .int x1]) dX11_doAct_44 (k_X11_at (d - 1) (by omega) (by decide) sh_174 (by decide) x1 M12) (by omega) (Nat.le_of_ble_eq_true rfl) w_763 w_569 w_101 w_570 (by decide +kernel) rfl rfl (Nat.le_of_ble_eq_true rfl) (fun r M15 h16 => ?_)
  obtain ⟨⟨x14, rfl⟩, h16⟩ := h16
  have hf := li_fr_trans hf h16 (fun i h => False.elim h)
  by_cases c17_0 : (x14 : Int32).toInt = 98
  · refine li_lookup (off := 41) 88 dX11_doAct_47 rfl (by rw [c17_0]; rfl) (by decide) ?_
    refine li_aload_n 4 dX11_doAct_88 rfl ?_
    refine li_iload_n 2 dX11_doAct_89 rfl ?_
    refine li_aload_n 4 dX11_doAct_90 rfl ?_
    refine li_getr (k := 7) (N := 13) (T := TX11) (C0 := RX11) dX11_doAct_91 (by decide) sh_0 rfl rfl (by decide) (by decide) li_in11 w_480 ?_
    refine li_iload_n 2 dX11_doAct_94 rfl ?_
    refine li_callV (n := 1) (As := [.int x3]) dX11_doAct_95 (k_X0_leastWay (d - 1) (by omega) cob_148 x3 M15) (by omega) (Nat.le_of_ble_eq_true rfl) w_964 w_965 w_966 w_109 w_967 (by decide +kernel) rfl (by decide) sh_148 rfl rfl (Nat.le_of_ble_eq_true rfl) (fun r M19 h20 => ?_)
    obtain ⟨⟨x18, rfl⟩, h20⟩ := h20
    have hf := li_fr_trans hf h20 (fun i (h : i = 146 ∨ i = 147) => (show i = 13 ∨ i = 14 ∨ i = 146 ∨ i = 147 ∨ i = 15 ∨ i = 16 ∨ i = 20 by omega))
    refine li_callV (n := 2) (As := [.int x3, .int x18]) dX11_doAct_98 (k_X11_utter (d - 1) (by omega) x3 x18 M19) (by omega) (Nat.le_of_ble_eq_true rfl) w_852 w_854 w_15 w_101 w_855 (by decide +kernel) rfl (by decide) sh_0 rfl rfl (Nat.le_of_ble_eq_true rfl) (fun r M22 h23 => ?_)
    obtain ⟨⟨x21, rfl⟩, h23⟩ := h23
    have hf := li_fr_trans hf h23 (fun i (h : i = 13 ∨ i = 14 ∨ i = 146 ∨ i = 147 ∨ i = 15) => (show i = 13 ∨ i = 14 ∨ i = 146 ∨ i = 147 ∨ i = 15 ∨ i = 16 ∨ i = 20 by omega))
    exact li_iret dX11_doAct_101 rfl rfl ⟨⟨_, rfl⟩, hf⟩
  by_cases c17_1 : (x14 : Int32).toInt = 103
  · refine li_lookup (off := 55) 102 dX11_doAct_47 rfl (by rw [c17_1]; rfl) (by decide) ?_
    refine li_aload_n 4 dX11_doAct_102 rfl ?_
    refine li_iload_n 2 dX11_doAct_103 rfl ?_
    refine li_iload 1 dX11_doAct_104 rfl ?_
    refine li_iload 0 dX11_doAct_106 rfl ?_
    refine li_callV (n := 3) (As := [.int x3, .int x7, .int x11]) dX11_doAct_108 (k_X11_handOver (d - 1) (by omega) x3 x7 x11 M15) (by omega) (Nat.le_of_ble_eq_true rfl) w_880 w_882 w_17 w_101 w_883 (by decide +kernel) rfl (by decide) sh_0 rfl rfl (Nat.le_of_ble_eq_true rfl) (fun r M25 h26 => ?_)
    obtain ⟨⟨x24, rfl⟩, h26⟩ := h26
    have hf := li_fr_trans hf h26 (fun i (h : i = 14) => (show i = 13 ∨ i = 14 ∨ i = 146 ∨ i = 147 ∨ i = 15 ∨ i = 16 ∨ i = 20 by omega))
    exact li_iret dX11_doAct_111 rfl rfl ⟨⟨_, rfl⟩, hf⟩
  by_cases c17_2 : (x14 : Int32).toInt = 115
  · refine li_lookup (off := 33) 80 dX11_doAct_47 rfl (by rw [c17_2]; rfl) (by decide) ?_
    refine li_aload_n 4 dX11_doAct_80 rfl ?_
    refine li_iload_n 2 dX11_doAct_81 rfl ?_
    refine li_iload 1 dX11_doAct_82 rfl ?_
    refine li_callV (n := 2) (As := [.int x3, .int x7]) dX11_doAct_84 (k_X11_utter (d - 1) (by omega) x3 x7 M15) (by omega) (Nat.le_of_ble_eq_true rfl) w_852 w_854 w_15 w_101 w_855 (by decide +kernel) rfl (by decide) sh_0 rfl rfl (Nat.le_of_ble_eq_true rfl) (fun r M28 h29 => ?_)
    obtain ⟨⟨x27, rfl⟩, h29⟩ := h29
    have hf := li_fr_trans hf h29 (fun i (h : i = 13 ∨ i = 14 ∨ i = 146 ∨ i = 147 ∨ i = 15) => (show i = 13 ∨ i = 14 ∨ i = 146 ∨ i = 147 ∨ i = 15 ∨ i = 16 ∨ i = 20 by omega))
    exact li_iret dX11_doAct_87 rfl rfl ⟨⟨_, rfl⟩, hf⟩
  refine li_lookup (off := 65) 112 dX11_doAct_47 rfl (by simp [Op.lookupswitch.offset, c17_0, Ne.symm c17_0, c17_1, Ne.symm c17_1, c17_2, Ne.symm c17_2]) (by decide) ?_
  refine li_aload_n 4 dX11_doAct_112 rfl ?_
  refine li_iload 0 dX11_doAct_113 rfl ?_
  refine li_callV (n := 1) (As := [.int x11]) dX11_doAct_115 (k_X11_passDays (d - 1) (by omega) x11 M15) (by omega) (Nat.le_of_ble_eq_true rfl) w_921 w_923 w_18 w_101 w_924 (by decide +kernel) rfl (by decide) sh_0 rfl rfl (Nat.le_of_ble_eq_true rfl) (fun r M31 h32 => ?_)
  obtain ⟨rfl, h32⟩ := h32
  have hf := li_fr_trans hf h32 (fun i (h : i = 13 ∨ i = 14 ∨ i = 15 ∨ i = 16 ∨ i = 20) => (show i = 13 ∨ i = 14 ∨ i = 146 ∨ i = 147 ∨ i = 15 ∨ i = 16 ∨ i = 20 by omega))
  refine li_aload_n 4 dX11_doAct_118 rfl ?_
  refine li_getr (k := 3) (N := 13) (T := TX11) (C0 := RX11) dX11_doAct_119 (by decide) sh_0 rfl rfl (by decide) (by decide) li_in11 w_476 ?_
  refine li_geti (k := 0) (N := 11) (T := TX4) (C0 := RX4) dX11_doAct_122 (by decide) sh_13 rfl rfl (by decide) li_in4 w_231 ?_
  refine li_top (fun x33 ex33 => ?_)
  exact li_iret dX11_doAct_125 rfl rfl ⟨⟨_, rfl⟩, hf⟩
set_option maxRecDepth 100000 in
set_option maxHeartbeats 4000000 in
theorem k_X11_writeAct {l : Launch} {Z : li_Z} (d : Nat) (hd : 2 ≤ d) (p1 : Int32) (p2 : Int32) (p3 : Int32) (p4 : Int32) (p5 : Int32) (M0 : li_M) : li_Met l Z YX11_writeAct d [.ref (Z.2.2 0), .int p1, .int p2, .int p3, .int p4, .int p5] M0 (li_SV (fun i => i = 174) M0) := by
  refine li_enter (by decide +kernel) (Nat.le_of_ble_eq_true rfl) ?_
  show li_T l Z YX11_writeAct d 0 [(0, .ref (Z.2.2 0)), (1, .int p1), (2, .int p2), (3, .int p3), (4, .int p4), (5, .int p5)] [] M0 _
  have hf : li_fr (fun i => i = 174) M0 M0 := li_fr_refl
  refine li_iload_n 1 dX11_writeAct_0 rfl ?_
  refine li_iconst 4 dX11_writeAct_1 (by decide) ?_
  refine li_imul dX11_writeAct_2 ?_
  refine li_top (fun x1 ex1 => ?_)
  refine li_istore [(6, .int x1), (0, .ref (Z.2.2 0)), (1, .int p1), (2, .int p2), (3, .int p3), (4, .int p4), (5, .int p5)] dX11_writeAct_3 (by decide) rfl ?_
  refine li_aload_n 1 dX11_writeAct_5 rfl ?_
  refine li_getr (k := 12) (N := 13) (T := TX11) (C0 := RX11) dX11_writeAct_6 (by decide) sh_0 rfl rfl (by decide) (by decide) li_in11 w_485 ?_
  refine li_iload 0 dX11_writeAct_9 rfl ?_
  refine li_iload_n 3 dX11_writeAct_11 rfl ?_
  refine li_callS (n := 3) (As := [.ref (Z.2.2 174), .int x1, .int p2]) dX11_writeAct_12 (k_X11_put (d - 1) (by omega) (by decide) sh_174 (by decide) x1 p2 M0) (by omega) (Nat.le_of_ble_eq_true rfl) w_710 w_522 w_101 w_523 (by decide +kernel) rfl rfl (Nat.le_of_ble_eq_true rfl) (fun r M3 h4 => ?_)
  obtain ⟨rfl, h4⟩ := h4
  have hf := li_fr_trans hf h4 (fun i (h : i = 174) => (show i = 174 by omega))
  refine li_aload_n 1 dX11_writeAct_15 rfl ?_
  refine li_getr (k := 12) (N := 13) (T := TX11) (C0 := RX11) dX11_writeAct_16 (by decide) sh_0 rfl rfl (by decide) (by decide) li_in11 w_485 ?_
  refine li_iload 0 dX11_writeAct_19 rfl ?_
  refine li_iconst 1 dX11_writeAct_21 (by decide) ?_
  refine li_iadd dX11_writeAct_22 ?_
  refine li_top (fun x5 ex5 => ?_)
  refine li_iload_n 4 dX11_writeAct_23 rfl ?_
  refine li_callS (n := 3) (As := [.ref (Z.2.2 174), .int x5, .int p3]) dX11_writeAct_24 (k_X11_put (d - 1) (by omega) (by decide) sh_174 (by decide) x5 p3 M3) (by omega) (Nat.le_of_ble_eq_true rfl) w_710 w_522 w_101 w_523 (by decide +kernel) rfl rfl (Nat.le_of_ble_eq_true rfl) (fun r M7 h8 => ?_)
  obtain ⟨rfl, h8⟩ := h8
  have hf := li_fr_trans hf h8 (fun i (h : i = 174) => (show i = 174 by omega))
  refine li_aload_n 1 dX11_writeAct_27 rfl ?_
  refine li_getr (k := 12) (N := 13) (T := TX11) (C0 := RX11) dX11_writeAct_28 (by decide) sh_0 rfl rfl (by decide) (by decide) li_in11 w_485 ?_
  refine li_iload 0 dX11_writeAct_31 rfl ?_
  refine li_iconst 2 dX11_writeAct_33 (by decide) ?_
  refine li_iadd dX11_writeAct_34 ?_
  refine li_top (fun x9 ex9 => ?_)
  refine li_iload 5 dX11_writeAct_35 rfl ?_
  refine li_callS (n := 3) (As := [.ref (Z.2.2 174), .int x9, .int p4]) dX11_writeAct_37 (k_X11_put (d - 1) (by omega) (by decide) sh_174 (by decide) x9 p4 M7) (by omega) (Nat.le_of_ble_eq_true rfl) w_710 w_522 w_101 w_523 (by decide +kernel) rfl rfl (Nat.le_of_ble_eq_true rfl) (fun r M11 h12 => ?_)
  obtain ⟨rfl, h12⟩ := h12
  have hf := li_fr_trans hf h12 (fun i (h : i = 174) => (show i = 174 by omega))
  refine li_aload_n 1 dX11_writeAct_40 rfl ?_
  refine li_getr (k := 12) (N := 13) (T := TX11) (C0 := RX11) dX11_writeAct_41 (by decide) sh_0 rfl rfl (by decide) (by decide) li_in11 w_485 ?_
  refine li_iload 0 dX11_writeAct_44 rfl ?_
  refine li_iconst 3 dX11_writeAct_46 (by decide) ?_
  refine li_iadd dX11_writeAct_47 ?_
  refine li_top (fun x13 ex13 => ?_)
  refine li_iload 6 dX11_writeAct_48 rfl ?_
  refine li_callS (n := 3) (As := [.ref (Z.2.2 174), .int x13, .int p5]) dX11_writeAct_50 (k_X11_put (d - 1) (by omega) (by decide) sh_174 (by decide) x13 p5 M11) (by omega) (Nat.le_of_ble_eq_true rfl) w_710 w_522 w_101 w_523 (by decide +kernel) rfl rfl (Nat.le_of_ble_eq_true rfl) (fun r M15 h16 => ?_)
  obtain ⟨rfl, h16⟩ := h16
  have hf := li_fr_trans hf h16 (fun i (h : i = 174) => (show i = 174 by omega))
  exact li_vret dX11_writeAct_53 rfl ⟨rfl, hf⟩
set_option maxRecDepth 100000 in
set_option maxHeartbeats 4000000 in
theorem k_X11_readSaying {l : Launch} {Z : li_Z} (d : Nat) (hd : 3 ≤ d) (p1 : Int32) (M0 : li_M) : li_Met l Z YX11_readSaying d [.ref (Z.2.2 0), .int p1] M0 (li_SZ (fun i => i = 1 ∨ i = 174) M0) := by
  refine li_enter (by decide +kernel) (Nat.le_of_ble_eq_true rfl) ?_
  show li_T l Z YX11_readSaying d 0 [(0, .ref (Z.2.2 0)), (1, .int p1)] [] M0 _
  have hf : li_fr (fun i => i = 1 ∨ i = 174) M0 M0 := li_fr_refl
  refine li_aload_n 0 dX11_readSaying_0 rfl ?_
  refine li_getr (k := 0) (N := 13) (T := TX11) (C0 := RX11) dX11_readSaying_1 (by decide) sh_0 rfl rfl (by decide) (by decide) li_in11 w_473 ?_
  refine li_bipush 48 dX11_readSaying_4 (by decide) ?_
  refine li_bipush 10 dX11_readSaying_6 (by decide) ?_
  refine li_callV (n := 2) (As := [.int 48, .int 10]) dX11_readSaying_8 (k_X7_takeOneOf (d - 1) (by omega) 48 10 M0) (by omega) (Nat.le_of_ble_eq_true rfl) w_705 w_659 w_660 w_102 w_661 (by decide +kernel) rfl (by decide) sh_1 rfl rfl (Nat.le_of_ble_eq_true rfl) (fun r M2 h3 => ?_)
  obtain ⟨⟨x1, rfl⟩, h3⟩ := h3
  have hf := li_fr_trans hf h3 (fun i (h : i = 1) => (show i = 1 ∨ i = 174 by omega))
  refine li_istore_n [(2, .int x1), (0, .ref (Z.2.2 0)), (1, .int p1)] dX11_readSaying_11 (by decide) rfl ?_
  refine li_iload_n 0 dX11_readSaying_12 rfl ?_
  refine li_if_ge 18 dX11_readSaying_13 (by decide) (fun c4 => ?_) (fun c4 => ?_)
  · refine li_aload_n 1 dX11_readSaying_18 rfl ?_
    refine li_getr (k := 0) (N := 13) (T := TX11) (C0 := RX11) dX11_readSaying_19 (by decide) sh_0 rfl rfl (by decide) (by decide) li_in11 w_473 ?_
    refine li_bipush 48 dX11_readSaying_22 (by decide) ?_
    refine li_iconst 4 dX11_readSaying_24 (by decide) ?_
    refine li_callV (n := 2) (As := [.int 48, .int 4]) dX11_readSaying_25 (k_X7_takeOneOf (d - 1) (by omega) 48 4 M2) (by omega) (Nat.le_of_ble_eq_true rfl) w_705 w_659 w_660 w_102 w_661 (by decide +kernel) rfl (by decide) sh_1 rfl rfl (Nat.le_of_ble_eq_true rfl) (fun r M6 h7 => ?_)
    obtain ⟨⟨x5, rfl⟩, h7⟩ := h7
    have hf := li_fr_trans hf h7 (fun i (h : i = 1) => (show i = 1 ∨ i = 174 by omega))
    refine li_istore_n [(3, .int x5), (2, .int x1), (0, .ref (Z.2.2 0)), (1, .int p1)] dX11_readSaying_28 (by decide) rfl ?_
    refine li_aload_n 2 dX11_readSaying_29 rfl ?_
    refine li_iload_n 3 dX11_readSaying_30 rfl ?_
    refine li_bipush 115 dX11_readSaying_31 (by decide) ?_
    refine li_iload_n 1 dX11_readSaying_33 rfl ?_
    refine li_iload_n 0 dX11_readSaying_34 rfl ?_
    refine li_iconst 0 dX11_readSaying_35 (by decide) ?_
    refine li_callV (n := 5) (As := [.int p1, .int 115, .int x1, .int x5, .int 0]) dX11_readSaying_36 (k_X11_writeAct (d - 1) (by omega) p1 115 x1 x5 0 M6) (by omega) (Nat.le_of_ble_eq_true rfl) w_706 w_708 w_13 w_101 w_709 (by decide +kernel) rfl (by decide) sh_0 rfl rfl (Nat.le_of_ble_eq_true rfl) (fun r M9 h10 => ?_)
    obtain ⟨rfl, h10⟩ := h10
    have hf := li_fr_trans hf h10 (fun i (h : i = 174) => (show i = 1 ∨ i = 174 by omega))
    refine li_iload_n 0 dX11_readSaying_39 rfl ?_
    refine li_if_lt 47 dX11_readSaying_40 (by decide) (fun c11 => ?_) (fun c11 => ?_)
    · refine li_iconst 0 dX11_readSaying_47 (by decide) ?_
      exact li_iret dX11_readSaying_48 rfl (li_nz (Or.inl rfl)) ⟨⟨_, rfl, Or.inl rfl⟩, hf⟩
    · refine li_iconst 1 dX11_readSaying_43 (by decide) ?_
      refine li_goto 48 dX11_readSaying_44 (by decide) ?_
      exact li_iret dX11_readSaying_48 rfl (li_nz (Or.inr rfl)) ⟨⟨_, rfl, Or.inr rfl⟩, hf⟩
  · refine li_iconst 0 dX11_readSaying_16 (by decide) ?_
    exact li_iret dX11_readSaying_17 rfl (li_nz (Or.inl rfl)) ⟨⟨_, rfl, Or.inl rfl⟩, hf⟩
set_option maxRecDepth 100000 in
set_option maxHeartbeats 4000000 in
theorem k_X11_readGift {l : Launch} {Z : li_Z} (d : Nat) (hd : 3 ≤ d) (p1 : Int32) (M0 : li_M) : li_Met l Z YX11_readGift d [.ref (Z.2.2 0), .int p1] M0 (li_SZ (fun i => i = 1 ∨ i = 174) M0) := by
  refine li_enter (by decide +kernel) (Nat.le_of_ble_eq_true rfl) ?_
  show li_T l Z YX11_readGift d 0 [(0, .ref (Z.2.2 0)), (1, .int p1)] [] M0 _
  have hf : li_fr (fun i => i = 1 ∨ i = 174) M0 M0 := li_fr_refl
  refine li_aload_n 0 dX11_readGift_0 rfl ?_
  refine li_getr (k := 0) (N := 13) (T := TX11) (C0 := RX11) dX11_readGift_1 (by decide) sh_0 rfl rfl (by decide) (by decide) li_in11 w_473 ?_
  refine li_bipush 97 dX11_readGift_4 (by decide) ?_
  refine li_bipush 6 dX11_readGift_6 (by decide) ?_
  refine li_callV (n := 2) (As := [.int 97, .int 6]) dX11_readGift_8 (k_X7_takeOneOf (d - 1) (by omega) 97 6 M0) (by omega) (Nat.le_of_ble_eq_true rfl) w_705 w_659 w_660 w_102 w_661 (by decide +kernel) rfl (by decide) sh_1 rfl rfl (Nat.le_of_ble_eq_true rfl) (fun r M2 h3 => ?_)
  obtain ⟨⟨x1, rfl⟩, h3⟩ := h3
  have hf := li_fr_trans hf h3 (fun i (h : i = 1) => (show i = 1 ∨ i = 174 by omega))
  refine li_istore_n [(2, .int x1), (0, .ref (Z.2.2 0)), (1, .int p1)] dX11_readGift_11 (by decide) rfl ?_
  refine li_iload_n 0 dX11_readGift_12 rfl ?_
  refine li_if_ge 18 dX11_readGift_13 (by decide) (fun c4 => ?_) (fun c4 => ?_)
  · refine li_aload_n 1 dX11_readGift_18 rfl ?_
    refine li_getr (k := 0) (N := 13) (T := TX11) (C0 := RX11) dX11_readGift_19 (by decide) sh_0 rfl rfl (by decide) (by decide) li_in11 w_473 ?_
    refine li_bipush 97 dX11_readGift_22 (by decide) ?_
    refine li_bipush 6 dX11_readGift_24 (by decide) ?_
    refine li_callV (n := 2) (As := [.int 97, .int 6]) dX11_readGift_26 (k_X7_takeOneOf (d - 1) (by omega) 97 6 M2) (by omega) (Nat.le_of_ble_eq_true rfl) w_705 w_659 w_660 w_102 w_661 (by decide +kernel) rfl (by decide) sh_1 rfl rfl (Nat.le_of_ble_eq_true rfl) (fun r M6 h7 => ?_)
    obtain ⟨⟨x5, rfl⟩, h7⟩ := h7
    have hf := li_fr_trans hf h7 (fun i (h : i = 1) => (show i = 1 ∨ i = 174 by omega))
    refine li_istore_n [(3, .int x5), (2, .int x1), (0, .ref (Z.2.2 0)), (1, .int p1)] dX11_readGift_29 (by decide) rfl ?_
    refine li_iload_n 0 dX11_readGift_30 rfl ?_
    refine li_if_ge 36 dX11_readGift_31 (by decide) (fun c8 => ?_) (fun c8 => ?_)
    · refine li_aload_n 2 dX11_readGift_36 rfl ?_
      refine li_getr (k := 0) (N := 13) (T := TX11) (C0 := RX11) dX11_readGift_37 (by decide) sh_0 rfl rfl (by decide) (by decide) li_in11 w_473 ?_
      refine li_iconst 3 dX11_readGift_40 (by decide) ?_
      refine li_callV (n := 1) (As := [.int 3]) dX11_readGift_41 (k_X7_takeNumber (d - 1) (by omega) 3 M6) (by omega) (Nat.le_of_ble_eq_true rfl) w_715 w_635 w_636 w_102 w_637 (by decide +kernel) rfl (by decide) sh_1 rfl rfl (Nat.le_of_ble_eq_true rfl) (fun r M10 h11 => ?_)
      obtain ⟨⟨x9, rfl⟩, h11⟩ := h11
      have hf := li_fr_trans hf h11 (fun i (h : i = 1) => (show i = 1 ∨ i = 174 by omega))
      refine li_istore [(4, .int x9), (3, .int x5), (2, .int x1), (0, .ref (Z.2.2 0)), (1, .int p1)] dX11_readGift_44 (by decide) rfl ?_
      refine li_aload_n 3 dX11_readGift_46 rfl ?_
      refine li_iload_n 4 dX11_readGift_47 rfl ?_
      refine li_bipush 103 dX11_readGift_48 (by decide) ?_
      refine li_iload_n 2 dX11_readGift_50 rfl ?_
      refine li_iload_n 1 dX11_readGift_51 rfl ?_
      refine li_iload 0 dX11_readGift_52 rfl ?_
      refine li_callV (n := 5) (As := [.int p1, .int 103, .int x1, .int x5, .int x9]) dX11_readGift_54 (k_X11_writeAct (d - 1) (by omega) p1 103 x1 x5 x9 M10) (by omega) (Nat.le_of_ble_eq_true rfl) w_706 w_708 w_13 w_101 w_709 (by decide +kernel) rfl (by decide) sh_0 rfl rfl (Nat.le_of_ble_eq_true rfl) (fun r M13 h14 => ?_)
      obtain ⟨rfl, h14⟩ := h14
      have hf := li_fr_trans hf h14 (fun i (h : i = 174) => (show i = 1 ∨ i = 174 by omega))
      refine li_iload 0 dX11_readGift_57 rfl ?_
      refine li_if_lt 66 dX11_readGift_59 (by decide) (fun c15 => ?_) (fun c15 => ?_)
      · refine li_iconst 0 dX11_readGift_66 (by decide) ?_
        exact li_iret dX11_readGift_67 rfl (li_nz (Or.inl rfl)) ⟨⟨_, rfl, Or.inl rfl⟩, hf⟩
      · refine li_iconst 1 dX11_readGift_62 (by decide) ?_
        refine li_goto 67 dX11_readGift_63 (by decide) ?_
        exact li_iret dX11_readGift_67 rfl (li_nz (Or.inr rfl)) ⟨⟨_, rfl, Or.inr rfl⟩, hf⟩
    · refine li_iconst 0 dX11_readGift_34 (by decide) ?_
      exact li_iret dX11_readGift_35 rfl (li_nz (Or.inl rfl)) ⟨⟨_, rfl, Or.inl rfl⟩, hf⟩
  · refine li_iconst 0 dX11_readGift_16 (by decide) ?_
    exact li_iret dX11_readGift_17 rfl (li_nz (Or.inl rfl)) ⟨⟨_, rfl, Or.inl rfl⟩, hf⟩
set_option maxRecDepth 100000 in
set_option maxHeartbeats 4000000 in
theorem k_X11_readAct {l : Launch} {Z : li_Z} (d : Nat) (hd : 4 ≤ d) (p1 : Int32) (M0 : li_M) : li_Met l Z YX11_readAct d [.ref (Z.2.2 0), .int p1] M0 (li_SZ (fun i => i = 1 ∨ i = 174) M0) := by
  refine li_enter (by decide +kernel) (Nat.le_of_ble_eq_true rfl) ?_
  show li_T l Z YX11_readAct d 0 [(0, .ref (Z.2.2 0)), (1, .int p1)] [] M0 _
  have hf : li_fr (fun i => i = 1 ∨ i = 174) M0 M0 := li_fr_refl
  refine li_aload_n 0 dX11_readAct_0 rfl ?_
  refine li_getr (k := 0) (N := 13) (T := TX11) (C0 := RX11) dX11_readAct_1 (by decide) sh_0 rfl rfl (by decide) (by decide) li_in11 w_473 ?_
  refine li_bipush 115 dX11_readAct_4 (by decide) ?_
  refine li_callV (n := 1) (As := [.int 115]) dX11_readAct_6 (k_X7_skip (d - 1) (by omega) 115 M0) (by omega) (Nat.le_of_ble_eq_true rfl) w_700 w_565 w_566 w_102 w_567 (by decide +kernel) rfl (by decide) sh_1 rfl rfl (Nat.le_of_ble_eq_true rfl) (fun r M2 h3 => ?_)
  obtain ⟨⟨x1, rfl, bx1⟩, h3⟩ := h3
  have hf := li_fr_trans hf h3 (fun i (h : i = 1) => (show i = 1 ∨ i = 174 by omega))
  refine li_if_eq 18 dX11_readAct_9 (by decide) (fun c4 => ?_) (fun c4 => ?_)
  · refine li_aload_n 0 dX11_readAct_18 rfl ?_
    refine li_getr (k := 0) (N := 13) (T := TX11) (C0 := RX11) dX11_readAct_19 (by decide) sh_0 rfl rfl (by decide) (by decide) li_in11 w_473 ?_
    refine li_bipush 98 dX11_readAct_22 (by decide) ?_
    refine li_callV (n := 1) (As := [.int 98]) dX11_readAct_24 (k_X7_skip (d - 1) (by omega) 98 M2) (by omega) (Nat.le_of_ble_eq_true rfl) w_700 w_565 w_566 w_102 w_567 (by decide +kernel) rfl (by decide) sh_1 rfl rfl (Nat.le_of_ble_eq_true rfl) (fun r M6 h7 => ?_)
    obtain ⟨⟨x5, rfl, bx5⟩, h7⟩ := h7
    have hf := li_fr_trans hf h7 (fun i (h : i = 1) => (show i = 1 ∨ i = 174 by omega))
    refine li_if_eq 62 dX11_readAct_27 (by decide) (fun c8 => ?_) (fun c8 => ?_)
    · refine li_aload_n 0 dX11_readAct_62 rfl ?_
      refine li_getr (k := 0) (N := 13) (T := TX11) (C0 := RX11) dX11_readAct_63 (by decide) sh_0 rfl rfl (by decide) (by decide) li_in11 w_473 ?_
      refine li_bipush 103 dX11_readAct_66 (by decide) ?_
      refine li_callV (n := 1) (As := [.int 103]) dX11_readAct_68 (k_X7_skip (d - 1) (by omega) 103 M6) (by omega) (Nat.le_of_ble_eq_true rfl) w_700 w_565 w_566 w_102 w_567 (by decide +kernel) rfl (by decide) sh_1 rfl rfl (Nat.le_of_ble_eq_true rfl) (fun r M10 h11 => ?_)
      obtain ⟨⟨x9, rfl, bx9⟩, h11⟩ := h11
      have hf := li_fr_trans hf h11 (fun i (h : i = 1) => (show i = 1 ∨ i = 174 by omega))
      refine li_if_eq 80 dX11_readAct_71 (by decide) (fun c12 => ?_) (fun c12 => ?_)
      · refine li_aload_n 0 dX11_readAct_80 rfl ?_
        refine li_getr (k := 0) (N := 13) (T := TX11) (C0 := RX11) dX11_readAct_81 (by decide) sh_0 rfl rfl (by decide) (by decide) li_in11 w_473 ?_
        refine li_bipush 100 dX11_readAct_84 (by decide) ?_
        refine li_callV (n := 1) (As := [.int 100]) dX11_readAct_86 (k_X7_skip (d - 1) (by omega) 100 M10) (by omega) (Nat.le_of_ble_eq_true rfl) w_700 w_565 w_566 w_102 w_567 (by decide +kernel) rfl (by decide) sh_1 rfl rfl (Nat.le_of_ble_eq_true rfl) (fun r M14 h15 => ?_)
        obtain ⟨⟨x13, rfl, bx13⟩, h15⟩ := h15
        have hf := li_fr_trans hf h15 (fun i (h : i = 1) => (show i = 1 ∨ i = 174 by omega))
        refine li_if_eq 121 dX11_readAct_89 (by decide) (fun c16 => ?_) (fun c16 => ?_)
        · refine li_iconst 0 dX11_readAct_121 (by decide) ?_
          exact li_iret dX11_readAct_122 rfl (li_nz (Or.inl rfl)) ⟨⟨_, rfl, Or.inl rfl⟩, hf⟩
        · refine li_aload_n 0 dX11_readAct_92 rfl ?_
          refine li_getr (k := 0) (N := 13) (T := TX11) (C0 := RX11) dX11_readAct_93 (by decide) sh_0 rfl rfl (by decide) (by decide) li_in11 w_473 ?_
          refine li_iconst 2 dX11_readAct_96 (by decide) ?_
          refine li_callV (n := 1) (As := [.int 2]) dX11_readAct_97 (k_X7_takeNumber (d - 1) (by omega) 2 M14) (by omega) (Nat.le_of_ble_eq_true rfl) w_715 w_635 w_636 w_102 w_637 (by decide +kernel) rfl (by decide) sh_1 rfl rfl (Nat.le_of_ble_eq_true rfl) (fun r M18 h19 => ?_)
          obtain ⟨⟨x17, rfl⟩, h19⟩ := h19
          have hf := li_fr_trans hf h19 (fun i (h : i = 1) => (show i = 1 ∨ i = 174 by omega))
          refine li_istore_n [(2, .int x17), (0, .ref (Z.2.2 0)), (1, .int p1)] dX11_readAct_100 (by decide) rfl ?_
          refine li_aload_n 1 dX11_readAct_101 rfl ?_
          refine li_iload_n 2 dX11_readAct_102 rfl ?_
          refine li_bipush 100 dX11_readAct_103 (by decide) ?_
          refine li_iconst 0 dX11_readAct_105 (by decide) ?_
          refine li_iconst 0 dX11_readAct_106 (by decide) ?_
          refine li_iload_n 0 dX11_readAct_107 rfl ?_
          refine li_callV (n := 5) (As := [.int p1, .int 100, .int 0, .int 0, .int x17]) dX11_readAct_108 (k_X11_writeAct (d - 1) (by omega) p1 100 0 0 x17 M18) (by omega) (Nat.le_of_ble_eq_true rfl) w_706 w_708 w_13 w_101 w_709 (by decide +kernel) rfl (by decide) sh_0 rfl rfl (Nat.le_of_ble_eq_true rfl) (fun r M21 h22 => ?_)
          obtain ⟨rfl, h22⟩ := h22
          have hf := li_fr_trans hf h22 (fun i (h : i = 174) => (show i = 1 ∨ i = 174 by omega))
          refine li_iload_n 0 dX11_readAct_111 rfl ?_
          refine li_if_lt 119 dX11_readAct_112 (by decide) (fun c23 => ?_) (fun c23 => ?_)
          · refine li_iconst 0 dX11_readAct_119 (by decide) ?_
            exact li_iret dX11_readAct_120 rfl (li_nz (Or.inl rfl)) ⟨⟨_, rfl, Or.inl rfl⟩, hf⟩
          · refine li_iconst 1 dX11_readAct_115 (by decide) ?_
            refine li_goto 120 dX11_readAct_116 (by decide) ?_
            exact li_iret dX11_readAct_120 rfl (li_nz (Or.inr rfl)) ⟨⟨_, rfl, Or.inr rfl⟩, hf⟩
      · refine li_aload_n 0 dX11_readAct_74 rfl ?_
        refine li_iload_n 1 dX11_readAct_75 rfl ?_
        refine li_callV (n := 1) (As := [.int p1]) dX11_readAct_76 (k_X11_readGift (d - 1) (by omega) p1 M10) (by omega) (Nat.le_of_ble_eq_true rfl) w_711 w_713 w_14 w_101 w_714 (by decide +kernel) rfl (by decide) sh_0 rfl rfl (Nat.le_of_ble_eq_true rfl) (fun r M25 h26 => ?_)
        obtain ⟨⟨x24, rfl, bx24⟩, h26⟩ := h26
        have hf := li_fr_trans hf h26 (fun i (h : i = 1 ∨ i = 174) => (show i = 1 ∨ i = 174 by omega))
        exact li_iret dX11_readAct_79 rfl (li_nz (bx24)) ⟨⟨_, rfl, bx24⟩, hf⟩
    · refine li_aload_n 0 dX11_readAct_30 rfl ?_
      refine li_getr (k := 0) (N := 13) (T := TX11) (C0 := RX11) dX11_readAct_31 (by decide) sh_0 rfl rfl (by decide) (by decide) li_in11 w_473 ?_
      refine li_bipush 48 dX11_readAct_34 (by decide) ?_
      refine li_bipush 10 dX11_readAct_36 (by decide) ?_
      refine li_callV (n := 2) (As := [.int 48, .int 10]) dX11_readAct_38 (k_X7_takeOneOf (d - 1) (by omega) 48 10 M6) (by omega) (Nat.le_of_ble_eq_true rfl) w_705 w_659 w_660 w_102 w_661 (by decide +kernel) rfl (by decide) sh_1 rfl rfl (Nat.le_of_ble_eq_true rfl) (fun r M28 h29 => ?_)
      obtain ⟨⟨x27, rfl⟩, h29⟩ := h29
      have hf := li_fr_trans hf h29 (fun i (h : i = 1) => (show i = 1 ∨ i = 174 by omega))
      refine li_istore_n [(2, .int x27), (0, .ref (Z.2.2 0)), (1, .int p1)] dX11_readAct_41 (by decide) rfl ?_
      refine li_aload_n 1 dX11_readAct_42 rfl ?_
      refine li_iload_n 2 dX11_readAct_43 rfl ?_
      refine li_bipush 98 dX11_readAct_44 (by decide) ?_
      refine li_iload_n 0 dX11_readAct_46 rfl ?_
      refine li_iconst 0 dX11_readAct_47 (by decide) ?_
      refine li_iconst 0 dX11_readAct_48 (by decide) ?_
      refine li_callV (n := 5) (As := [.int p1, .int 98, .int x27, .int 0, .int 0]) dX11_readAct_49 (k_X11_writeAct (d - 1) (by omega) p1 98 x27 0 0 M28) (by omega) (Nat.le_of_ble_eq_true rfl) w_706 w_708 w_13 w_101 w_709 (by decide +kernel) rfl (by decide) sh_0 rfl rfl (Nat.le_of_ble_eq_true rfl) (fun r M31 h32 => ?_)
      obtain ⟨rfl, h32⟩ := h32
      have hf := li_fr_trans hf h32 (fun i (h : i = 174) => (show i = 1 ∨ i = 174 by omega))
      refine li_iload_n 0 dX11_readAct_52 rfl ?_
      refine li_if_lt 60 dX11_readAct_53 (by decide) (fun c33 => ?_) (fun c33 => ?_)
      · refine li_iconst 0 dX11_readAct_60 (by decide) ?_
        exact li_iret dX11_readAct_61 rfl (li_nz (Or.inl rfl)) ⟨⟨_, rfl, Or.inl rfl⟩, hf⟩
      · refine li_iconst 1 dX11_readAct_56 (by decide) ?_
        refine li_goto 61 dX11_readAct_57 (by decide) ?_
        exact li_iret dX11_readAct_61 rfl (li_nz (Or.inr rfl)) ⟨⟨_, rfl, Or.inr rfl⟩, hf⟩
  · refine li_aload_n 0 dX11_readAct_12 rfl ?_
    refine li_iload_n 1 dX11_readAct_13 rfl ?_
    refine li_callV (n := 1) (As := [.int p1]) dX11_readAct_14 (k_X11_readSaying (d - 1) (by omega) p1 M2) (by omega) (Nat.le_of_ble_eq_true rfl) w_701 w_703 w_12 w_101 w_704 (by decide +kernel) rfl (by decide) sh_0 rfl rfl (Nat.le_of_ble_eq_true rfl) (fun r M35 h36 => ?_)
    obtain ⟨⟨x34, rfl, bx34⟩, h36⟩ := h36
    have hf := li_fr_trans hf h36 (fun i (h : i = 1 ∨ i = 174) => (show i = 1 ∨ i = 174 by omega))
    exact li_iret dX11_readAct_17 rfl (li_nz (bx34)) ⟨⟨_, rfl, bx34⟩, hf⟩
set_option maxRecDepth 100000 in
set_option maxHeartbeats 4000000 in
theorem k_X11_readWish {l : Launch} {Z : li_Z} (d : Nat) (hd : 4 ≤ d) (p1 : Int32) (M0 : li_M) : li_Met l Z YX11_readWish d [.ref (Z.2.2 0), .int p1] M0 (li_SZ (fun i => i = 1 ∨ i = 10 ∨ i = 11 ∨ i = 12 ∨ i = 8 ∨ i = 9) M0) := by
  refine li_enter (by decide +kernel) (Nat.le_of_ble_eq_true rfl) ?_
  show li_T l Z YX11_readWish d 0 [(0, .ref (Z.2.2 0)), (1, .int p1)] [] M0 _
  have hf : li_fr (fun i => i = 1 ∨ i = 10 ∨ i = 11 ∨ i = 12 ∨ i = 8 ∨ i = 9) M0 M0 := li_fr_refl
  refine li_aload_n 0 dX11_readWish_0 rfl ?_
  refine li_getr (k := 2) (N := 13) (T := TX11) (C0 := RX11) dX11_readWish_1 (by decide) sh_0 rfl rfl (by decide) (by decide) li_in11 w_475 ?_
  refine li_aload_n 0 dX11_readWish_4 rfl ?_
  refine li_getr (k := 0) (N := 13) (T := TX11) (C0 := RX11) dX11_readWish_5 (by decide) sh_0 rfl rfl (by decide) (by decide) li_in11 w_473 ?_
  refine li_iload_n 1 dX11_readWish_8 rfl ?_
  refine li_callV (n := 2) (As := [.ref (Z.2.2 1), .int p1]) dX11_readWish_9 (k_X8_readTwo (d - 1) (by omega) p1 M0) (by omega) (Nat.le_of_ble_eq_true rfl) w_683 w_684 w_685 w_104 w_686 (by decide +kernel) rfl (by decide) sh_5 rfl rfl (Nat.le_of_ble_eq_true rfl) (fun r M2 h3 => ?_)
  obtain ⟨⟨x1, rfl, bx1⟩, h3⟩ := h3
  have hf := li_fr_trans hf h3 (fun i (h : i = 1 ∨ i = 8 ∨ i = 9) => (show i = 1 ∨ i = 10 ∨ i = 11 ∨ i = 12 ∨ i = 8 ∨ i = 9 by omega))
  refine li_if_eq 49 dX11_readWish_12 (by decide) (fun c4 => ?_) (fun c4 => ?_)
  · refine li_iconst 0 dX11_readWish_49 (by decide) ?_
    exact li_iret dX11_readWish_50 rfl (li_nz (Or.inl rfl)) ⟨⟨_, rfl, Or.inl rfl⟩, hf⟩
  · refine li_aload_n 0 dX11_readWish_15 rfl ?_
    refine li_getr (k := 2) (N := 13) (T := TX11) (C0 := RX11) dX11_readWish_16 (by decide) sh_0 rfl rfl (by decide) (by decide) li_in11 w_475 ?_
    refine li_aload_n 0 dX11_readWish_19 rfl ?_
    refine li_getr (k := 0) (N := 13) (T := TX11) (C0 := RX11) dX11_readWish_20 (by decide) sh_0 rfl rfl (by decide) (by decide) li_in11 w_473 ?_
    refine li_iload_n 1 dX11_readWish_23 rfl ?_
    refine li_callV (n := 2) (As := [.ref (Z.2.2 1), .int p1]) dX11_readWish_24 (k_X8_readSeconds (d - 1) (by omega) p1 M2) (by omega) (Nat.le_of_ble_eq_true rfl) w_688 w_689 w_690 w_104 w_691 (by decide +kernel) rfl (by decide) sh_5 rfl rfl (Nat.le_of_ble_eq_true rfl) (fun r M6 h7 => ?_)
    obtain ⟨⟨x5, rfl, bx5⟩, h7⟩ := h7
    have hf := li_fr_trans hf h7 (fun i (h : i = 1 ∨ i = 10) => (show i = 1 ∨ i = 10 ∨ i = 11 ∨ i = 12 ∨ i = 8 ∨ i = 9 by omega))
    refine li_if_eq 49 dX11_readWish_27 (by decide) (fun c8 => ?_) (fun c8 => ?_)
    · refine li_iconst 0 dX11_readWish_49 (by decide) ?_
      exact li_iret dX11_readWish_50 rfl (li_nz (Or.inl rfl)) ⟨⟨_, rfl, Or.inl rfl⟩, hf⟩
    · refine li_aload_n 0 dX11_readWish_30 rfl ?_
      refine li_getr (k := 2) (N := 13) (T := TX11) (C0 := RX11) dX11_readWish_31 (by decide) sh_0 rfl rfl (by decide) (by decide) li_in11 w_475 ?_
      refine li_aload_n 0 dX11_readWish_34 rfl ?_
      refine li_getr (k := 0) (N := 13) (T := TX11) (C0 := RX11) dX11_readWish_35 (by decide) sh_0 rfl rfl (by decide) (by decide) li_in11 w_473 ?_
      refine li_iload_n 1 dX11_readWish_38 rfl ?_
      refine li_callV (n := 2) (As := [.ref (Z.2.2 1), .int p1]) dX11_readWish_39 (k_X8_readDayAndWorth (d - 1) (by omega) p1 M6) (by omega) (Nat.le_of_ble_eq_true rfl) w_692 w_693 w_694 w_104 w_695 (by decide +kernel) rfl (by decide) sh_5 rfl rfl (Nat.le_of_ble_eq_true rfl) (fun r M10 h11 => ?_)
      obtain ⟨⟨x9, rfl, bx9⟩, h11⟩ := h11
      have hf := li_fr_trans hf h11 (fun i (h : i = 1 ∨ i = 11 ∨ i = 12) => (show i = 1 ∨ i = 10 ∨ i = 11 ∨ i = 12 ∨ i = 8 ∨ i = 9 by omega))
      refine li_if_eq 49 dX11_readWish_42 (by decide) (fun c12 => ?_) (fun c12 => ?_)
      · refine li_iconst 0 dX11_readWish_49 (by decide) ?_
        exact li_iret dX11_readWish_50 rfl (li_nz (Or.inl rfl)) ⟨⟨_, rfl, Or.inl rfl⟩, hf⟩
      · refine li_iconst 1 dX11_readWish_45 (by decide) ?_
        refine li_goto 50 dX11_readWish_46 (by decide) ?_
        exact li_iret dX11_readWish_50 rfl (li_nz (Or.inr rfl)) ⟨⟨_, rfl, Or.inr rfl⟩, hf⟩
set_option maxRecDepth 100000 in
set_option maxHeartbeats 4000000 in
theorem k_X11_bestOfAll {l : Launch} {Z : li_Z} (d : Nat) (hd : 7 ≤ d) {c : Nat} (hc : li_co c) (M0 : li_M) : li_Met l Z YX11_bestOfAll d [.ref (Z.2.2 0), .ref (Z.2.2 c)] M0 (li_SI (fun i => i = c ∨ i = c + 1 ∨ i = c + 2 ∨ i = (c - 4) + 2 ∨ i = (c - 4) + 3) M0) := by
  refine li_enter (by decide +kernel) (Nat.le_of_ble_eq_true rfl) ?_
  show li_T l Z YX11_bestOfAll d 0 [(0, .ref (Z.2.2 0)), (1, .ref (Z.2.2 c))] [] M0 _
  have hf : li_fr (fun i => i = c ∨ i = c + 1 ∨ i = c + 2 ∨ i = (c - 4) + 2 ∨ i = (c - 4) + 3) M0 M0 := li_fr_refl
  refine li_aload_n 1 dX11_bestOfAll_0 rfl ?_
  refine li_callV (n := 0) (As := []) dX11_bestOfAll_1 (k_X0_fill (d - 1) (by omega) hc M0) (by omega) (Nat.le_of_ble_eq_true rfl) w_988 w_989 w_990 w_109 w_991 (by decide +kernel) rfl (snC0 hc) (shC0 hc) rfl rfl (Nat.le_of_ble_eq_true rfl) (fun r M2 h3 => ?_)
  obtain ⟨rfl, h3⟩ := h3
  have hf := li_fr_trans hf h3 (fun i (h : i = c + 1 ∨ i = c + 2 ∨ i = (c - 4) + 2 ∨ i = (c - 4) + 3) => (show i = c ∨ i = c + 1 ∨ i = c + 2 ∨ i = (c - 4) + 2 ∨ i = (c - 4) + 3 by omega))
  refine li_iconst 0 dX11_bestOfAll_4 (by decide) ?_
  refine li_istore_n [(2, .int 0), (0, .ref (Z.2.2 0)), (1, .ref (Z.2.2 c))] dX11_bestOfAll_5 (by decide) rfl ?_
  refine li_iconst 0 dX11_bestOfAll_6 (by decide) ?_
  refine li_istore_n [(3, .int 0), (2, .int 0), (0, .ref (Z.2.2 0)), (1, .ref (Z.2.2 c))] dX11_bestOfAll_7 (by decide) rfl ?_
  have L8 : ∀ (n : Nat) (x4 : Int32) (x5 : Int32) (M6 : li_M), (2147483647 - (x4 : Int32).toInt).toNat < n → li_fr (fun i => i = c ∨ i = c + 1 ∨ i = c + 2 ∨ i = (c - 4) + 2 ∨ i = (c - 4) + 3) M0 M6 → li_T l Z YX11_bestOfAll d 8 [(3, .int x4), (2, .int x5), (0, .ref (Z.2.2 0)), (1, .ref (Z.2.2 c))] [] M6 (li_SI (fun i => i = c ∨ i = c + 1 ∨ i = c + 2 ∨ i = (c - 4) + 2 ∨ i = (c - 4) + 3) M0) := by
    intro n
    induction n with
    | zero => intro x4 x5 M6 hn; exact absurd hn (Nat.not_lt_zero _)
    | succ n ih8 =>
      intro x4 x5 M6 hn hf
      refine li_iload_n 0 dX11_bestOfAll_8 rfl ?_
      refine li_aload_n 2 dX11_bestOfAll_9 rfl ?_
      refine li_getr (k := 2) (N := 13) (T := TX11) (C0 := RX11) dX11_bestOfAll_10 (by decide) sh_0 rfl rfl (by decide) (by decide) li_in11 w_475 ?_
      refine li_geti (k := 0) (N := 9) (T := TX8) (C0 := RX8) dX11_bestOfAll_13 (by decide) sh_5 rfl rfl (by decide) li_in8 w_178 ?_
      refine li_top (fun x7 ex7 => ?_)
      refine li_icmp_ge 37 dX11_bestOfAll_16 (by decide) (fun c8 => ?_) (fun c8 => ?_)
      · refine li_iload_n 1 dX11_bestOfAll_37 rfl ?_
        exact li_iret dX11_bestOfAll_38 rfl rfl ⟨⟨_, rfl⟩, hf⟩
      · refine li_aload_n 3 dX11_bestOfAll_19 rfl ?_
        refine li_iload_n 0 dX11_bestOfAll_20 rfl ?_
        refine li_callV (n := 1) (As := [.int x4]) dX11_bestOfAll_21 (k_X0_chooseFor (d - 1) (by omega) hc x4 M6) (by omega) (Nat.le_of_ble_eq_true rfl) w_995 w_996 w_997 w_109 w_998 (by decide +kernel) rfl (snC0 hc) (shC0 hc) rfl rfl (Nat.le_of_ble_eq_true rfl) (fun r M10 h11 => ?_)
        obtain ⟨rfl, h11⟩ := h11
        have hf := li_fr_trans hf h11 (fun i (h : i = c) => (show i = c ∨ i = c + 1 ∨ i = c + 2 ∨ i = (c - 4) + 2 ∨ i = (c - 4) + 3 by omega))
        refine li_iload_n 1 dX11_bestOfAll_24 rfl ?_
        refine li_aload_n 3 dX11_bestOfAll_25 rfl ?_
        refine li_geti (k := 7) (N := 8) (T := TX0) (C0 := RX0) dX11_bestOfAll_26 (snC0 hc) (shC0 hc) rfl rfl (by decide) li_in0 w_380 ?_
        refine li_top (fun x12 ex12 => ?_)
        refine li_iadd dX11_bestOfAll_29 ?_
        refine li_top (fun x13 ex13 => ?_)
        refine li_istore_n [(2, .int x13), (3, .int x4), (0, .ref (Z.2.2 0)), (1, .ref (Z.2.2 c))] dX11_bestOfAll_30 (by decide) rfl ?_
        obtain ⟨x14, ex14⟩ : ∃ y : Int32, y = x4 + 1 := ⟨_, rfl⟩
        refine li_iinc 1 [(3, .int x14), (2, .int x13), (0, .ref (Z.2.2 0)), (1, .ref (Z.2.2 c))] x14 dX11_bestOfAll_31 rfl (by rw [ex14]; rfl) (by decide) rfl ?_
        refine li_goto 8 dX11_bestOfAll_34 (by decide) ?_
        refine li_pick [0, 1, 2, 3] [(3, .int x14), (2, .int x13), (0, .ref (Z.2.2 0)), (1, .ref (Z.2.2 c))] rfl ?_
        exact ih8 x14 x13 M10 (by have h9 := li_up (li_gt c8); rw [← ex14] at h9; omega) hf
  exact L8 _ 0 0 M2 (Nat.lt_succ_self _) hf
