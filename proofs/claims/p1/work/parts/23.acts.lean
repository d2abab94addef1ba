theorem w_15 : (Jvm.Cond.selects "ClockForTalk" ({ cls := "ClockForTalk", name := "utter", desc := "(II)I" } : Jvm.MethodName) ({ cls := "ClockForTalk", name := "utter", desc := "(II)I" } : Jvm.MethodName)) ∈ li_ws := li_mem 15 (by decide +kernel) (by decide +kernel)
theorem w_17 : (Jvm.Cond.selects "ClockForTalk" ({ cls := "ClockForTalk", name := "handOver", desc := "(III)I" } : Jvm.MethodName) ({ cls := "ClockForTalk", name := "handOver", desc := "(III)I" } : Jvm.MethodName)) ∈ li_ws := li_mem 17 (by decide +kernel) (by decide +kernel)
theorem w_18 : (Jvm.Cond.selects "ClockForTalk" ({ cls := "ClockForTalk", name := "passDays", desc := "(I)V" } : Jvm.MethodName) ({ cls := "ClockForTalk", name := "passDays", desc := "(I)V" } : Jvm.MethodName)) ∈ li_ws := li_mem 18 (by decide +kernel) (by decide +kernel)
theorem w_106 : (Jvm.Cond.initialized "ClockForTalk$History") ∈ li_ws := li_mem 106 (by decide +kernel) (by decide +kernel)
theorem w_140 : (Jvm.Cond.fieldLink "ClockForTalk" (97 : Nat) "ClockForTalk$Text" "length" "I") ∈ li_ws := li_mem 140 (by decide +kernel) (by decide +kernel)
theorem w_144 : (Jvm.Cond.fieldLink "ClockForTalk" (445 : Nat) "ClockForTalk$Text" "place" "I") ∈ li_ws := li_mem 144 (by decide +kernel) (by decide +kernel)
theorem w_178 : (Jvm.Cond.fieldLink "ClockForTalk" (104 : Nat) "ClockForTalk$Town" "persons" "I") ∈ li_ws := li_mem 178 (by decide +kernel) (by decide +kernel)
theorem w_180 : (Jvm.Cond.fieldLink "ClockForTalk" (118 : Nat) "ClockForTalk$Town" "wishes" "I") ∈ li_ws := li_mem 180 (by decide +kernel) (by decide +kernel)
theorem w_231 : (Jvm.Cond.fieldLink "ClockForTalk" (257 : Nat) "ClockForTalk$Ledger" "day" "I") ∈ li_ws := li_mem 231 (by decide +kernel) (by decide +kernel)
theorem w_233 : (Jvm.Cond.fieldLink "ClockForTalk" (190 : Nat) "ClockForTalk$Ledger" "said" "I") ∈ li_ws := li_mem 233 (by decide +kernel) (by decide +kernel)
theorem w_243 : (Jvm.Cond.fieldLink "ClockForTalk" (146 : Nat) "ClockForTalk$Ledger" "clocks" "[I") ∈ li_ws := li_mem 243 (by decide +kernel) (by decide +kernel)
theorem w_380 : (Jvm.Cond.fieldLink "ClockForTalk" (311 : Nat) "ClockForTalk$Costs" "chosenWorth" "I") ∈ li_ws := li_mem 380 (by decide +kernel) (by decide +kernel)
theorem w_473 : (Jvm.Cond.fieldLink "ClockForTalk" (12 : Nat) "ClockForTalk" "text" "LClockForTalk$Text;") ∈ li_ws := li_mem 473 (by decide +kernel) (by decide +kernel)
theorem w_475 : (Jvm.Cond.fieldLink "ClockForTalk" (26 : Nat) "ClockForTalk" "town" "LClockForTalk$Town;") ∈ li_ws := li_mem 475 (by decide +kernel) (by decide +kernel)
theorem w_476 : (Jvm.Cond.fieldLink "ClockForTalk" (33 : Nat) "ClockForTalk" "ledger" "LClockForTalk$Ledger;") ∈ li_ws := li_mem 476 (by decide +kernel) (by decide +kernel)
theorem w_477 : (Jvm.Cond.fieldLink "ClockForTalk" (40 : Nat) "ClockForTalk" "past" "LClockForTalk$History;") ∈ li_ws := li_mem 477 (by decide +kernel) (by decide +kernel)
theorem w_479 : (Jvm.Cond.fieldLink "ClockForTalk" (51 : Nat) "ClockForTalk" "otherLaw" "LClockForTalk$Rule;") ∈ li_ws := li_mem 479 (by decide +kernel) (by decide +kernel)
theorem w_480 : (Jvm.Cond.fieldLink "ClockForTalk" (70 : Nat) "ClockForTalk" "costs" "LClockForTalk$Costs;") ∈ li_ws := li_mem 480 (by decide +kernel) (by decide +kernel)
theorem w_483 : (Jvm.Cond.fieldLink "ClockForTalk" (57 : Nat) "ClockForTalk" "wordings" "LClockForTalk$Wordings;") ∈ li_ws := li_mem 483 (by decide +kernel) (by decide +kernel)
theorem w_485 : (Jvm.Cond.fieldLink "ClockForTalk" (61 : Nat) "ClockForTalk" "acts" "[I") ∈ li_ws := li_mem 485 (by decide +kernel) (by decide +kernel)
theorem w_540 : (Jvm.Cond.methodLink "ClockForTalk" (448 : Nat) ({ cls := "ClockForTalk$Rule", name := "readAll", desc := "(LClockForTalk$Text;)Z" } : Jvm.MethodName)) ∈ li_ws := li_mem 540 (by decide +kernel) (by decide +kernel)
theorem w_541 : (Jvm.Cond.instanceMethod ({ cls := "ClockForTalk$Rule", name := "readAll", desc := "(LClockForTalk$Text;)Z" } : Jvm.MethodName)) ∈ li_ws := li_mem 541 (by decide +kernel) (by decide +kernel)
theorem w_542 : (Jvm.Cond.selects "ClockForTalk$Rule" ({ cls := "ClockForTalk$Rule", name := "readAll", desc := "(LClockForTalk$Text;)Z" } : Jvm.MethodName) ({ cls := "ClockForTalk$Rule", name := "readAll", desc := "(LClockForTalk$Text;)Z" } : Jvm.MethodName)) ∈ li_ws := li_mem 542 (by decide +kernel) (by decide +kernel)
theorem w_543 : (Jvm.Cond.code ({ cls := "ClockForTalk$Rule", name := "readAll", desc := "(LClockForTalk$Text;)Z" } : Jvm.MethodName) prog_7_method_3_code (2 : Nat) (Option.some Jvm.ClassFile.FieldType.boolean)) ∈ li_ws := li_mem 543 (by decide +kernel) (by decide +kernel)
theorem w_653 : (Jvm.Cond.methodLink "ClockForTalk" (452 : Nat) ({ cls := "ClockForTalk$Wordings", name := "readWording", desc := "(LClockForTalk$Text;)I" } : Jvm.MethodName)) ∈ li_ws := li_mem 653 (by decide +kernel) (by decide +kernel)
theorem w_654 : (Jvm.Cond.instanceMethod ({ cls := "ClockForTalk$Wordings", name := "readWording", desc := "(LClockForTalk$Text;)I" } : Jvm.MethodName)) ∈ li_ws := li_mem 654 (by decide +kernel) (by decide +kernel)
theorem w_655 : (Jvm.Cond.selects "ClockForTalk$Wordings" ({ cls := "ClockForTalk$Wordings", name := "readWording", desc := "(LClockForTalk$Text;)I" } : Jvm.MethodName) ({ cls := "ClockForTalk$Wordings", name := "readWording", desc := "(LClockForTalk$Text;)I" } : Jvm.MethodName)) ∈ li_ws := li_mem 655 (by decide +kernel) (by decide +kernel)
theorem w_656 : (Jvm.Cond.code ({ cls := "ClockForTalk$Wordings", name := "readWording", desc := "(LClockForTalk$Text;)I" } : Jvm.MethodName) prog_11_method_4_code (5 : Nat) (Option.some Jvm.ClassFile.FieldType.int)) ∈ li_ws := li_mem 656 (by decide +kernel) (by decide +kernel)
theorem w_663 : (Jvm.Cond.methodLink "ClockForTalk" (456 : Nat) ({ cls := "ClockForTalk$Text", name := "atEnd", desc := "()Z" } : Jvm.MethodName)) ∈ li_ws := li_mem 663 (by decide +kernel) (by decide +kernel)
theorem w_710 : (Jvm.Cond.methodLink "ClockForTalk" (224 : Nat) ({ cls := "ClockForTalk", name := "put", desc := "([III)V" } : Jvm.MethodName)) ∈ li_ws := li_mem 710 (by decide +kernel) (by decide +kernel)
theorem w_721 : (Jvm.Cond.methodLink "ClockForTalk" (463 : Nat) ({ cls := "ClockForTalk$Text", name := "verdict", desc := "(II)I" } : Jvm.MethodName)) ∈ li_ws := li_mem 721 (by decide +kernel) (by decide +kernel)
theorem w_722 : (Jvm.Cond.instanceMethod ({ cls := "ClockForTalk$Text", name := "verdict", desc := "(II)I" } : Jvm.MethodName)) ∈ li_ws := li_mem 722 (by decide +kernel) (by decide +kernel)
theorem w_723 : (Jvm.Cond.selects "ClockForTalk$Text" ({ cls := "ClockForTalk$Text", name := "verdict", desc := "(II)I" } : Jvm.MethodName) ({ cls := "ClockForTalk$Text", name := "verdict", desc := "(II)I" } : Jvm.MethodName)) ∈ li_ws := li_mem 723 (by decide +kernel) (by decide +kernel)
theorem w_724 : (Jvm.Cond.code ({ cls := "ClockForTalk$Text", name := "verdict", desc := "(II)I" } : Jvm.MethodName) prog_8_method_9_code (3 : Nat) (Option.some Jvm.ClassFile.FieldType.int)) ∈ li_ws := li_mem 724 (by decide +kernel) (by decide +kernel)
theorem w_762 : (Jvm.Cond.methodLink "ClockForTalk" (128 : Nat) ({ cls := "ClockForTalk", name := "within", desc := "(III)Z" } : Jvm.MethodName)) ∈ li_ws := li_mem 762 (by decide +kernel) (by decide +kernel)
theorem w_784 : (Jvm.Cond.methodLink "ClockForTalk" (170 : Nat) ({ cls := "ClockForTalk$Town", name := "hasThing", desc := "(I)Z" } : Jvm.MethodName)) ∈ li_ws := li_mem 784 (by decide +kernel) (by decide +kernel)
theorem w_785 : (Jvm.Cond.instanceMethod ({ cls := "ClockForTalk$Town", name := "hasThing", desc := "(I)Z" } : Jvm.MethodName)) ∈ li_ws := li_mem 785 (by decide +kernel) (by decide +kernel)
theorem w_786 : (Jvm.Cond.selects "ClockForTalk$Town" ({ cls := "ClockForTalk$Town", name := "hasThing", desc := "(I)Z" } : Jvm.MethodName) ({ cls := "ClockForTalk$Town", name := "hasThing", desc := "(I)Z" } : Jvm.MethodName)) ∈ li_ws := li_mem 786 (by decide +kernel) (by decide +kernel)
theorem w_787 : (Jvm.Cond.code ({ cls := "ClockForTalk$Town", name := "hasThing", desc := "(I)Z" } : Jvm.MethodName) prog_9_method_3_code (2 : Nat) (Option.some Jvm.ClassFile.FieldType.boolean)) ∈ li_ws := li_mem 787 (by decide +kernel) (by decide +kernel)
theorem w_852 : (Jvm.Cond.methodLink "ClockForTalk" (245 : Nat) ({ cls := "ClockForTalk", name := "utter", desc := "(II)I" } : Jvm.MethodName)) ∈ li_ws := li_mem 852 (by decide +kernel) (by decide +kernel)
theorem w_854 : (Jvm.Cond.instanceMethod ({ cls := "ClockForTalk", name := "utter", desc := "(II)I" } : Jvm.MethodName)) ∈ li_ws := li_mem 854 (by decide +kernel) (by decide +kernel)
theorem w_855 : (Jvm.Cond.code ({ cls := "ClockForTalk", name := "utter", desc := "(II)I" } : Jvm.MethodName) prog_1_method_43_code (5 : Nat) (Option.some Jvm.ClassFile.FieldType.int)) ∈ li_ws := li_mem 855 (by decide +kernel) (by decide +kernel)
theorem w_871 : (Jvm.Cond.methodLink "ClockForTalk" (284 : Nat) ({ cls := "ClockForTalk$History", name := "hold", desc := "()V" } : Jvm.MethodName)) ∈ li_ws := li_mem 871 (by decide +kernel) (by decide +kernel)
theorem w_872 : (Jvm.Cond.instanceMethod ({ cls := "ClockForTalk$History", name := "hold", desc := "()V" } : Jvm.MethodName)) ∈ li_ws := li_mem 872 (by decide +kernel) (by decide +kernel)
theorem w_873 : (Jvm.Cond.selects "ClockForTalk$History" ({ cls := "ClockForTalk$History", name := "hold", desc := "()V" } : Jvm.MethodName) ({ cls := "ClockForTalk$History", name := "hold", desc := "()V" } : Jvm.MethodName)) ∈ li_ws := li_mem 873 (by decide +kernel) (by decide +kernel)
theorem w_874 : (Jvm.Cond.code ({ cls := "ClockForTalk$History", name := "hold", desc := "()V" } : Jvm.MethodName) prog_4_method_5_code (1 : Nat) (Option.none : Option Jvm.ClassFile.FieldType)) ∈ li_ws := li_mem 874 (by decide +kernel) (by decide +kernel)
theorem w_880 : (Jvm.Cond.methodLink "ClockForTalk" (251 : Nat) ({ cls := "ClockForTalk", name := "handOver", desc := "(III)I" } : Jvm.MethodName)) ∈ li_ws := li_mem 880 (by decide +kernel) (by decide +kernel)
theorem w_882 : (Jvm.Cond.instanceMethod ({ cls := "ClockForTalk", name := "handOver", desc := "(III)I" } : Jvm.MethodName)) ∈ li_ws := li_mem 882 (by decide +kernel) (by decide +kernel)
theorem w_883 : (Jvm.Cond.code ({ cls := "ClockForTalk", name := "handOver", desc := "(III)I" } : Jvm.MethodName) prog_1_method_44_code (4 : Nat) (Option.some Jvm.ClassFile.FieldType.int)) ∈ li_ws := li_mem 883 (by decide +kernel) (by decide +kernel)
theorem w_884 : (Jvm.Cond.methodLink "ClockForTalk" (254 : Nat) ({ cls := "ClockForTalk$Town", name := "areTwo", desc := "(II)Z" } : Jvm.MethodName)) ∈ li_ws := li_mem 884 (by decide +kernel) (by decide +kernel)
theorem w_885 : (Jvm.Cond.instanceMethod ({ cls := "ClockForTalk$Town", name := "areTwo", desc := "(II)Z" } : Jvm.MethodName)) ∈ li_ws := li_mem 885 (by decide +kernel) (by decide +kernel)
theorem w_886 : (Jvm.Cond.selects "ClockForTalk$Town" ({ cls := "ClockForTalk$Town", name := "areTwo", desc := "(II)Z" } : Jvm.MethodName) ({ cls := "ClockForTalk$Town", name := "areTwo", desc := "(II)Z" } : Jvm.MethodName)) ∈ li_ws := li_mem 886 (by decide +kernel) (by decide +kernel)
theorem w_887 : (Jvm.Cond.code ({ cls := "ClockForTalk$Town", name := "areTwo", desc := "(II)Z" } : Jvm.MethodName) prog_9_method_4_code (3 : Nat) (Option.some Jvm.ClassFile.FieldType.boolean)) ∈ li_ws := li_mem 887 (by decide +kernel) (by decide +kernel)
theorem w_921 : (Jvm.Cond.methodLink "ClockForTalk" (276 : Nat) ({ cls := "ClockForTalk", name := "passDays", desc := "(I)V" } : Jvm.MethodName)) ∈ li_ws := li_mem 921 (by decide +kernel) (by decide +kernel)
theorem w_923 : (Jvm.Cond.instanceMethod ({ cls := "ClockForTalk", name := "passDays", desc := "(I)V" } : Jvm.MethodName)) ∈ li_ws := li_mem 923 (by decide +kernel) (by decide +kernel)
theorem w_924 : (Jvm.Cond.code ({ cls := "ClockForTalk", name := "passDays", desc := "(I)V" } : Jvm.MethodName) prog_1_method_45_code (3 : Nat) (Option.none : Option Jvm.ClassFile.FieldType)) ∈ li_ws := li_mem 924 (by decide +kernel) (by decide +kernel)
theorem w_925 : (Jvm.Cond.methodLink "ClockForTalk" (415 : Nat) ({ cls := "ClockForTalk$Ledger", name := "passDay", desc := "(LClockForTalk$Town;)V" } : Jvm.MethodName)) ∈ li_ws := li_mem 925 (by decide +kernel) (by decide +kernel)
theorem w_926 : (Jvm.Cond.instanceMethod ({ cls := "ClockForTalk$Ledger", name := "passDay", desc := "(LClockForTalk$Town;)V" } : Jvm.MethodName)) ∈ li_ws := li_mem 926 (by decide +kernel) (by decide +kernel)
theorem w_927 : (Jvm.Cond.selects "ClockForTalk$Ledger" ({ cls := "ClockForTalk$Ledger", name := "passDay", desc := "(LClockForTalk$Town;)V" } : Jvm.MethodName) ({ cls := "ClockForTalk$Ledger", name := "passDay", desc := "(LClockForTalk$Town;)V" } : Jvm.MethodName)) ∈ li_ws := li_mem 927 (by decide +kernel) (by decide +kernel)
theorem w_928 : (Jvm.Cond.code ({ cls := "ClockForTalk$Ledger", name := "passDay", desc := "(LClockForTalk$Town;)V" } : Jvm.MethodName) prog_5_method_16_code (3 : Nat) (Option.none : Option Jvm.ClassFile.FieldType)) ∈ li_ws := li_mem 928 (by decide +kernel) (by decide +kernel)
theorem w_964 : (Jvm.Cond.methodLink "ClockForTalk" (201 : Nat) ({ cls := "ClockForTalk$Costs", name := "leastWay", desc := "(I)I" } : Jvm.MethodName)) ∈ li_ws := li_mem 964 (by decide +kernel) (by decide +kernel)
theorem w_965 : (Jvm.Cond.instanceMethod ({ cls := "ClockForTalk$Costs", name := "leastWay", desc := "(I)I" } : Jvm.MethodName)) ∈ li_ws := li_mem 965 (by decide +kernel) (by decide +kernel)
theorem w_966 : (Jvm.Cond.selects "ClockForTalk$Costs" ({ cls := "ClockForTalk$Costs", name := "leastWay", desc := "(I)I" } : Jvm.MethodName) ({ cls := "ClockForTalk$Costs", name := "leastWay", desc := "(I)I" } : Jvm.MethodName)) ∈ li_ws := li_mem 966 (by decide +kernel) (by decide +kernel)
theorem w_967 : (Jvm.Cond.code ({ cls := "ClockForTalk$Costs", name := "leastWay", desc := "(I)I" } : Jvm.MethodName) prog_2_method_6_code (2 : Nat) (Option.some Jvm.ClassFile.FieldType.int)) ∈ li_ws := li_mem 967 (by decide +kernel) (by decide +kernel)
theorem w_988 : (Jvm.Cond.methodLink "ClockForTalk" (299 : Nat) ({ cls := "ClockForTalk$Costs", name := "fill", desc := "()V" } : Jvm.MethodName)) ∈ li_ws := li_mem 988 (by decide +kernel) (by decide +kernel)
theorem w_989 : (Jvm.Cond.instanceMethod ({ cls := "ClockForTalk$Costs", name := "fill", desc := "()V" } : Jvm.MethodName)) ∈ li_ws := li_mem 989 (by decide +kernel) (by decide +kernel)
theorem w_990 : (Jvm.Cond.selects "ClockForTalk$Costs" ({ cls := "ClockForTalk$Costs", name := "fill", desc := "()V" } : Jvm.MethodName) ({ cls := "ClockForTalk$Costs", name := "fill", desc := "()V" } : Jvm.MethodName)) ∈ li_ws := li_mem 990 (by decide +kernel) (by decide +kernel)
theorem w_991 : (Jvm.Cond.code ({ cls := "ClockForTalk$Costs", name := "fill", desc := "()V" } : Jvm.MethodName) prog_2_method_8_code (5 : Nat) (Option.none : Option Jvm.ClassFile.FieldType)) ∈ li_ws := li_mem 991 (by decide +kernel) (by decide +kernel)
theorem dX11_held_0 : decode cX11_held 0 = .ok (.iload_n 1, 1) := by decide +kernel
theorem dX11_held_1 : decode cX11_held 1 = .ok (.ifCond .lt 10, 3) := by decide +kernel
theorem dX11_held_4 : decode cX11_held 4 = .ok (.aload_n 0, 1) := by decide +kernel
theorem dX11_held_5 : decode cX11_held 5 = .ok (.getfield 40, 3) := by decide +kernel
theorem dX11_held_8 : decode cX11_held 8 = .ok (.invokevirtual 284, 3) := by decide +kernel
theorem dX11_held_11 : decode cX11_held 11 = .ok (.iload_n 1, 1) := by decide +kernel
theorem dX11_held_12 : decode cX11_held 12 = .ok (.ireturn, 1) := by decide +kernel
abbrev YX11_held : li_Y := (yX11_held, cX11_held, 2, (some .int))
theorem dX11_utter_0 : decode cX11_utter 0 = .ok (.aload_n 0, 1) := by decide +kernel
theorem dX11_utter_1 : decode cX11_utter 1 = .ok (.getfield 26, 3) := by decide +kernel
theorem dX11_utter_4 : decode cX11_utter 4 = .ok (.iload_n 1, 1) := by decide +kernel
theorem dX11_utter_5 : decode cX11_utter 5 = .ok (.invokevirtual 170, 3) := by decide +kernel
theorem dX11_utter_8 : decode cX11_utter 8 = .ok (.ifCond .eq 12, 3) := by decide +kernel
theorem dX11_utter_20 : decode cX11_utter 20 = .ok (.iconst (-1), 1) := by decide +kernel
theorem dX11_utter_21 : decode cX11_utter 21 = .ok (.ireturn, 1) := by decide +kernel
abbrev YX11_utter : li_Y := (yX11_utter, cX11_utter, 5, (some .int))
theorem dX11_handOver_0 : decode cX11_handOver 0 = .ok (.aload_n 0, 1) := by decide +kernel
theorem dX11_handOver_1 : decode cX11_handOver 1 = .ok (.getfield 26, 3) := by decide +kernel
theorem dX11_handOver_4 : decode cX11_handOver 4 = .ok (.iload_n 1, 1) := by decide +kernel
theorem dX11_handOver_5 : decode cX11_handOver 5 = .ok (.iload_n 2, 1) := by decide +kernel
theorem dX11_handOver_6 : decode cX11_handOver 6 = .ok (.invokevirtual 254, 3) := by decide +kernel
theorem dX11_handOver_9 : decode cX11_handOver 9 = .ok (.ifCond .eq 14, 3) := by decide +kernel
theorem dX11_handOver_23 : decode cX11_handOver 23 = .ok (.iconst (-1), 1) := by decide +kernel
theorem dX11_handOver_24 : decode cX11_handOver 24 = .ok (.ireturn, 1) := by decide +kernel
abbrev YX11_handOver : li_Y := (yX11_handOver, cX11_handOver, 4, (some .int))
theorem dX11_passDays_0 : decode cX11_passDays 0 = .ok (.iconst 0, 1) := by decide +kernel
theorem dX11_passDays_1 : decode cX11_passDays 1 = .ok (.istore_n 2, 1) := by decide +kernel
theorem dX11_passDays_2 : decode cX11_passDays 2 = .ok (.iload_n 2, 1) := by decide +kernel
theorem dX11_passDays_3 : decode cX11_passDays 3 = .ok (.iload_n 1, 1) := by decide +kernel
theorem dX11_passDays_4 : decode cX11_passDays 4 = .ok (.if_icmp .ge 20, 3) := by decide +kernel
theorem dX11_passDays_7 : decode cX11_passDays 7 = .ok (.aload_n 0, 1) := by decide +kernel
theorem dX11_passDays_8 : decode cX11_passDays 8 = .ok (.getfield 33, 3) := by decide +kernel
theorem dX11_passDays_11 : decode cX11_passDays 11 = .ok (.aload_n 0, 1) := by decide +kernel
theorem dX11_passDays_12 : decode cX11_passDays 12 = .ok (.getfield 26, 3) := by decide +kernel
theorem dX11_passDays_15 : decode cX11_passDays 15 = .ok (.invokevirtual 415, 3) := by decide +kernel
theorem dX11_passDays_18 : decode cX11_passDays 18 = .ok (.iinc 2 1, 3) := by decide +kernel
theorem dX11_passDays_21 : decode cX11_passDays 21 = .ok (.goto (-19), 3) := by decide +kernel
theorem dX11_passDays_24 : decode cX11_passDays 24 = .ok (.return_, 1) := by decide +kernel
abbrev YX11_passDays : li_Y := (yX11_passDays, cX11_passDays, 3, none)
theorem dX11_readText_0 : decode cX11_readText 0 = .ok (.aload_n 0, 1) := by decide +kernel
theorem dX11_readText_1 : decode cX11_readText 1 = .ok (.getfield 12, 3) := by decide +kernel
theorem dX11_readText_4 : decode cX11_readText 4 = .ok (.iconst 0, 1) := by decide +kernel
theorem dX11_readText_5 : decode cX11_readText 5 = .ok (.putfield 445, 3) := by decide +kernel
theorem dX11_readText_8 : decode cX11_readText 8 = .ok (.iload_n 1, 1) := by decide +kernel
theorem dX11_readText_9 : decode cX11_readText 9 = .ok (.iconst 4, 1) := by decide +kernel
theorem dX11_readText_10 : decode cX11_readText 10 = .ok (.if_icmp .ne 27, 3) := by decide +kernel
theorem dX11_readText_13 : decode cX11_readText 13 = .ok (.aload_n 0, 1) := by decide +kernel
theorem dX11_readText_14 : decode cX11_readText 14 = .ok (.getfield 51, 3) := by decide +kernel
theorem dX11_readText_17 : decode cX11_readText 17 = .ok (.aload_n 0, 1) := by decide +kernel
theorem dX11_readText_18 : decode cX11_readText 18 = .ok (.getfield 12, 3) := by decide +kernel
theorem dX11_readText_21 : decode cX11_readText 21 = .ok (.invokevirtual 448, 3) := by decide +kernel
theorem dX11_readText_24 : decode cX11_readText 24 = .ok (.ifCond .eq 7, 3) := by decide +kernel
theorem dX11_readText_27 : decode cX11_readText 27 = .ok (.iconst 0, 1) := by decide +kernel
theorem dX11_readText_28 : decode cX11_readText 28 = .ok (.goto 4, 3) := by decide +kernel
theorem dX11_readText_32 : decode cX11_readText 32 = .ok (.istore 4, 2) := by decide +kernel
theorem dX11_readText_34 : decode cX11_readText 34 = .ok (.goto 46, 3) := by decide +kernel
theorem dX11_readText_37 : decode cX11_readText 37 = .ok (.iload_n 1, 1) := by decide +kernel
theorem dX11_readText_38 : decode cX11_readText 38 = .ok (.iconst 5, 1) := by decide +kernel
theorem dX11_readText_39 : decode cX11_readText 39 = .ok (.if_icmp .ne 19, 3) := by decide +kernel
theorem dX11_readText_42 : decode cX11_readText 42 = .ok (.aload_n 0, 1) := by decide +kernel
theorem dX11_readText_43 : decode cX11_readText 43 = .ok (.getfield 57, 3) := by decide +kernel
theorem dX11_readText_46 : decode cX11_readText 46 = .ok (.aload_n 0, 1) := by decide +kernel
theorem dX11_readText_47 : decode cX11_readText 47 = .ok (.getfield 12, 3) := by decide +kernel
theorem dX11_readText_50 : decode cX11_readText 50 = .ok (.invokevirtual 452, 3) := by decide +kernel
theorem dX11_readText_53 : decode cX11_readText 53 = .ok (.istore 4, 2) := by decide +kernel
theorem dX11_readText_55 : decode cX11_readText 55 = .ok (.goto 25, 3) := by decide +kernel
theorem dX11_readText_58 : decode cX11_readText 58 = .ok (.aload_n 0, 1) := by decide +kernel
theorem dX11_readText_59 : decode cX11_readText 59 = .ok (.getfield 12, 3) := by decide +kernel
theorem dX11_readText_62 : decode cX11_readText 62 = .ok (.invokevirtual 456, 3) := by decide +kernel
theorem dX11_readText_65 : decode cX11_readText 65 = .ok (.ifCond .eq 7, 3) := by decide +kernel
theorem dX11_readText_68 : decode cX11_readText 68 = .ok (.iconst 0, 1) := by decide +kernel
theorem dX11_readText_69 : decode cX11_readText 69 = .ok (.goto 9, 3) := by decide +kernel
theorem dX11_readText_78 : decode cX11_readText 78 = .ok (.istore 4, 2) := by decide +kernel
theorem dX11_readText_80 : decode cX11_readText 80 = .ok (.aload_n 0, 1) := by decide +kernel
theorem dX11_readText_81 : decode cX11_readText 81 = .ok (.getfield 12, 3) := by decide +kernel
theorem dX11_readText_84 : decode cX11_readText 84 = .ok (.iload 4, 2) := by decide +kernel
theorem dX11_readText_86 : decode cX11_readText 86 = .ok (.iload_n 3, 1) := by decide +kernel
theorem dX11_readText_87 : decode cX11_readText 87 = .ok (.invokevirtual 463, 3) := by decide +kernel
theorem dX11_readText_90 : decode cX11_readText 90 = .ok (.istore 5, 2) := by decide +kernel
theorem dX11_readText_92 : decode cX11_readText 92 = .ok (.aload_n 0, 1) := by decide +kernel
theorem dX11_readText_93 : decode cX11_readText 93 = .ok (.getfield 12, 3) := by decide +kernel
theorem dX11_readText_96 : decode cX11_readText 96 = .ok (.iconst 0, 1) := by decide +kernel
theorem dX11_readText_97 : decode cX11_readText 97 = .ok (.putfield 97, 3) := by decide +kernel
theorem dX11_readText_100 : decode cX11_readText 100 = .ok (.iload 5, 2) := by decide +kernel
theorem dX11_readText_102 : decode cX11_readText 102 = .ok (.ireturn, 1) := by decide +kernel
abbrev YX11_readText : li_Y := (yX11_readText, cX11_readText, 6, (some .int))
theorem dX11_bestOfAll_0 : decode cX11_bestOfAll 0 = .ok (.aload_n 1, 1) := by decide +kernel
theorem dX11_bestOfAll_1 : decode cX11_bestOfAll 1 = .ok (.invokevirtual 299, 3) := by decide +kernel
theorem dX11_bestOfAll_4 : decode cX11_bestOfAll 4 = .ok (.iconst 0, 1) := by decide +kernel
theorem dX11_bestOfAll_5 : decode cX11_bestOfAll 5 = .ok (.istore_n 2, 1) := by decide +kernel
theorem dX11_bestOfAll_6 : decode cX11_bestOfAll 6 = .ok (.iconst 0, 1) := by decide +kernel
theorem dX11_bestOfAll_7 : decode cX11_bestOfAll 7 = .ok (.istore_n 3, 1) := by decide +kernel
theorem dX11_bestOfAll_8 : decode cX11_bestOfAll 8 = .ok (.iload_n 3, 1) := by decide +kernel
theorem dX11_bestOfAll_9 : decode cX11_bestOfAll 9 = .ok (.aload_n 0, 1) := by decide +kernel
theorem dX11_bestOfAll_10 : decode cX11_bestOfAll 10 = .ok (.getfield 26, 3) := by decide +kernel
theorem dX11_bestOfAll_13 : decode cX11_bestOfAll 13 = .ok (.getfield 104, 3) := by decide +kernel
theorem dX11_bestOfAll_16 : decode cX11_bestOfAll 16 = .ok (.if_icmp .ge 21, 3) := by decide +kernel
theorem dX11_bestOfAll_37 : decode cX11_bestOfAll 37 = .ok (.iload_n 2, 1) := by decide +kernel
theorem dX11_bestOfAll_38 : decode cX11_bestOfAll 38 = .ok (.ireturn, 1) := by decide +kernel
abbrev YX11_bestOfAll : li_Y := (yX11_bestOfAll, cX11_bestOfAll, 4, (some .int))
