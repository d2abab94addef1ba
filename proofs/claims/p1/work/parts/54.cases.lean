theorem w_100 : (Jvm.Cond.initialized "ClockForTalkLaw") ∈ li_ws := li_mem 100 (by decide +kernel) (by decide +kernel)
theorem w_513 : (Jvm.Cond.methodLink "ClockForTalkLaw" (29 : Nat) ({ cls := "ClockForTalk", name := "sign", desc := "(I)I" } : Jvm.MethodName)) ∈ li_ws := li_mem 513 (by decide +kernel) (by decide +kernel)
theorem w_514 : (Jvm.Cond.instanceMethod ({ cls := "ClockForTalk", name := "sign", desc := "(I)I" } : Jvm.MethodName)) ∈ li_ws := li_mem 514 (by decide +kernel) (by decide +kernel)
theorem w_515 : (Jvm.Cond.selects "ClockForTalk" ({ cls := "ClockForTalk", name := "sign", desc := "(I)I" } : Jvm.MethodName) ({ cls := "ClockForTalk", name := "sign", desc := "(I)I" } : Jvm.MethodName)) ∈ li_ws := li_mem 515 (by decide +kernel) (by decide +kernel)
theorem w_516 : (Jvm.Cond.code ({ cls := "ClockForTalk", name := "sign", desc := "(I)I" } : Jvm.MethodName) prog_1_method_2_code (2 : Nat) (Option.some Jvm.ClassFile.FieldType.int)) ∈ li_ws := li_mem 516 (by decide +kernel) (by decide +kernel)
theorem w_524 : (Jvm.Cond.methodLink "ClockForTalkLaw" (33 : Nat) ({ cls := "ClockForTalk", name := "end", desc := "(I)Z" } : Jvm.MethodName)) ∈ li_ws := li_mem 524 (by decide +kernel) (by decide +kernel)
theorem w_525 : (Jvm.Cond.instanceMethod ({ cls := "ClockForTalk", name := "end", desc := "(I)Z" } : Jvm.MethodName)) ∈ li_ws := li_mem 525 (by decide +kernel) (by decide +kernel)
theorem w_526 : (Jvm.Cond.selects "ClockForTalk" ({ cls := "ClockForTalk", name := "end", desc := "(I)Z" } : Jvm.MethodName) ({ cls := "ClockForTalk", name := "end", desc := "(I)Z" } : Jvm.MethodName)) ∈ li_ws := li_mem 526 (by decide +kernel) (by decide +kernel)
theorem w_527 : (Jvm.Cond.code ({ cls := "ClockForTalk", name := "end", desc := "(I)Z" } : Jvm.MethodName) prog_1_method_3_code (2 : Nat) (Option.some Jvm.ClassFile.FieldType.boolean)) ∈ li_ws := li_mem 527 (by decide +kernel) (by decide +kernel)
theorem w_532 : (Jvm.Cond.methodLink "ClockForTalkLaw" (38 : Nat) ({ cls := "ClockForTalk", name := "people", desc := "()I" } : Jvm.MethodName)) ∈ li_ws := li_mem 532 (by decide +kernel) (by decide +kernel)
theorem w_533 : (Jvm.Cond.instanceMethod ({ cls := "ClockForTalk", name := "people", desc := "()I" } : Jvm.MethodName)) ∈ li_ws := li_mem 533 (by decide +kernel) (by decide +kernel)
theorem w_534 : (Jvm.Cond.selects "ClockForTalk" ({ cls := "ClockForTalk", name := "people", desc := "()I" } : Jvm.MethodName) ({ cls := "ClockForTalk", name := "people", desc := "()I" } : Jvm.MethodName)) ∈ li_ws := li_mem 534 (by decide +kernel) (by decide +kernel)
theorem w_535 : (Jvm.Cond.code ({ cls := "ClockForTalk", name := "people", desc := "()I" } : Jvm.MethodName) prog_1_method_4_code (2 : Nat) (Option.some Jvm.ClassFile.FieldType.int)) ∈ li_ws := li_mem 535 (by decide +kernel) (by decide +kernel)
theorem w_739 : (Jvm.Cond.methodLink "ClockForTalkLaw" (43 : Nat) ({ cls := "ClockForTalk", name := "things", desc := "()I" } : Jvm.MethodName)) ∈ li_ws := li_mem 739 (by decide +kernel) (by decide +kernel)
theorem w_740 : (Jvm.Cond.instanceMethod ({ cls := "ClockForTalk", name := "things", desc := "()I" } : Jvm.MethodName)) ∈ li_ws := li_mem 740 (by decide +kernel) (by decide +kernel)
theorem w_741 : (Jvm.Cond.selects "ClockForTalk" ({ cls := "ClockForTalk", name := "things", desc := "()I" } : Jvm.MethodName) ({ cls := "ClockForTalk", name := "things", desc := "()I" } : Jvm.MethodName)) ∈ li_ws := li_mem 741 (by decide +kernel) (by decide +kernel)
theorem w_742 : (Jvm.Cond.code ({ cls := "ClockForTalk", name := "things", desc := "()I" } : Jvm.MethodName) prog_1_method_5_code (2 : Nat) (Option.some Jvm.ClassFile.FieldType.int)) ∈ li_ws := li_mem 742 (by decide +kernel) (by decide +kernel)
theorem w_743 : (Jvm.Cond.methodLink "ClockForTalkLaw" (47 : Nat) ({ cls := "ClockForTalk", name := "rule", desc := "()I" } : Jvm.MethodName)) ∈ li_ws := li_mem 743 (by decide +kernel) (by decide +kernel)
theorem w_744 : (Jvm.Cond.instanceMethod ({ cls := "ClockForTalk", name := "rule", desc := "()I" } : Jvm.MethodName)) ∈ li_ws := li_mem 744 (by decide +kernel) (by decide +kernel)
theorem w_745 : (Jvm.Cond.selects "ClockForTalk" ({ cls := "ClockForTalk", name := "rule", desc := "()I" } : Jvm.MethodName) ({ cls := "ClockForTalk", name := "rule", desc := "()I" } : Jvm.MethodName)) ∈ li_ws := li_mem 745 (by decide +kernel) (by decide +kernel)
theorem w_746 : (Jvm.Cond.code ({ cls := "ClockForTalk", name := "rule", desc := "()I" } : Jvm.MethodName) prog_1_method_6_code (2 : Nat) (Option.some Jvm.ClassFile.FieldType.int)) ∈ li_ws := li_mem 746 (by decide +kernel) (by decide +kernel)
theorem w_754 : (Jvm.Cond.methodLink "ClockForTalkLaw" (66 : Nat) ({ cls := "ClockForTalk", name := "move", desc := "(II)I" } : Jvm.MethodName)) ∈ li_ws := li_mem 754 (by decide +kernel) (by decide +kernel)
theorem w_755 : (Jvm.Cond.instanceMethod ({ cls := "ClockForTalk", name := "move", desc := "(II)I" } : Jvm.MethodName)) ∈ li_ws := li_mem 755 (by decide +kernel) (by decide +kernel)
theorem w_756 : (Jvm.Cond.selects "ClockForTalk" ({ cls := "ClockForTalk", name := "move", desc := "(II)I" } : Jvm.MethodName) ({ cls := "ClockForTalk", name := "move", desc := "(II)I" } : Jvm.MethodName)) ∈ li_ws := li_mem 756 (by decide +kernel) (by decide +kernel)
theorem w_757 : (Jvm.Cond.code ({ cls := "ClockForTalk", name := "move", desc := "(II)I" } : Jvm.MethodName) prog_1_method_10_code (4 : Nat) (Option.some Jvm.ClassFile.FieldType.int)) ∈ li_ws := li_mem 757 (by decide +kernel) (by decide +kernel)
theorem w_764 : (Jvm.Cond.methodLink "ClockForTalkLaw" (70 : Nat) ({ cls := "ClockForTalk", name := "sheet", desc := "(IIII)I" } : Jvm.MethodName)) ∈ li_ws := li_mem 764 (by decide +kernel) (by decide +kernel)
theorem w_765 : (Jvm.Cond.instanceMethod ({ cls := "ClockForTalk", name := "sheet", desc := "(IIII)I" } : Jvm.MethodName)) ∈ li_ws := li_mem 765 (by decide +kernel) (by decide +kernel)
theorem w_766 : (Jvm.Cond.selects "ClockForTalk" ({ cls := "ClockForTalk", name := "sheet", desc := "(IIII)I" } : Jvm.MethodName) ({ cls := "ClockForTalk", name := "sheet", desc := "(IIII)I" } : Jvm.MethodName)) ∈ li_ws := li_mem 766 (by decide +kernel) (by decide +kernel)
theorem w_767 : (Jvm.Cond.code ({ cls := "ClockForTalk", name := "sheet", desc := "(IIII)I" } : Jvm.MethodName) prog_1_method_11_code (7 : Nat) (Option.some Jvm.ClassFile.FieldType.int)) ∈ li_ws := li_mem 767 (by decide +kernel) (by decide +kernel)
theorem w_780 : (Jvm.Cond.methodLink "ClockForTalkLaw" (75 : Nat) ({ cls := "ClockForTalk", name := "cost", desc := "(II)I" } : Jvm.MethodName)) ∈ li_ws := li_mem 780 (by decide +kernel) (by decide +kernel)
theorem w_781 : (Jvm.Cond.instanceMethod ({ cls := "ClockForTalk", name := "cost", desc := "(II)I" } : Jvm.MethodName)) ∈ li_ws := li_mem 781 (by decide +kernel) (by decide +kernel)
theorem w_782 : (Jvm.Cond.selects "ClockForTalk" ({ cls := "ClockForTalk", name := "cost", desc := "(II)I" } : Jvm.MethodName) ({ cls := "ClockForTalk", name := "cost", desc := "(II)I" } : Jvm.MethodName)) ∈ li_ws := li_mem 782 (by decide +kernel) (by decide +kernel)
theorem w_783 : (Jvm.Cond.code ({ cls := "ClockForTalk", name := "cost", desc := "(II)I" } : Jvm.MethodName) prog_1_method_12_code (3 : Nat) (Option.some Jvm.ClassFile.FieldType.int)) ∈ li_ws := li_mem 783 (by decide +kernel) (by decide +kernel)
theorem w_839 : (Jvm.Cond.methodLink "ClockForTalkLaw" (79 : Nat) ({ cls := "ClockForTalk", name := "say", desc := "(II)I" } : Jvm.MethodName)) ∈ li_ws := li_mem 839 (by decide +kernel) (by decide +kernel)
theorem w_840 : (Jvm.Cond.instanceMethod ({ cls := "ClockForTalk", name := "say", desc := "(II)I" } : Jvm.MethodName)) ∈ li_ws := li_mem 840 (by decide +kernel) (by decide +kernel)
theorem w_841 : (Jvm.Cond.selects "ClockForTalk" ({ cls := "ClockForTalk", name := "say", desc := "(II)I" } : Jvm.MethodName) ({ cls := "ClockForTalk", name := "say", desc := "(II)I" } : Jvm.MethodName)) ∈ li_ws := li_mem 841 (by decide +kernel) (by decide +kernel)
theorem w_842 : (Jvm.Cond.code ({ cls := "ClockForTalk", name := "say", desc := "(II)I" } : Jvm.MethodName) prog_1_method_13_code (3 : Nat) (Option.some Jvm.ClassFile.FieldType.int)) ∈ li_ws := li_mem 842 (by decide +kernel) (by decide +kernel)
theorem w_876 : (Jvm.Cond.methodLink "ClockForTalkLaw" (83 : Nat) ({ cls := "ClockForTalk", name := "give", desc := "(III)I" } : Jvm.MethodName)) ∈ li_ws := li_mem 876 (by decide +kernel) (by decide +kernel)
theorem w_877 : (Jvm.Cond.instanceMethod ({ cls := "ClockForTalk", name := "give", desc := "(III)I" } : Jvm.MethodName)) ∈ li_ws := li_mem 877 (by decide +kernel) (by decide +kernel)
theorem w_878 : (Jvm.Cond.selects "ClockForTalk" ({ cls := "ClockForTalk", name := "give", desc := "(III)I" } : Jvm.MethodName) ({ cls := "ClockForTalk", name := "give", desc := "(III)I" } : Jvm.MethodName)) ∈ li_ws := li_mem 878 (by decide +kernel) (by decide +kernel)
theorem w_879 : (Jvm.Cond.code ({ cls := "ClockForTalk", name := "give", desc := "(III)I" } : Jvm.MethodName) prog_1_method_14_code (4 : Nat) (Option.some Jvm.ClassFile.FieldType.int)) ∈ li_ws := li_mem 879 (by decide +kernel) (by decide +kernel)
theorem w_894 : (Jvm.Cond.methodLink "ClockForTalkLaw" (88 : Nat) ({ cls := "ClockForTalk", name := "lend", desc := "(IIII)I" } : Jvm.MethodName)) ∈ li_ws := li_mem 894 (by decide +kernel) (by decide +kernel)
theorem w_895 : (Jvm.Cond.instanceMethod ({ cls := "ClockForTalk", name := "lend", desc := "(IIII)I" } : Jvm.MethodName)) ∈ li_ws := li_mem 895 (by decide +kernel) (by decide +kernel)
theorem w_896 : (Jvm.Cond.selects "ClockForTalk" ({ cls := "ClockForTalk", name := "lend", desc := "(IIII)I" } : Jvm.MethodName) ({ cls := "ClockForTalk", name := "lend", desc := "(IIII)I" } : Jvm.MethodName)) ∈ li_ws := li_mem 896 (by decide +kernel) (by decide +kernel)
theorem w_897 : (Jvm.Cond.code ({ cls := "ClockForTalk", name := "lend", desc := "(IIII)I" } : Jvm.MethodName) prog_1_method_15_code (5 : Nat) (Option.some Jvm.ClassFile.FieldType.int)) ∈ li_ws := li_mem 897 (by decide +kernel) (by decide +kernel)
theorem w_905 : (Jvm.Cond.methodLink "ClockForTalkLaw" (92 : Nat) ({ cls := "ClockForTalk", name := "days", desc := "(I)I" } : Jvm.MethodName)) ∈ li_ws := li_mem 905 (by decide +kernel) (by decide +kernel)
theorem w_906 : (Jvm.Cond.instanceMethod ({ cls := "ClockForTalk", name := "days", desc := "(I)I" } : Jvm.MethodName)) ∈ li_ws := li_mem 906 (by decide +kernel) (by decide +kernel)
theorem w_907 : (Jvm.Cond.selects "ClockForTalk" ({ cls := "ClockForTalk", name := "days", desc := "(I)I" } : Jvm.MethodName) ({ cls := "ClockForTalk", name := "days", desc := "(I)I" } : Jvm.MethodName)) ∈ li_ws := li_mem 907 (by decide +kernel) (by decide +kernel)
theorem w_908 : (Jvm.Cond.code ({ cls := "ClockForTalk", name := "days", desc := "(I)I" } : Jvm.MethodName) prog_1_method_16_code (5 : Nat) (Option.some Jvm.ClassFile.FieldType.int)) ∈ li_ws := li_mem 908 (by decide +kernel) (by decide +kernel)
theorem w_956 : (Jvm.Cond.methodLink "ClockForTalkLaw" (96 : Nat) ({ cls := "ClockForTalk", name := "talk", desc := "()I" } : Jvm.MethodName)) ∈ li_ws := li_mem 956 (by decide +kernel) (by decide +kernel)
theorem w_957 : (Jvm.Cond.instanceMethod ({ cls := "ClockForTalk", name := "talk", desc := "()I" } : Jvm.MethodName)) ∈ li_ws := li_mem 957 (by decide +kernel) (by decide +kernel)
theorem w_958 : (Jvm.Cond.selects "ClockForTalk" ({ cls := "ClockForTalk", name := "talk", desc := "()I" } : Jvm.MethodName) ({ cls := "ClockForTalk", name := "talk", desc := "()I" } : Jvm.MethodName)) ∈ li_ws := li_mem 958 (by decide +kernel) (by decide +kernel)
theorem w_959 : (Jvm.Cond.code ({ cls := "ClockForTalk", name := "talk", desc := "()I" } : Jvm.MethodName) prog_1_method_17_code (6 : Nat) (Option.some Jvm.ClassFile.FieldType.int)) ∈ li_ws := li_mem 959 (by decide +kernel) (by decide +kernel)
theorem w_976 : (Jvm.Cond.methodLink "ClockForTalkLaw" (100 : Nat) ({ cls := "ClockForTalk", name := "undo", desc := "()I" } : Jvm.MethodName)) ∈ li_ws := li_mem 976 (by decide +kernel) (by decide +kernel)
theorem w_977 : (Jvm.Cond.instanceMethod ({ cls := "ClockForTalk", name := "undo", desc := "()I" } : Jvm.MethodName)) ∈ li_ws := li_mem 977 (by decide +kernel) (by decide +kernel)
theorem w_978 : (Jvm.Cond.selects "ClockForTalk" ({ cls := "ClockForTalk", name := "undo", desc := "()I" } : Jvm.MethodName) ({ cls := "ClockForTalk", name := "undo", desc := "()I" } : Jvm.MethodName)) ∈ li_ws := li_mem 978 (by decide +kernel) (by decide +kernel)
theorem w_979 : (Jvm.Cond.code ({ cls := "ClockForTalk", name := "undo", desc := "()I" } : Jvm.MethodName) prog_1_method_18_code (1 : Nat) (Option.some Jvm.ClassFile.FieldType.int)) ∈ li_ws := li_mem 979 (by decide +kernel) (by decide +kernel)
theorem w_984 : (Jvm.Cond.methodLink "ClockForTalkLaw" (104 : Nat) ({ cls := "ClockForTalk", name := "best", desc := "(I)I" } : Jvm.MethodName)) ∈ li_ws := li_mem 984 (by decide +kernel) (by decide +kernel)
theorem w_985 : (Jvm.Cond.instanceMethod ({ cls := "ClockForTalk", name := "best", desc := "(I)I" } : Jvm.MethodName)) ∈ li_ws := li_mem 985 (by decide +kernel) (by decide +kernel)
theorem w_986 : (Jvm.Cond.selects "ClockForTalk" ({ cls := "ClockForTalk", name := "best", desc := "(I)I" } : Jvm.MethodName) ({ cls := "ClockForTalk", name := "best", desc := "(I)I" } : Jvm.MethodName)) ∈ li_ws := li_mem 986 (by decide +kernel) (by decide +kernel)
theorem w_987 : (Jvm.Cond.code ({ cls := "ClockForTalk", name := "best", desc := "(I)I" } : Jvm.MethodName) prog_1_method_19_code (2 : Nat) (Option.some Jvm.ClassFile.FieldType.int)) ∈ li_ws := li_mem 987 (by decide +kernel) (by decide +kernel)
theorem w_1021 : (Jvm.Cond.methodLink "ClockForTalkLaw" (108 : Nat) ({ cls := "ClockForTalk", name := "lacks", desc := "(I)I" } : Jvm.MethodName)) ∈ li_ws := li_mem 1021 (by decide +kernel) (by decide +kernel)
theorem w_1022 : (Jvm.Cond.instanceMethod ({ cls := "ClockForTalk", name := "lacks", desc := "(I)I" } : Jvm.MethodName)) ∈ li_ws := li_mem 1022 (by decide +kernel) (by decide +kernel)
theorem w_1023 : (Jvm.Cond.selects "ClockForTalk" ({ cls := "ClockForTalk", name := "lacks", desc := "(I)I" } : Jvm.MethodName) ({ cls := "ClockForTalk", name := "lacks", desc := "(I)I" } : Jvm.MethodName)) ∈ li_ws := li_mem 1023 (by decide +kernel) (by decide +kernel)
theorem w_1024 : (Jvm.Cond.code ({ cls := "ClockForTalk", name := "lacks", desc := "(I)I" } : Jvm.MethodName) prog_1_method_20_code (4 : Nat) (Option.some Jvm.ClassFile.FieldType.int)) ∈ li_ws := li_mem 1024 (by decide +kernel) (by decide +kernel)
theorem w_1031 : (Jvm.Cond.methodLink "ClockForTalkLaw" (112 : Nat) ({ cls := "ClockForTalk", name := "pool", desc := "()I" } : Jvm.MethodName)) ∈ li_ws := li_mem 1031 (by decide +kernel) (by decide +kernel)
theorem w_1032 : (Jvm.Cond.instanceMethod ({ cls := "ClockForTalk", name := "pool", desc := "()I" } : Jvm.MethodName)) ∈ li_ws := li_mem 1032 (by decide +kernel) (by decide +kernel)
theorem w_1033 : (Jvm.Cond.selects "ClockForTalk" ({ cls := "ClockForTalk", name := "pool", desc := "()I" } : Jvm.MethodName) ({ cls := "ClockForTalk", name := "pool", desc := "()I" } : Jvm.MethodName)) ∈ li_ws := li_mem 1033 (by decide +kernel) (by decide +kernel)
theorem w_1034 : (Jvm.Cond.code ({ cls := "ClockForTalk", name := "pool", desc := "()I" } : Jvm.MethodName) prog_1_method_21_code (1 : Nat) (Option.some Jvm.ClassFile.FieldType.int)) ∈ li_ws := li_mem 1034 (by decide +kernel) (by decide +kernel)
theorem w_1037 : (Jvm.Cond.methodLink "ClockForTalkLaw" (116 : Nat) ({ cls := "ClockForTalk", name := "gifts", desc := "(I)I" } : Jvm.MethodName)) ∈ li_ws := li_mem 1037 (by decide +kernel) (by decide +kernel)
theorem w_1038 : (Jvm.Cond.instanceMethod ({ cls := "ClockForTalk", name := "gifts", desc := "(I)I" } : Jvm.MethodName)) ∈ li_ws := li_mem 1038 (by decide +kernel) (by decide +kernel)
theorem w_1039 : (Jvm.Cond.selects "ClockForTalk" ({ cls := "ClockForTalk", name := "gifts", desc := "(I)I" } : Jvm.MethodName) ({ cls := "ClockForTalk", name := "gifts", desc := "(I)I" } : Jvm.MethodName)) ∈ li_ws := li_mem 1039 (by decide +kernel) (by decide +kernel)
theorem w_1040 : (Jvm.Cond.code ({ cls := "ClockForTalk", name := "gifts", desc := "(I)I" } : Jvm.MethodName) prog_1_method_22_code (6 : Nat) (Option.some Jvm.ClassFile.FieldType.int)) ∈ li_ws := li_mem 1040 (by decide +kernel) (by decide +kernel)
theorem w_1049 : (Jvm.Cond.methodLink "ClockForTalkLaw" (120 : Nat) ({ cls := "ClockForTalk", name := "mute", desc := "()I" } : Jvm.MethodName)) ∈ li_ws := li_mem 1049 (by decide +kernel) (by decide +kernel)
theorem w_1050 : (Jvm.Cond.instanceMethod ({ cls := "ClockForTalk", name := "mute", desc := "()I" } : Jvm.MethodName)) ∈ li_ws := li_mem 1050 (by decide +kernel) (by decide +kernel)
theorem w_1051 : (Jvm.Cond.selects "ClockForTalk" ({ cls := "ClockForTalk", name := "mute", desc := "()I" } : Jvm.MethodName) ({ cls := "ClockForTalk", name := "mute", desc := "()I" } : Jvm.MethodName)) ∈ li_ws := li_mem 1051 (by decide +kernel) (by decide +kernel)
theorem w_1052 : (Jvm.Cond.code ({ cls := "ClockForTalk", name := "mute", desc := "()I" } : Jvm.MethodName) prog_1_method_23_code (2 : Nat) (Option.some Jvm.ClassFile.FieldType.int)) ∈ li_ws := li_mem 1052 (by decide +kernel) (by decide +kernel)
theorem w_1057 : (Jvm.Cond.methodLink "ClockForTalkLaw" (124 : Nat) ({ cls := "ClockForTalk", name := "relay", desc := "(III)I" } : Jvm.MethodName)) ∈ li_ws := li_mem 1057 (by decide +kernel) (by decide +kernel)
theorem w_1058 : (Jvm.Cond.instanceMethod ({ cls := "ClockForTalk", name := "relay", desc := "(III)I" } : Jvm.MethodName)) ∈ li_ws := li_mem 1058 (by decide +kernel) (by decide +kernel)
theorem w_1059 : (Jvm.Cond.selects "ClockForTalk" ({ cls := "ClockForTalk", name := "relay", desc := "(III)I" } : Jvm.MethodName) ({ cls := "ClockForTalk", name := "relay", desc := "(III)I" } : Jvm.MethodName)) ∈ li_ws := li_mem 1059 (by decide +kernel) (by decide +kernel)
theorem w_1060 : (Jvm.Cond.code ({ cls := "ClockForTalk", name := "relay", desc := "(III)I" } : Jvm.MethodName) prog_1_method_24_code (4 : Nat) (Option.some Jvm.ClassFile.FieldType.int)) ∈ li_ws := li_mem 1060 (by decide +kernel) (by decide +kernel)
theorem w_1086 : (Jvm.Cond.methodLink "ClockForTalkLaw" (128 : Nat) ({ cls := "ClockForTalk", name := "criers", desc := "(III)I" } : Jvm.MethodName)) ∈ li_ws := li_mem 1086 (by decide +kernel) (by decide +kernel)
theorem w_1087 : (Jvm.Cond.instanceMethod ({ cls := "ClockForTalk", name := "criers", desc := "(III)I" } : Jvm.MethodName)) ∈ li_ws := li_mem 1087 (by decide +kernel) (by decide +kernel)
theorem w_1088 : (Jvm.Cond.selects "ClockForTalk" ({ cls := "ClockForTalk", name := "criers", desc := "(III)I" } : Jvm.MethodName) ({ cls := "ClockForTalk", name := "criers", desc := "(III)I" } : Jvm.MethodName)) ∈ li_ws := li_mem 1088 (by decide +kernel) (by decide +kernel)
theorem w_1089 : (Jvm.Cond.code ({ cls := "ClockForTalk", name := "criers", desc := "(III)I" } : Jvm.MethodName) prog_1_method_25_code (5 : Nat) (Option.some Jvm.ClassFile.FieldType.int)) ∈ li_ws := li_mem 1089 (by decide +kernel) (by decide +kernel)
theorem w_1104 : (Jvm.Cond.methodLink "ClockForTalkLaw" (132 : Nat) ({ cls := "ClockForTalk", name := "debate", desc := "(III)I" } : Jvm.MethodName)) ∈ li_ws := li_mem 1104 (by decide +kernel) (by decide +kernel)
theorem w_1105 : (Jvm.Cond.instanceMethod ({ cls := "ClockForTalk", name := "debate", desc := "(III)I" } : Jvm.MethodName)) ∈ li_ws := li_mem 1105 (by decide +kernel) (by decide +kernel)
theorem w_1106 : (Jvm.Cond.selects "ClockForTalk" ({ cls := "ClockForTalk", name := "debate", desc := "(III)I" } : Jvm.MethodName) ({ cls := "ClockForTalk", name := "debate", desc := "(III)I" } : Jvm.MethodName)) ∈ li_ws := li_mem 1106 (by decide +kernel) (by decide +kernel)
theorem w_1107 : (Jvm.Cond.code ({ cls := "ClockForTalk", name := "debate", desc := "(III)I" } : Jvm.MethodName) prog_1_method_26_code (5 : Nat) (Option.some Jvm.ClassFile.FieldType.int)) ∈ li_ws := li_mem 1107 (by decide +kernel) (by decide +kernel)
theorem w_1108 : (Jvm.Cond.methodLink "ClockForTalkLaw" (136 : Nat) ({ cls := "ClockForTalk", name := "enough", desc := "(II)I" } : Jvm.MethodName)) ∈ li_ws := li_mem 1108 (by decide +kernel) (by decide +kernel)
theorem w_1109 : (Jvm.Cond.instanceMethod ({ cls := "ClockForTalk", name := "enough", desc := "(II)I" } : Jvm.MethodName)) ∈ li_ws := li_mem 1109 (by decide +kernel) (by decide +kernel)
theorem w_1110 : (Jvm.Cond.selects "ClockForTalk" ({ cls := "ClockForTalk", name := "enough", desc := "(II)I" } : Jvm.MethodName) ({ cls := "ClockForTalk", name := "enough", desc := "(II)I" } : Jvm.MethodName)) ∈ li_ws := li_mem 1110 (by decide +kernel) (by decide +kernel)
theorem w_1111 : (Jvm.Cond.code ({ cls := "ClockForTalk", name := "enough", desc := "(II)I" } : Jvm.MethodName) prog_1_method_27_code (3 : Nat) (Option.some Jvm.ClassFile.FieldType.int)) ∈ li_ws := li_mem 1111 (by decide +kernel) (by decide +kernel)
theorem w_1112 : (Jvm.Cond.methodLink "ClockForTalkLaw" (140 : Nat) ({ cls := "ClockForTalk", name := "grammar", desc := "()I" } : Jvm.MethodName)) ∈ li_ws := li_mem 1112 (by decide +kernel) (by decide +kernel)
theorem w_1113 : (Jvm.Cond.instanceMethod ({ cls := "ClockForTalk", name := "grammar", desc := "()I" } : Jvm.MethodName)) ∈ li_ws := li_mem 1113 (by decide +kernel) (by decide +kernel)
theorem w_1114 : (Jvm.Cond.selects "ClockForTalk" ({ cls := "ClockForTalk", name := "grammar", desc := "()I" } : Jvm.MethodName) ({ cls := "ClockForTalk", name := "grammar", desc := "()I" } : Jvm.MethodName)) ∈ li_ws := li_mem 1114 (by decide +kernel) (by decide +kernel)
theorem w_1115 : (Jvm.Cond.code ({ cls := "ClockForTalk", name := "grammar", desc := "()I" } : Jvm.MethodName) prog_1_method_28_code (2 : Nat) (Option.some Jvm.ClassFile.FieldType.int)) ∈ li_ws := li_mem 1115 (by decide +kernel) (by decide +kernel)
theorem w_1121 : (Jvm.Cond.methodLink "ClockForTalkLaw" (144 : Nat) ({ cls := "ClockForTalk", name := "shorter", desc := "()I" } : Jvm.MethodName)) ∈ li_ws := li_mem 1121 (by decide +kernel) (by decide +kernel)
theorem w_1122 : (Jvm.Cond.instanceMethod ({ cls := "ClockForTalk", name := "shorter", desc := "()I" } : Jvm.MethodName)) ∈ li_ws := li_mem 1122 (by decide +kernel) (by decide +kernel)
theorem w_1123 : (Jvm.Cond.selects "ClockForTalk" ({ cls := "ClockForTalk", name := "shorter", desc := "()I" } : Jvm.MethodName) ({ cls := "ClockForTalk", name := "shorter", desc := "()I" } : Jvm.MethodName)) ∈ li_ws := li_mem 1123 (by decide +kernel) (by decide +kernel)
theorem w_1124 : (Jvm.Cond.code ({ cls := "ClockForTalk", name := "shorter", desc := "()I" } : Jvm.MethodName) prog_1_method_29_code (3 : Nat) (Option.some Jvm.ClassFile.FieldType.int)) ∈ li_ws := li_mem 1124 (by decide +kernel) (by decide +kernel)
theorem w_1155 : (Jvm.Cond.methodLink "ClockForTalkLaw" (148 : Nat) ({ cls := "ClockForTalk", name := "becomes", desc := "()I" } : Jvm.MethodName)) ∈ li_ws := li_mem 1155 (by decide +kernel) (by decide +kernel)
theorem w_1156 : (Jvm.Cond.instanceMethod ({ cls := "ClockForTalk", name := "becomes", desc := "()I" } : Jvm.MethodName)) ∈ li_ws := li_mem 1156 (by decide +kernel) (by decide +kernel)
theorem w_1157 : (Jvm.Cond.selects "ClockForTalk" ({ cls := "ClockForTalk", name := "becomes", desc := "()I" } : Jvm.MethodName) ({ cls := "ClockForTalk", name := "becomes", desc := "()I" } : Jvm.MethodName)) ∈ li_ws := li_mem 1157 (by decide +kernel) (by decide +kernel)
theorem w_1158 : (Jvm.Cond.code ({ cls := "ClockForTalk", name := "becomes", desc := "()I" } : Jvm.MethodName) prog_1_method_30_code (2 : Nat) (Option.some Jvm.ClassFile.FieldType.int)) ∈ li_ws := li_mem 1158 (by decide +kernel) (by decide +kernel)
theorem w_1160 : (Jvm.Cond.methodLink "ClockForTalkLaw" (152 : Nat) ({ cls := "ClockForTalk", name := "read", desc := "(II)I" } : Jvm.MethodName)) ∈ li_ws := li_mem 1160 (by decide +kernel) (by decide +kernel)
theorem w_1161 : (Jvm.Cond.instanceMethod ({ cls := "ClockForTalk", name := "read", desc := "(II)I" } : Jvm.MethodName)) ∈ li_ws := li_mem 1161 (by decide +kernel) (by decide +kernel)
theorem w_1162 : (Jvm.Cond.selects "ClockForTalk" ({ cls := "ClockForTalk", name := "read", desc := "(II)I" } : Jvm.MethodName) ({ cls := "ClockForTalk", name := "read", desc := "(II)I" } : Jvm.MethodName)) ∈ li_ws := li_mem 1162 (by decide +kernel) (by decide +kernel)
theorem w_1163 : (Jvm.Cond.code ({ cls := "ClockForTalk", name := "read", desc := "(II)I" } : Jvm.MethodName) prog_1_method_31_code (3 : Nat) (Option.some Jvm.ClassFile.FieldType.int)) ∈ li_ws := li_mem 1163 (by decide +kernel) (by decide +kernel)
theorem w_1169 : (Jvm.Cond.methodLink "ClockForTalkLaw" (156 : Nat) ({ cls := "ClockForTalk", name := "forget", desc := "()I" } : Jvm.MethodName)) ∈ li_ws := li_mem 1169 (by decide +kernel) (by decide +kernel)
theorem w_1170 : (Jvm.Cond.instanceMethod ({ cls := "ClockForTalk", name := "forget", desc := "()I" } : Jvm.MethodName)) ∈ li_ws := li_mem 1170 (by decide +kernel) (by decide +kernel)
theorem w_1171 : (Jvm.Cond.selects "ClockForTalk" ({ cls := "ClockForTalk", name := "forget", desc := "()I" } : Jvm.MethodName) ({ cls := "ClockForTalk", name := "forget", desc := "()I" } : Jvm.MethodName)) ∈ li_ws := li_mem 1171 (by decide +kernel) (by decide +kernel)
theorem w_1172 : (Jvm.Cond.code ({ cls := "ClockForTalk", name := "forget", desc := "()I" } : Jvm.MethodName) prog_1_method_32_code (2 : Nat) (Option.some Jvm.ClassFile.FieldType.int)) ∈ li_ws := li_mem 1172 (by decide +kernel) (by decide +kernel)
theorem w_1173 : (Jvm.Cond.methodLink "ClockForTalkLaw" (160 : Nat) ({ cls := "ClockForTalk", name := "spoke", desc := "(I)I" } : Jvm.MethodName)) ∈ li_ws := li_mem 1173 (by decide +kernel) (by decide +kernel)
theorem w_1174 : (Jvm.Cond.instanceMethod ({ cls := "ClockForTalk", name := "spoke", desc := "(I)I" } : Jvm.MethodName)) ∈ li_ws := li_mem 1174 (by decide +kernel) (by decide +kernel)
theorem w_1175 : (Jvm.Cond.selects "ClockForTalk" ({ cls := "ClockForTalk", name := "spoke", desc := "(I)I" } : Jvm.MethodName) ({ cls := "ClockForTalk", name := "spoke", desc := "(I)I" } : Jvm.MethodName)) ∈ li_ws := li_mem 1175 (by decide +kernel) (by decide +kernel)
theorem w_1176 : (Jvm.Cond.code ({ cls := "ClockForTalk", name := "spoke", desc := "(I)I" } : Jvm.MethodName) prog_1_method_33_code (2 : Nat) (Option.some Jvm.ClassFile.FieldType.int)) ∈ li_ws := li_mem 1176 (by decide +kernel) (by decide +kernel)
theorem w_1214 : (Jvm.Cond.methodLink "ClockForTalkLaw" (164 : Nat) ({ cls := "ClockForTalk", name := "look", desc := "()I" } : Jvm.MethodName)) ∈ li_ws := li_mem 1214 (by decide +kernel) (by decide +kernel)
theorem w_1215 : (Jvm.Cond.instanceMethod ({ cls := "ClockForTalk", name := "look", desc := "()I" } : Jvm.MethodName)) ∈ li_ws := li_mem 1215 (by decide +kernel) (by decide +kernel)
theorem w_1216 : (Jvm.Cond.selects "ClockForTalk" ({ cls := "ClockForTalk", name := "look", desc := "()I" } : Jvm.MethodName) ({ cls := "ClockForTalk", name := "look", desc := "()I" } : Jvm.MethodName)) ∈ li_ws := li_mem 1216 (by decide +kernel) (by decide +kernel)
theorem w_1217 : (Jvm.Cond.code ({ cls := "ClockForTalk", name := "look", desc := "()I" } : Jvm.MethodName) prog_1_method_34_code (5 : Nat) (Option.some Jvm.ClassFile.FieldType.int)) ∈ li_ws := li_mem 1217 (by decide +kernel) (by decide +kernel)
theorem w_1228 : (Jvm.Cond.methodLink "ClockForTalkLaw" (168 : Nat) ({ cls := "ClockForTalk", name := "rate", desc := "()I" } : Jvm.MethodName)) ∈ li_ws := li_mem 1228 (by decide +kernel) (by decide +kernel)
theorem w_1229 : (Jvm.Cond.instanceMethod ({ cls := "ClockForTalk", name := "rate", desc := "()I" } : Jvm.MethodName)) ∈ li_ws := li_mem 1229 (by decide +kernel) (by decide +kernel)
theorem w_1230 : (Jvm.Cond.selects "ClockForTalk" ({ cls := "ClockForTalk", name := "rate", desc := "()I" } : Jvm.MethodName) ({ cls := "ClockForTalk", name := "rate", desc := "()I" } : Jvm.MethodName)) ∈ li_ws := li_mem 1230 (by decide +kernel) (by decide +kernel)
theorem w_1231 : (Jvm.Cond.code ({ cls := "ClockForTalk", name := "rate", desc := "()I" } : Jvm.MethodName) prog_1_method_35_code (4 : Nat) (Option.some Jvm.ClassFile.FieldType.int)) ∈ li_ws := li_mem 1231 (by decide +kernel) (by decide +kernel)
theorem w_1236 : (Jvm.Cond.methodLink "ClockForTalkLaw" (172 : Nat) ({ cls := "ClockForTalk", name := "run", desc := "(I)I" } : Jvm.MethodName)) ∈ li_ws := li_mem 1236 (by decide +kernel) (by decide +kernel)
theorem w_1237 : (Jvm.Cond.instanceMethod ({ cls := "ClockForTalk", name := "run", desc := "(I)I" } : Jvm.MethodName)) ∈ li_ws := li_mem 1237 (by decide +kernel) (by decide +kernel)
theorem w_1238 : (Jvm.Cond.selects "ClockForTalk" ({ cls := "ClockForTalk", name := "run", desc := "(I)I" } : Jvm.MethodName) ({ cls := "ClockForTalk", name := "run", desc := "(I)I" } : Jvm.MethodName)) ∈ li_ws := li_mem 1238 (by decide +kernel) (by decide +kernel)
theorem w_1239 : (Jvm.Cond.code ({ cls := "ClockForTalk", name := "run", desc := "(I)I" } : Jvm.MethodName) prog_1_method_36_code (3 : Nat) (Option.some Jvm.ClassFile.FieldType.int)) ∈ li_ws := li_mem 1239 (by decide +kernel) (by decide +kernel)
theorem w_1265 : (Jvm.Cond.methodLink "ClockForTalkLaw" (176 : Nat) ({ cls := "ClockForTalk", name := "years", desc := "(II)I" } : Jvm.MethodName)) ∈ li_ws := li_mem 1265 (by decide +kernel) (by decide +kernel)
theorem w_1266 : (Jvm.Cond.instanceMethod ({ cls := "ClockForTalk", name := "years", desc := "(II)I" } : Jvm.MethodName)) ∈ li_ws := li_mem 1266 (by decide +kernel) (by decide +kernel)
theorem w_1267 : (Jvm.Cond.selects "ClockForTalk" ({ cls := "ClockForTalk", name := "years", desc := "(II)I" } : Jvm.MethodName) ({ cls := "ClockForTalk", name := "years", desc := "(II)I" } : Jvm.MethodName)) ∈ li_ws := li_mem 1267 (by decide +kernel) (by decide +kernel)
theorem w_1268 : (Jvm.Cond.code ({ cls := "ClockForTalk", name := "years", desc := "(II)I" } : Jvm.MethodName) prog_1_method_37_code (10 : Nat) (Option.some Jvm.ClassFile.FieldType.int)) ∈ li_ws := li_mem 1268 (by decide +kernel) (by decide +kernel)
theorem w_1274 : (Jvm.Cond.methodLink "ClockForTalkLaw" (180 : Nat) ({ cls := "ClockForTalk", name := "keep", desc := "(I)Z" } : Jvm.MethodName)) ∈ li_ws := li_mem 1274 (by decide +kernel) (by decide +kernel)
theorem w_1275 : (Jvm.Cond.instanceMethod ({ cls := "ClockForTalk", name := "keep", desc := "(I)Z" } : Jvm.MethodName)) ∈ li_ws := li_mem 1275 (by decide +kernel) (by decide +kernel)
theorem w_1276 : (Jvm.Cond.selects "ClockForTalk" ({ cls := "ClockForTalk", name := "keep", desc := "(I)Z" } : Jvm.MethodName) ({ cls := "ClockForTalk", name := "keep", desc := "(I)Z" } : Jvm.MethodName)) ∈ li_ws := li_mem 1276 (by decide +kernel) (by decide +kernel)
theorem w_1277 : (Jvm.Cond.code ({ cls := "ClockForTalk", name := "keep", desc := "(I)Z" } : Jvm.MethodName) prog_1_method_38_code (2 : Nat) (Option.some Jvm.ClassFile.FieldType.boolean)) ∈ li_ws := li_mem 1277 (by decide +kernel) (by decide +kernel)
theorem w_1282 : (Jvm.Cond.methodLink "ClockForTalkLaw" (184 : Nat) ({ cls := "ClockForTalk", name := "again", desc := "(I)Z" } : Jvm.MethodName)) ∈ li_ws := li_mem 1282 (by decide +kernel) (by decide +kernel)
theorem w_1283 : (Jvm.Cond.instanceMethod ({ cls := "ClockForTalk", name := "again", desc := "(I)Z" } : Jvm.MethodName)) ∈ li_ws := li_mem 1283 (by decide +kernel) (by decide +kernel)
theorem w_1284 : (Jvm.Cond.selects "ClockForTalk" ({ cls := "ClockForTalk", name := "again", desc := "(I)Z" } : Jvm.MethodName) ({ cls := "ClockForTalk", name := "again", desc := "(I)Z" } : Jvm.MethodName)) ∈ li_ws := li_mem 1284 (by decide +kernel) (by decide +kernel)
theorem w_1285 : (Jvm.Cond.code ({ cls := "ClockForTalk", name := "again", desc := "(I)Z" } : Jvm.MethodName) prog_1_method_39_code (2 : Nat) (Option.some Jvm.ClassFile.FieldType.boolean)) ∈ li_ws := li_mem 1285 (by decide +kernel) (by decide +kernel)
theorem w_1291 : (Jvm.Cond.methodLink "ClockForTalkLaw" (188 : Nat) ({ cls := "ClockForTalk", name := "count", desc := "(I)I" } : Jvm.MethodName)) ∈ li_ws := li_mem 1291 (by decide +kernel) (by decide +kernel)
theorem w_1292 : (Jvm.Cond.instanceMethod ({ cls := "ClockForTalk", name := "count", desc := "(I)I" } : Jvm.MethodName)) ∈ li_ws := li_mem 1292 (by decide +kernel) (by decide +kernel)
theorem w_1293 : (Jvm.Cond.selects "ClockForTalk" ({ cls := "ClockForTalk", name := "count", desc := "(I)I" } : Jvm.MethodName) ({ cls := "ClockForTalk", name := "count", desc := "(I)I" } : Jvm.MethodName)) ∈ li_ws := li_mem 1293 (by decide +kernel) (by decide +kernel)
theorem w_1294 : (Jvm.Cond.code ({ cls := "ClockForTalk", name := "count", desc := "(I)I" } : Jvm.MethodName) prog_1_method_40_code (2 : Nat) (Option.some Jvm.ClassFile.FieldType.int)) ∈ li_ws := li_mem 1294 (by decide +kernel) (by decide +kernel)
theorem w_1295 : (Jvm.Cond.methodLink "ClockForTalkLaw" (51 : Nat) ({ cls := "ClockForTalkLaw", name := "person", desc := "(LClockForTalk;II[J)I" } : Jvm.MethodName)) ∈ li_ws := li_mem 1295 (by decide +kernel) (by decide +kernel)
theorem w_1296 : (Jvm.Cond.static ({ cls := "ClockForTalkLaw", name := "person", desc := "(LClockForTalk;II[J)I" } : Jvm.MethodName)) ∈ li_ws := li_mem 1296 (by decide +kernel) (by decide +kernel)
theorem w_1371 : (Jvm.Cond.methodLink "ClockForTalkLaw" (60 : Nat) ({ cls := "ClockForTalkLaw", name := "thing", desc := "(LClockForTalk;II[J)I" } : Jvm.MethodName)) ∈ li_ws := li_mem 1371 (by decide +kernel) (by decide +kernel)
theorem w_1372 : (Jvm.Cond.static ({ cls := "ClockForTalkLaw", name := "thing", desc := "(LClockForTalk;II[J)I" } : Jvm.MethodName)) ∈ li_ws := li_mem 1372 (by decide +kernel) (by decide +kernel)
theorem w_1380 : (Jvm.Cond.methodLink "ClockForTalkLaw" (63 : Nat) ({ cls := "ClockForTalkLaw", name := "loan", desc := "(LClockForTalk;II[J)I" } : Jvm.MethodName)) ∈ li_ws := li_mem 1380 (by decide +kernel) (by decide +kernel)
theorem w_1381 : (Jvm.Cond.static ({ cls := "ClockForTalkLaw", name := "loan", desc := "(LClockForTalk;II[J)I" } : Jvm.MethodName)) ∈ li_ws := li_mem 1381 (by decide +kernel) (by decide +kernel)
theorem w_1388 : (Jvm.Cond.methodLink "ClockForTalkLaw" (192 : Nat) ({ cls := "ClockForTalkLaw", name := "row", desc := "(LClockForTalk;I[J)I" } : Jvm.MethodName)) ∈ li_ws := li_mem 1388 (by decide +kernel) (by decide +kernel)
theorem w_1389 : (Jvm.Cond.static ({ cls := "ClockForTalkLaw", name := "row", desc := "(LClockForTalk;I[J)I" } : Jvm.MethodName)) ∈ li_ws := li_mem 1389 (by decide +kernel) (by decide +kernel)
theorem w_1562 : (Jvm.Cond.methodLink "ClockForTalkLaw" (57 : Nat) ({ cls := "ClockForTalkModel", name := "thrown", desc := "()I" } : Jvm.MethodName)) ∈ li_ws := li_mem 1562 (by decide +kernel) (by decide +kernel)
theorem w_1563 : (Jvm.Cond.instanceMethod ({ cls := "ClockForTalkModel", name := "thrown", desc := "()I" } : Jvm.MethodName)) ∈ li_ws := li_mem 1563 (by decide +kernel) (by decide +kernel)
theorem w_1564 : (Jvm.Cond.selects "ClockForTalkModel" ({ cls := "ClockForTalkModel", name := "thrown", desc := "()I" } : Jvm.MethodName) ({ cls := "ClockForTalkModel", name := "thrown", desc := "()I" } : Jvm.MethodName)) ∈ li_ws := li_mem 1564 (by decide +kernel) (by decide +kernel)
theorem w_1565 : (Jvm.Cond.code ({ cls := "ClockForTalkModel", name := "thrown", desc := "()I" } : Jvm.MethodName) prog_13_method_2_code (1 : Nat) (Option.some Jvm.ClassFile.FieldType.int)) ∈ li_ws := li_mem 1565 (by decide +kernel) (by decide +kernel)
theorem w_1566 : (Jvm.Cond.methodLink "ClockForTalkLaw" (32 : Nat) ({ cls := "ClockForTalkModel", name := "sign", desc := "(I)I" } : Jvm.MethodName)) ∈ li_ws := li_mem 1566 (by decide +kernel) (by decide +kernel)
theorem w_1567 : (Jvm.Cond.instanceMethod ({ cls := "ClockForTalkModel", name := "sign", desc := "(I)I" } : Jvm.MethodName)) ∈ li_ws := li_mem 1567 (by decide +kernel) (by decide +kernel)
theorem w_1568 : (Jvm.Cond.selects "ClockForTalkModel" ({ cls := "ClockForTalkModel", name := "sign", desc := "(I)I" } : Jvm.MethodName) ({ cls := "ClockForTalkModel", name := "sign", desc := "(I)I" } : Jvm.MethodName)) ∈ li_ws := li_mem 1568 (by decide +kernel) (by decide +kernel)
theorem w_1569 : (Jvm.Cond.code ({ cls := "ClockForTalkModel", name := "sign", desc := "(I)I" } : Jvm.MethodName) prog_13_method_10_code (3 : Nat) (Option.some Jvm.ClassFile.FieldType.int)) ∈ li_ws := li_mem 1569 (by decide +kernel) (by decide +kernel)
theorem w_1570 : (Jvm.Cond.methodLink "ClockForTalkLaw" (37 : Nat) ({ cls := "ClockForTalkModel", name := "end", desc := "(I)Z" } : Jvm.MethodName)) ∈ li_ws := li_mem 1570 (by decide +kernel) (by decide +kernel)
theorem w_1571 : (Jvm.Cond.instanceMethod ({ cls := "ClockForTalkModel", name := "end", desc := "(I)Z" } : Jvm.MethodName)) ∈ li_ws := li_mem 1571 (by decide +kernel) (by decide +kernel)
theorem w_1572 : (Jvm.Cond.selects "ClockForTalkModel" ({ cls := "ClockForTalkModel", name := "end", desc := "(I)Z" } : Jvm.MethodName) ({ cls := "ClockForTalkModel", name := "end", desc := "(I)Z" } : Jvm.MethodName)) ∈ li_ws := li_mem 1572 (by decide +kernel) (by decide +kernel)
theorem w_1573 : (Jvm.Cond.code ({ cls := "ClockForTalkModel", name := "end", desc := "(I)Z" } : Jvm.MethodName) prog_13_method_11_code (2 : Nat) (Option.some Jvm.ClassFile.FieldType.boolean)) ∈ li_ws := li_mem 1573 (by decide +kernel) (by decide +kernel)
theorem w_1577 : (Jvm.Cond.methodLink "ClockForTalkLaw" (42 : Nat) ({ cls := "ClockForTalkModel", name := "people", desc := "()I" } : Jvm.MethodName)) ∈ li_ws := li_mem 1577 (by decide +kernel) (by decide +kernel)
theorem w_1578 : (Jvm.Cond.instanceMethod ({ cls := "ClockForTalkModel", name := "people", desc := "()I" } : Jvm.MethodName)) ∈ li_ws := li_mem 1578 (by decide +kernel) (by decide +kernel)
theorem w_1579 : (Jvm.Cond.selects "ClockForTalkModel" ({ cls := "ClockForTalkModel", name := "people", desc := "()I" } : Jvm.MethodName) ({ cls := "ClockForTalkModel", name := "people", desc := "()I" } : Jvm.MethodName)) ∈ li_ws := li_mem 1579 (by decide +kernel) (by decide +kernel)
theorem w_1580 : (Jvm.Cond.code ({ cls := "ClockForTalkModel", name := "people", desc := "()I" } : Jvm.MethodName) prog_13_method_20_code (4 : Nat) (Option.some Jvm.ClassFile.FieldType.int)) ∈ li_ws := li_mem 1580 (by decide +kernel) (by decide +kernel)
theorem w_1613 : (Jvm.Cond.methodLink "ClockForTalkLaw" (46 : Nat) ({ cls := "ClockForTalkModel", name := "things", desc := "()I" } : Jvm.MethodName)) ∈ li_ws := li_mem 1613 (by decide +kernel) (by decide +kernel)
theorem w_1614 : (Jvm.Cond.instanceMethod ({ cls := "ClockForTalkModel", name := "things", desc := "()I" } : Jvm.MethodName)) ∈ li_ws := li_mem 1614 (by decide +kernel) (by decide +kernel)
theorem w_1615 : (Jvm.Cond.selects "ClockForTalkModel" ({ cls := "ClockForTalkModel", name := "things", desc := "()I" } : Jvm.MethodName) ({ cls := "ClockForTalkModel", name := "things", desc := "()I" } : Jvm.MethodName)) ∈ li_ws := li_mem 1615 (by decide +kernel) (by decide +kernel)
theorem w_1616 : (Jvm.Cond.code ({ cls := "ClockForTalkModel", name := "things", desc := "()I" } : Jvm.MethodName) prog_13_method_22_code (4 : Nat) (Option.some Jvm.ClassFile.FieldType.int)) ∈ li_ws := li_mem 1616 (by decide +kernel) (by decide +kernel)
theorem w_1621 : (Jvm.Cond.methodLink "ClockForTalkLaw" (50 : Nat) ({ cls := "ClockForTalkModel", name := "rule", desc := "()I" } : Jvm.MethodName)) ∈ li_ws := li_mem 1621 (by decide +kernel) (by decide +kernel)
theorem w_1622 : (Jvm.Cond.instanceMethod ({ cls := "ClockForTalkModel", name := "rule", desc := "()I" } : Jvm.MethodName)) ∈ li_ws := li_mem 1622 (by decide +kernel) (by decide +kernel)
theorem w_1623 : (Jvm.Cond.selects "ClockForTalkModel" ({ cls := "ClockForTalkModel", name := "rule", desc := "()I" } : Jvm.MethodName) ({ cls := "ClockForTalkModel", name := "rule", desc := "()I" } : Jvm.MethodName)) ∈ li_ws := li_mem 1623 (by decide +kernel) (by decide +kernel)
theorem w_1624 : (Jvm.Cond.code ({ cls := "ClockForTalkModel", name := "rule", desc := "()I" } : Jvm.MethodName) prog_13_method_29_code (3 : Nat) (Option.some Jvm.ClassFile.FieldType.int)) ∈ li_ws := li_mem 1624 (by decide +kernel) (by decide +kernel)
theorem w_1648 : (Jvm.Cond.methodLink "ClockForTalkLaw" (56 : Nat) ({ cls := "ClockForTalkModel", name := "person", desc := "(II)I" } : Jvm.MethodName)) ∈ li_ws := li_mem 1648 (by decide +kernel) (by decide +kernel)
theorem w_1649 : (Jvm.Cond.instanceMethod ({ cls := "ClockForTalkModel", name := "person", desc := "(II)I" } : Jvm.MethodName)) ∈ li_ws := li_mem 1649 (by decide +kernel) (by decide +kernel)
theorem w_1650 : (Jvm.Cond.selects "ClockForTalkModel" ({ cls := "ClockForTalkModel", name := "person", desc := "(II)I" } : Jvm.MethodName) ({ cls := "ClockForTalkModel", name := "person", desc := "(II)I" } : Jvm.MethodName)) ∈ li_ws := li_mem 1650 (by decide +kernel) (by decide +kernel)
theorem w_1651 : (Jvm.Cond.code ({ cls := "ClockForTalkModel", name := "person", desc := "(II)I" } : Jvm.MethodName) prog_13_method_44_code (3 : Nat) (Option.some Jvm.ClassFile.FieldType.int)) ∈ li_ws := li_mem 1651 (by decide +kernel) (by decide +kernel)
theorem w_1664 : (Jvm.Cond.methodLink "ClockForTalkLaw" (62 : Nat) ({ cls := "ClockForTalkModel", name := "thing", desc := "(II)I" } : Jvm.MethodName)) ∈ li_ws := li_mem 1664 (by decide +kernel) (by decide +kernel)
theorem w_1665 : (Jvm.Cond.instanceMethod ({ cls := "ClockForTalkModel", name := "thing", desc := "(II)I" } : Jvm.MethodName)) ∈ li_ws := li_mem 1665 (by decide +kernel) (by decide +kernel)
theorem w_1666 : (Jvm.Cond.selects "ClockForTalkModel" ({ cls := "ClockForTalkModel", name := "thing", desc := "(II)I" } : Jvm.MethodName) ({ cls := "ClockForTalkModel", name := "thing", desc := "(II)I" } : Jvm.MethodName)) ∈ li_ws := li_mem 1666 (by decide +kernel) (by decide +kernel)
theorem w_1667 : (Jvm.Cond.code ({ cls := "ClockForTalkModel", name := "thing", desc := "(II)I" } : Jvm.MethodName) prog_13_method_45_code (3 : Nat) (Option.some Jvm.ClassFile.FieldType.int)) ∈ li_ws := li_mem 1667 (by decide +kernel) (by decide +kernel)
theorem w_1706 : (Jvm.Cond.methodLink "ClockForTalkLaw" (65 : Nat) ({ cls := "ClockForTalkModel", name := "loan", desc := "(II)I" } : Jvm.MethodName)) ∈ li_ws := li_mem 1706 (by decide +kernel) (by decide +kernel)
theorem w_1707 : (Jvm.Cond.instanceMethod ({ cls := "ClockForTalkModel", name := "loan", desc := "(II)I" } : Jvm.MethodName)) ∈ li_ws := li_mem 1707 (by decide +kernel) (by decide +kernel)
theorem w_1708 : (Jvm.Cond.selects "ClockForTalkModel" ({ cls := "ClockForTalkModel", name := "loan", desc := "(II)I" } : Jvm.MethodName) ({ cls := "ClockForTalkModel", name := "loan", desc := "(II)I" } : Jvm.MethodName)) ∈ li_ws := li_mem 1708 (by decide +kernel) (by decide +kernel)
theorem w_1709 : (Jvm.Cond.code ({ cls := "ClockForTalkModel", name := "loan", desc := "(II)I" } : Jvm.MethodName) prog_13_method_46_code (3 : Nat) (Option.some Jvm.ClassFile.FieldType.int)) ∈ li_ws := li_mem 1709 (by decide +kernel) (by decide +kernel)
theorem w_1710 : (Jvm.Cond.methodLink "ClockForTalkLaw" (69 : Nat) ({ cls := "ClockForTalkModel", name := "move", desc := "(II)I" } : Jvm.MethodName)) ∈ li_ws := li_mem 1710 (by decide +kernel) (by decide +kernel)
theorem w_1711 : (Jvm.Cond.instanceMethod ({ cls := "ClockForTalkModel", name := "move", desc := "(II)I" } : Jvm.MethodName)) ∈ li_ws := li_mem 1711 (by decide +kernel) (by decide +kernel)
theorem w_1712 : (Jvm.Cond.selects "ClockForTalkModel" ({ cls := "ClockForTalkModel", name := "move", desc := "(II)I" } : Jvm.MethodName) ({ cls := "ClockForTalkModel", name := "move", desc := "(II)I" } : Jvm.MethodName)) ∈ li_ws := li_mem 1712 (by decide +kernel) (by decide +kernel)
theorem w_1713 : (Jvm.Cond.code ({ cls := "ClockForTalkModel", name := "move", desc := "(II)I" } : Jvm.MethodName) prog_13_method_47_code (4 : Nat) (Option.some Jvm.ClassFile.FieldType.int)) ∈ li_ws := li_mem 1713 (by decide +kernel) (by decide +kernel)
theorem w_1714 : (Jvm.Cond.methodLink "ClockForTalkLaw" (74 : Nat) ({ cls := "ClockForTalkModel", name := "sheet", desc := "(IIII)I" } : Jvm.MethodName)) ∈ li_ws := li_mem 1714 (by decide +kernel) (by decide +kernel)
theorem w_1715 : (Jvm.Cond.instanceMethod ({ cls := "ClockForTalkModel", name := "sheet", desc := "(IIII)I" } : Jvm.MethodName)) ∈ li_ws := li_mem 1715 (by decide +kernel) (by decide +kernel)
theorem w_1716 : (Jvm.Cond.selects "ClockForTalkModel" ({ cls := "ClockForTalkModel", name := "sheet", desc := "(IIII)I" } : Jvm.MethodName) ({ cls := "ClockForTalkModel", name := "sheet", desc := "(IIII)I" } : Jvm.MethodName)) ∈ li_ws := li_mem 1716 (by decide +kernel) (by decide +kernel)
theorem w_1717 : (Jvm.Cond.code ({ cls := "ClockForTalkModel", name := "sheet", desc := "(IIII)I" } : Jvm.MethodName) prog_13_method_48_code (9 : Nat) (Option.some Jvm.ClassFile.FieldType.int)) ∈ li_ws := li_mem 1717 (by decide +kernel) (by decide +kernel)
theorem w_1718 : (Jvm.Cond.methodLink "ClockForTalkLaw" (78 : Nat) ({ cls := "ClockForTalkModel", name := "cost", desc := "(II)I" } : Jvm.MethodName)) ∈ li_ws := li_mem 1718 (by decide +kernel) (by decide +kernel)
theorem w_1719 : (Jvm.Cond.instanceMethod ({ cls := "ClockForTalkModel", name := "cost", desc := "(II)I" } : Jvm.MethodName)) ∈ li_ws := li_mem 1719 (by decide +kernel) (by decide +kernel)
theorem w_1720 : (Jvm.Cond.selects "ClockForTalkModel" ({ cls := "ClockForTalkModel", name := "cost", desc := "(II)I" } : Jvm.MethodName) ({ cls := "ClockForTalkModel", name := "cost", desc := "(II)I" } : Jvm.MethodName)) ∈ li_ws := li_mem 1720 (by decide +kernel) (by decide +kernel)
theorem w_1721 : (Jvm.Cond.code ({ cls := "ClockForTalkModel", name := "cost", desc := "(II)I" } : Jvm.MethodName) prog_13_method_51_code (3 : Nat) (Option.some Jvm.ClassFile.FieldType.int)) ∈ li_ws := li_mem 1721 (by decide +kernel) (by decide +kernel)
theorem w_1730 : (Jvm.Cond.methodLink "ClockForTalkLaw" (82 : Nat) ({ cls := "ClockForTalkModel", name := "say", desc := "(II)I" } : Jvm.MethodName)) ∈ li_ws := li_mem 1730 (by decide +kernel) (by decide +kernel)
theorem w_1731 : (Jvm.Cond.instanceMethod ({ cls := "ClockForTalkModel", name := "say", desc := "(II)I" } : Jvm.MethodName)) ∈ li_ws := li_mem 1731 (by decide +kernel) (by decide +kernel)
theorem w_1732 : (Jvm.Cond.selects "ClockForTalkModel" ({ cls := "ClockForTalkModel", name := "say", desc := "(II)I" } : Jvm.MethodName) ({ cls := "ClockForTalkModel", name := "say", desc := "(II)I" } : Jvm.MethodName)) ∈ li_ws := li_mem 1732 (by decide +kernel) (by decide +kernel)
theorem w_1733 : (Jvm.Cond.code ({ cls := "ClockForTalkModel", name := "say", desc := "(II)I" } : Jvm.MethodName) prog_13_method_54_code (4 : Nat) (Option.some Jvm.ClassFile.FieldType.int)) ∈ li_ws := li_mem 1733 (by decide +kernel) (by decide +kernel)
theorem w_1756 : (Jvm.Cond.methodLink "ClockForTalkLaw" (87 : Nat) ({ cls := "ClockForTalkModel", name := "give", desc := "(III)I" } : Jvm.MethodName)) ∈ li_ws := li_mem 1756 (by decide +kernel) (by decide +kernel)
theorem w_1757 : (Jvm.Cond.instanceMethod ({ cls := "ClockForTalkModel", name := "give", desc := "(III)I" } : Jvm.MethodName)) ∈ li_ws := li_mem 1757 (by decide +kernel) (by decide +kernel)
theorem w_1758 : (Jvm.Cond.selects "ClockForTalkModel" ({ cls := "ClockForTalkModel", name := "give", desc := "(III)I" } : Jvm.MethodName) ({ cls := "ClockForTalkModel", name := "give", desc := "(III)I" } : Jvm.MethodName)) ∈ li_ws := li_mem 1758 (by decide +kernel) (by decide +kernel)
theorem w_1759 : (Jvm.Cond.code ({ cls := "ClockForTalkModel", name := "give", desc := "(III)I" } : Jvm.MethodName) prog_13_method_57_code (5 : Nat) (Option.some Jvm.ClassFile.FieldType.int)) ∈ li_ws := li_mem 1759 (by decide +kernel) (by decide +kernel)
theorem w_1771 : (Jvm.Cond.methodLink "ClockForTalkLaw" (91 : Nat) ({ cls := "ClockForTalkModel", name := "lend", desc := "(IIII)I" } : Jvm.MethodName)) ∈ li_ws := li_mem 1771 (by decide +kernel) (by decide +kernel)
theorem w_1772 : (Jvm.Cond.instanceMethod ({ cls := "ClockForTalkModel", name := "lend", desc := "(IIII)I" } : Jvm.MethodName)) ∈ li_ws := li_mem 1772 (by decide +kernel) (by decide +kernel)
theorem w_1773 : (Jvm.Cond.selects "ClockForTalkModel" ({ cls := "ClockForTalkModel", name := "lend", desc := "(IIII)I" } : Jvm.MethodName) ({ cls := "ClockForTalkModel", name := "lend", desc := "(IIII)I" } : Jvm.MethodName)) ∈ li_ws := li_mem 1773 (by decide +kernel) (by decide +kernel)
theorem w_1774 : (Jvm.Cond.code ({ cls := "ClockForTalkModel", name := "lend", desc := "(IIII)I" } : Jvm.MethodName) prog_13_method_58_code (6 : Nat) (Option.some Jvm.ClassFile.FieldType.int)) ∈ li_ws := li_mem 1774 (by decide +kernel) (by decide +kernel)
theorem w_1775 : (Jvm.Cond.methodLink "ClockForTalkLaw" (95 : Nat) ({ cls := "ClockForTalkModel", name := "days", desc := "(I)I" } : Jvm.MethodName)) ∈ li_ws := li_mem 1775 (by decide +kernel) (by decide +kernel)
theorem w_1776 : (Jvm.Cond.instanceMethod ({ cls := "ClockForTalkModel", name := "days", desc := "(I)I" } : Jvm.MethodName)) ∈ li_ws := li_mem 1776 (by decide +kernel) (by decide +kernel)
theorem w_1777 : (Jvm.Cond.selects "ClockForTalkModel" ({ cls := "ClockForTalkModel", name := "days", desc := "(I)I" } : Jvm.MethodName) ({ cls := "ClockForTalkModel", name := "days", desc := "(I)I" } : Jvm.MethodName)) ∈ li_ws := li_mem 1777 (by decide +kernel) (by decide +kernel)
theorem w_1778 : (Jvm.Cond.code ({ cls := "ClockForTalkModel", name := "days", desc := "(I)I" } : Jvm.MethodName) prog_13_method_61_code (2 : Nat) (Option.some Jvm.ClassFile.FieldType.int)) ∈ li_ws := li_mem 1778 (by decide +kernel) (by decide +kernel)
theorem w_1791 : (Jvm.Cond.methodLink "ClockForTalkLaw" (99 : Nat) ({ cls := "ClockForTalkModel", name := "talk", desc := "()I" } : Jvm.MethodName)) ∈ li_ws := li_mem 1791 (by decide +kernel) (by decide +kernel)
theorem w_1792 : (Jvm.Cond.instanceMethod ({ cls := "ClockForTalkModel", name := "talk", desc := "()I" } : Jvm.MethodName)) ∈ li_ws := li_mem 1792 (by decide +kernel) (by decide +kernel)
theorem w_1793 : (Jvm.Cond.selects "ClockForTalkModel" ({ cls := "ClockForTalkModel", name := "talk", desc := "()I" } : Jvm.MethodName) ({ cls := "ClockForTalkModel", name := "talk", desc := "()I" } : Jvm.MethodName)) ∈ li_ws := li_mem 1793 (by decide +kernel) (by decide +kernel)
theorem w_1794 : (Jvm.Cond.code ({ cls := "ClockForTalkModel", name := "talk", desc := "()I" } : Jvm.MethodName) prog_13_method_62_code (4 : Nat) (Option.some Jvm.ClassFile.FieldType.int)) ∈ li_ws := li_mem 1794 (by decide +kernel) (by decide +kernel)
theorem w_1803 : (Jvm.Cond.methodLink "ClockForTalkLaw" (103 : Nat) ({ cls := "ClockForTalkModel", name := "undo", desc := "()I" } : Jvm.MethodName)) ∈ li_ws := li_mem 1803 (by decide +kernel) (by decide +kernel)
theorem w_1804 : (Jvm.Cond.instanceMethod ({ cls := "ClockForTalkModel", name := "undo", desc := "()I" } : Jvm.MethodName)) ∈ li_ws := li_mem 1804 (by decide +kernel) (by decide +kernel)
theorem w_1805 : (Jvm.Cond.selects "ClockForTalkModel" ({ cls := "ClockForTalkModel", name := "undo", desc := "()I" } : Jvm.MethodName) ({ cls := "ClockForTalkModel", name := "undo", desc := "()I" } : Jvm.MethodName)) ∈ li_ws := li_mem 1805 (by decide +kernel) (by decide +kernel)
theorem w_1806 : (Jvm.Cond.code ({ cls := "ClockForTalkModel", name := "undo", desc := "()I" } : Jvm.MethodName) prog_13_method_65_code (2 : Nat) (Option.some Jvm.ClassFile.FieldType.int)) ∈ li_ws := li_mem 1806 (by decide +kernel) (by decide +kernel)
theorem w_1807 : (Jvm.Cond.methodLink "ClockForTalkLaw" (107 : Nat) ({ cls := "ClockForTalkModel", name := "best", desc := "(I)I" } : Jvm.MethodName)) ∈ li_ws := li_mem 1807 (by decide +kernel) (by decide +kernel)
theorem w_1808 : (Jvm.Cond.instanceMethod ({ cls := "ClockForTalkModel", name := "best", desc := "(I)I" } : Jvm.MethodName)) ∈ li_ws := li_mem 1808 (by decide +kernel) (by decide +kernel)
theorem w_1809 : (Jvm.Cond.selects "ClockForTalkModel" ({ cls := "ClockForTalkModel", name := "best", desc := "(I)I" } : Jvm.MethodName) ({ cls := "ClockForTalkModel", name := "best", desc := "(I)I" } : Jvm.MethodName)) ∈ li_ws := li_mem 1809 (by decide +kernel) (by decide +kernel)
theorem w_1810 : (Jvm.Cond.code ({ cls := "ClockForTalkModel", name := "best", desc := "(I)I" } : Jvm.MethodName) prog_13_method_71_code (3 : Nat) (Option.some Jvm.ClassFile.FieldType.int)) ∈ li_ws := li_mem 1810 (by decide +kernel) (by decide +kernel)
theorem w_1839 : (Jvm.Cond.methodLink "ClockForTalkLaw" (111 : Nat) ({ cls := "ClockForTalkModel", name := "lacks", desc := "(I)I" } : Jvm.MethodName)) ∈ li_ws := li_mem 1839 (by decide +kernel) (by decide +kernel)
theorem w_1840 : (Jvm.Cond.instanceMethod ({ cls := "ClockForTalkModel", name := "lacks", desc := "(I)I" } : Jvm.MethodName)) ∈ li_ws := li_mem 1840 (by decide +kernel) (by decide +kernel)
theorem w_1841 : (Jvm.Cond.selects "ClockForTalkModel" ({ cls := "ClockForTalkModel", name := "lacks", desc := "(I)I" } : Jvm.MethodName) ({ cls := "ClockForTalkModel", name := "lacks", desc := "(I)I" } : Jvm.MethodName)) ∈ li_ws := li_mem 1841 (by decide +kernel) (by decide +kernel)
theorem w_1842 : (Jvm.Cond.code ({ cls := "ClockForTalkModel", name := "lacks", desc := "(I)I" } : Jvm.MethodName) prog_13_method_72_code (3 : Nat) (Option.some Jvm.ClassFile.FieldType.int)) ∈ li_ws := li_mem 1842 (by decide +kernel) (by decide +kernel)
theorem w_1843 : (Jvm.Cond.methodLink "ClockForTalkLaw" (115 : Nat) ({ cls := "ClockForTalkModel", name := "pool", desc := "()I" } : Jvm.MethodName)) ∈ li_ws := li_mem 1843 (by decide +kernel) (by decide +kernel)
theorem w_1844 : (Jvm.Cond.instanceMethod ({ cls := "ClockForTalkModel", name := "pool", desc := "()I" } : Jvm.MethodName)) ∈ li_ws := li_mem 1844 (by decide +kernel) (by decide +kernel)
theorem w_1845 : (Jvm.Cond.selects "ClockForTalkModel" ({ cls := "ClockForTalkModel", name := "pool", desc := "()I" } : Jvm.MethodName) ({ cls := "ClockForTalkModel", name := "pool", desc := "()I" } : Jvm.MethodName)) ∈ li_ws := li_mem 1845 (by decide +kernel) (by decide +kernel)
theorem w_1846 : (Jvm.Cond.code ({ cls := "ClockForTalkModel", name := "pool", desc := "()I" } : Jvm.MethodName) prog_13_method_74_code (2 : Nat) (Option.some Jvm.ClassFile.FieldType.int)) ∈ li_ws := li_mem 1846 (by decide +kernel) (by decide +kernel)
theorem w_1851 : (Jvm.Cond.methodLink "ClockForTalkLaw" (119 : Nat) ({ cls := "ClockForTalkModel", name := "gifts", desc := "(I)I" } : Jvm.MethodName)) ∈ li_ws := li_mem 1851 (by decide +kernel) (by decide +kernel)
theorem w_1852 : (Jvm.Cond.instanceMethod ({ cls := "ClockForTalkModel", name := "gifts", desc := "(I)I" } : Jvm.MethodName)) ∈ li_ws := li_mem 1852 (by decide +kernel) (by decide +kernel)
theorem w_1853 : (Jvm.Cond.selects "ClockForTalkModel" ({ cls := "ClockForTalkModel", name := "gifts", desc := "(I)I" } : Jvm.MethodName) ({ cls := "ClockForTalkModel", name := "gifts", desc := "(I)I" } : Jvm.MethodName)) ∈ li_ws := li_mem 1853 (by decide +kernel) (by decide +kernel)
theorem w_1854 : (Jvm.Cond.code ({ cls := "ClockForTalkModel", name := "gifts", desc := "(I)I" } : Jvm.MethodName) prog_13_method_75_code (6 : Nat) (Option.some Jvm.ClassFile.FieldType.int)) ∈ li_ws := li_mem 1854 (by decide +kernel) (by decide +kernel)
theorem w_1855 : (Jvm.Cond.methodLink "ClockForTalkLaw" (123 : Nat) ({ cls := "ClockForTalkModel", name := "mute", desc := "()I" } : Jvm.MethodName)) ∈ li_ws := li_mem 1855 (by decide +kernel) (by decide +kernel)
theorem w_1856 : (Jvm.Cond.instanceMethod ({ cls := "ClockForTalkModel", name := "mute", desc := "()I" } : Jvm.MethodName)) ∈ li_ws := li_mem 1856 (by decide +kernel) (by decide +kernel)
theorem w_1857 : (Jvm.Cond.selects "ClockForTalkModel" ({ cls := "ClockForTalkModel", name := "mute", desc := "()I" } : Jvm.MethodName) ({ cls := "ClockForTalkModel", name := "mute", desc := "()I" } : Jvm.MethodName)) ∈ li_ws := li_mem 1857 (by decide +kernel) (by decide +kernel)
theorem w_1858 : (Jvm.Cond.code ({ cls := "ClockForTalkModel", name := "mute", desc := "()I" } : Jvm.MethodName) prog_13_method_76_code (3 : Nat) (Option.some Jvm.ClassFile.FieldType.int)) ∈ li_ws := li_mem 1858 (by decide +kernel) (by decide +kernel)
theorem w_1859 : (Jvm.Cond.methodLink "ClockForTalkLaw" (127 : Nat) ({ cls := "ClockForTalkModel", name := "relay", desc := "(III)I" } : Jvm.MethodName)) ∈ li_ws := li_mem 1859 (by decide +kernel) (by decide +kernel)
theorem w_1860 : (Jvm.Cond.instanceMethod ({ cls := "ClockForTalkModel", name := "relay", desc := "(III)I" } : Jvm.MethodName)) ∈ li_ws := li_mem 1860 (by decide +kernel) (by decide +kernel)
theorem w_1861 : (Jvm.Cond.selects "ClockForTalkModel" ({ cls := "ClockForTalkModel", name := "relay", desc := "(III)I" } : Jvm.MethodName) ({ cls := "ClockForTalkModel", name := "relay", desc := "(III)I" } : Jvm.MethodName)) ∈ li_ws := li_mem 1861 (by decide +kernel) (by decide +kernel)
theorem w_1862 : (Jvm.Cond.code ({ cls := "ClockForTalkModel", name := "relay", desc := "(III)I" } : Jvm.MethodName) prog_13_method_79_code (5 : Nat) (Option.some Jvm.ClassFile.FieldType.int)) ∈ li_ws := li_mem 1862 (by decide +kernel) (by decide +kernel)
theorem w_1872 : (Jvm.Cond.methodLink "ClockForTalkLaw" (131 : Nat) ({ cls := "ClockForTalkModel", name := "criers", desc := "(III)I" } : Jvm.MethodName)) ∈ li_ws := li_mem 1872 (by decide +kernel) (by decide +kernel)
theorem w_1873 : (Jvm.Cond.instanceMethod ({ cls := "ClockForTalkModel", name := "criers", desc := "(III)I" } : Jvm.MethodName)) ∈ li_ws := li_mem 1873 (by decide +kernel) (by decide +kernel)
theorem w_1874 : (Jvm.Cond.selects "ClockForTalkModel" ({ cls := "ClockForTalkModel", name := "criers", desc := "(III)I" } : Jvm.MethodName) ({ cls := "ClockForTalkModel", name := "criers", desc := "(III)I" } : Jvm.MethodName)) ∈ li_ws := li_mem 1874 (by decide +kernel) (by decide +kernel)
theorem w_1875 : (Jvm.Cond.code ({ cls := "ClockForTalkModel", name := "criers", desc := "(III)I" } : Jvm.MethodName) prog_13_method_82_code (6 : Nat) (Option.some Jvm.ClassFile.FieldType.int)) ∈ li_ws := li_mem 1875 (by decide +kernel) (by decide +kernel)
theorem w_1884 : (Jvm.Cond.methodLink "ClockForTalkLaw" (135 : Nat) ({ cls := "ClockForTalkModel", name := "debate", desc := "(III)I" } : Jvm.MethodName)) ∈ li_ws := li_mem 1884 (by decide +kernel) (by decide +kernel)
theorem w_1885 : (Jvm.Cond.instanceMethod ({ cls := "ClockForTalkModel", name := "debate", desc := "(III)I" } : Jvm.MethodName)) ∈ li_ws := li_mem 1885 (by decide +kernel) (by decide +kernel)
theorem w_1886 : (Jvm.Cond.selects "ClockForTalkModel" ({ cls := "ClockForTalkModel", name := "debate", desc := "(III)I" } : Jvm.MethodName) ({ cls := "ClockForTalkModel", name := "debate", desc := "(III)I" } : Jvm.MethodName)) ∈ li_ws := li_mem 1886 (by decide +kernel) (by decide +kernel)
theorem w_1887 : (Jvm.Cond.code ({ cls := "ClockForTalkModel", name := "debate", desc := "(III)I" } : Jvm.MethodName) prog_13_method_86_code (6 : Nat) (Option.some Jvm.ClassFile.FieldType.int)) ∈ li_ws := li_mem 1887 (by decide +kernel) (by decide +kernel)
theorem w_1898 : (Jvm.Cond.methodLink "ClockForTalkLaw" (139 : Nat) ({ cls := "ClockForTalkModel", name := "enough", desc := "(II)I" } : Jvm.MethodName)) ∈ li_ws := li_mem 1898 (by decide +kernel) (by decide +kernel)
theorem w_1899 : (Jvm.Cond.instanceMethod ({ cls := "ClockForTalkModel", name := "enough", desc := "(II)I" } : Jvm.MethodName)) ∈ li_ws := li_mem 1899 (by decide +kernel) (by decide +kernel)
theorem w_1900 : (Jvm.Cond.selects "ClockForTalkModel" ({ cls := "ClockForTalkModel", name := "enough", desc := "(II)I" } : Jvm.MethodName) ({ cls := "ClockForTalkModel", name := "enough", desc := "(II)I" } : Jvm.MethodName)) ∈ li_ws := li_mem 1900 (by decide +kernel) (by decide +kernel)
theorem w_1901 : (Jvm.Cond.code ({ cls := "ClockForTalkModel", name := "enough", desc := "(II)I" } : Jvm.MethodName) prog_13_method_87_code (4 : Nat) (Option.some Jvm.ClassFile.FieldType.int)) ∈ li_ws := li_mem 1901 (by decide +kernel) (by decide +kernel)
theorem w_1902 : (Jvm.Cond.methodLink "ClockForTalkLaw" (143 : Nat) ({ cls := "ClockForTalkModel", name := "grammar", desc := "()I" } : Jvm.MethodName)) ∈ li_ws := li_mem 1902 (by decide +kernel) (by decide +kernel)
theorem w_1903 : (Jvm.Cond.instanceMethod ({ cls := "ClockForTalkModel", name := "grammar", desc := "()I" } : Jvm.MethodName)) ∈ li_ws := li_mem 1903 (by decide +kernel) (by decide +kernel)
theorem w_1904 : (Jvm.Cond.selects "ClockForTalkModel" ({ cls := "ClockForTalkModel", name := "grammar", desc := "()I" } : Jvm.MethodName) ({ cls := "ClockForTalkModel", name := "grammar", desc := "()I" } : Jvm.MethodName)) ∈ li_ws := li_mem 1904 (by decide +kernel) (by decide +kernel)
theorem w_1905 : (Jvm.Cond.code ({ cls := "ClockForTalkModel", name := "grammar", desc := "()I" } : Jvm.MethodName) prog_13_method_88_code (4 : Nat) (Option.some Jvm.ClassFile.FieldType.int)) ∈ li_ws := li_mem 1905 (by decide +kernel) (by decide +kernel)
theorem w_1906 : (Jvm.Cond.methodLink "ClockForTalkLaw" (147 : Nat) ({ cls := "ClockForTalkModel", name := "shorter", desc := "()I" } : Jvm.MethodName)) ∈ li_ws := li_mem 1906 (by decide +kernel) (by decide +kernel)
theorem w_1907 : (Jvm.Cond.instanceMethod ({ cls := "ClockForTalkModel", name := "shorter", desc := "()I" } : Jvm.MethodName)) ∈ li_ws := li_mem 1907 (by decide +kernel) (by decide +kernel)
theorem w_1908 : (Jvm.Cond.selects "ClockForTalkModel" ({ cls := "ClockForTalkModel", name := "shorter", desc := "()I" } : Jvm.MethodName) ({ cls := "ClockForTalkModel", name := "shorter", desc := "()I" } : Jvm.MethodName)) ∈ li_ws := li_mem 1908 (by decide +kernel) (by decide +kernel)
theorem w_1909 : (Jvm.Cond.code ({ cls := "ClockForTalkModel", name := "shorter", desc := "()I" } : Jvm.MethodName) prog_13_method_91_code (11 : Nat) (Option.some Jvm.ClassFile.FieldType.int)) ∈ li_ws := li_mem 1909 (by decide +kernel) (by decide +kernel)
theorem w_1919 : (Jvm.Cond.methodLink "ClockForTalkLaw" (151 : Nat) ({ cls := "ClockForTalkModel", name := "becomes", desc := "()I" } : Jvm.MethodName)) ∈ li_ws := li_mem 1919 (by decide +kernel) (by decide +kernel)
theorem w_1920 : (Jvm.Cond.instanceMethod ({ cls := "ClockForTalkModel", name := "becomes", desc := "()I" } : Jvm.MethodName)) ∈ li_ws := li_mem 1920 (by decide +kernel) (by decide +kernel)
theorem w_1921 : (Jvm.Cond.selects "ClockForTalkModel" ({ cls := "ClockForTalkModel", name := "becomes", desc := "()I" } : Jvm.MethodName) ({ cls := "ClockForTalkModel", name := "becomes", desc := "()I" } : Jvm.MethodName)) ∈ li_ws := li_mem 1921 (by decide +kernel) (by decide +kernel)
theorem w_1922 : (Jvm.Cond.code ({ cls := "ClockForTalkModel", name := "becomes", desc := "()I" } : Jvm.MethodName) prog_13_method_92_code (2 : Nat) (Option.some Jvm.ClassFile.FieldType.int)) ∈ li_ws := li_mem 1922 (by decide +kernel) (by decide +kernel)
theorem w_1923 : (Jvm.Cond.methodLink "ClockForTalkLaw" (155 : Nat) ({ cls := "ClockForTalkModel", name := "read", desc := "(II)I" } : Jvm.MethodName)) ∈ li_ws := li_mem 1923 (by decide +kernel) (by decide +kernel)
theorem w_1924 : (Jvm.Cond.instanceMethod ({ cls := "ClockForTalkModel", name := "read", desc := "(II)I" } : Jvm.MethodName)) ∈ li_ws := li_mem 1924 (by decide +kernel) (by decide +kernel)
theorem w_1925 : (Jvm.Cond.selects "ClockForTalkModel" ({ cls := "ClockForTalkModel", name := "read", desc := "(II)I" } : Jvm.MethodName) ({ cls := "ClockForTalkModel", name := "read", desc := "(II)I" } : Jvm.MethodName)) ∈ li_ws := li_mem 1925 (by decide +kernel) (by decide +kernel)
theorem w_1926 : (Jvm.Cond.code ({ cls := "ClockForTalkModel", name := "read", desc := "(II)I" } : Jvm.MethodName) prog_13_method_93_code (3 : Nat) (Option.some Jvm.ClassFile.FieldType.int)) ∈ li_ws := li_mem 1926 (by decide +kernel) (by decide +kernel)
theorem w_1927 : (Jvm.Cond.methodLink "ClockForTalkLaw" (159 : Nat) ({ cls := "ClockForTalkModel", name := "forget", desc := "()I" } : Jvm.MethodName)) ∈ li_ws := li_mem 1927 (by decide +kernel) (by decide +kernel)
theorem w_1928 : (Jvm.Cond.instanceMethod ({ cls := "ClockForTalkModel", name := "forget", desc := "()I" } : Jvm.MethodName)) ∈ li_ws := li_mem 1928 (by decide +kernel) (by decide +kernel)
theorem w_1929 : (Jvm.Cond.selects "ClockForTalkModel" ({ cls := "ClockForTalkModel", name := "forget", desc := "()I" } : Jvm.MethodName) ({ cls := "ClockForTalkModel", name := "forget", desc := "()I" } : Jvm.MethodName)) ∈ li_ws := li_mem 1929 (by decide +kernel) (by decide +kernel)
theorem w_1930 : (Jvm.Cond.code ({ cls := "ClockForTalkModel", name := "forget", desc := "()I" } : Jvm.MethodName) prog_13_method_94_code (2 : Nat) (Option.some Jvm.ClassFile.FieldType.int)) ∈ li_ws := li_mem 1930 (by decide +kernel) (by decide +kernel)
theorem w_1931 : (Jvm.Cond.methodLink "ClockForTalkLaw" (163 : Nat) ({ cls := "ClockForTalkModel", name := "spoke", desc := "(I)I" } : Jvm.MethodName)) ∈ li_ws := li_mem 1931 (by decide +kernel) (by decide +kernel)
theorem w_1932 : (Jvm.Cond.instanceMethod ({ cls := "ClockForTalkModel", name := "spoke", desc := "(I)I" } : Jvm.MethodName)) ∈ li_ws := li_mem 1932 (by decide +kernel) (by decide +kernel)
theorem w_1933 : (Jvm.Cond.selects "ClockForTalkModel" ({ cls := "ClockForTalkModel", name := "spoke", desc := "(I)I" } : Jvm.MethodName) ({ cls := "ClockForTalkModel", name := "spoke", desc := "(I)I" } : Jvm.MethodName)) ∈ li_ws := li_mem 1933 (by decide +kernel) (by decide +kernel)
theorem w_1934 : (Jvm.Cond.code ({ cls := "ClockForTalkModel", name := "spoke", desc := "(I)I" } : Jvm.MethodName) prog_13_method_98_code (6 : Nat) (Option.some Jvm.ClassFile.FieldType.int)) ∈ li_ws := li_mem 1934 (by decide +kernel) (by decide +kernel)
theorem w_1947 : (Jvm.Cond.methodLink "ClockForTalkLaw" (167 : Nat) ({ cls := "ClockForTalkModel", name := "look", desc := "()I" } : Jvm.MethodName)) ∈ li_ws := li_mem 1947 (by decide +kernel) (by decide +kernel)
theorem w_1948 : (Jvm.Cond.instanceMethod ({ cls := "ClockForTalkModel", name := "look", desc := "()I" } : Jvm.MethodName)) ∈ li_ws := li_mem 1948 (by decide +kernel) (by decide +kernel)
theorem w_1949 : (Jvm.Cond.selects "ClockForTalkModel" ({ cls := "ClockForTalkModel", name := "look", desc := "()I" } : Jvm.MethodName) ({ cls := "ClockForTalkModel", name := "look", desc := "()I" } : Jvm.MethodName)) ∈ li_ws := li_mem 1949 (by decide +kernel) (by decide +kernel)
theorem w_1950 : (Jvm.Cond.code ({ cls := "ClockForTalkModel", name := "look", desc := "()I" } : Jvm.MethodName) prog_13_method_99_code (4 : Nat) (Option.some Jvm.ClassFile.FieldType.int)) ∈ li_ws := li_mem 1950 (by decide +kernel) (by decide +kernel)
theorem w_1951 : (Jvm.Cond.methodLink "ClockForTalkLaw" (171 : Nat) ({ cls := "ClockForTalkModel", name := "rate", desc := "()I" } : Jvm.MethodName)) ∈ li_ws := li_mem 1951 (by decide +kernel) (by decide +kernel)
theorem w_1952 : (Jvm.Cond.instanceMethod ({ cls := "ClockForTalkModel", name := "rate", desc := "()I" } : Jvm.MethodName)) ∈ li_ws := li_mem 1952 (by decide +kernel) (by decide +kernel)
theorem w_1953 : (Jvm.Cond.selects "ClockForTalkModel" ({ cls := "ClockForTalkModel", name := "rate", desc := "()I" } : Jvm.MethodName) ({ cls := "ClockForTalkModel", name := "rate", desc := "()I" } : Jvm.MethodName)) ∈ li_ws := li_mem 1953 (by decide +kernel) (by decide +kernel)
theorem w_1954 : (Jvm.Cond.code ({ cls := "ClockForTalkModel", name := "rate", desc := "()I" } : Jvm.MethodName) prog_13_method_101_code (6 : Nat) (Option.some Jvm.ClassFile.FieldType.int)) ∈ li_ws := li_mem 1954 (by decide +kernel) (by decide +kernel)
theorem w_1959 : (Jvm.Cond.methodLink "ClockForTalkLaw" (175 : Nat) ({ cls := "ClockForTalkModel", name := "run", desc := "(I)I" } : Jvm.MethodName)) ∈ li_ws := li_mem 1959 (by decide +kernel) (by decide +kernel)
theorem w_1960 : (Jvm.Cond.instanceMethod ({ cls := "ClockForTalkModel", name := "run", desc := "(I)I" } : Jvm.MethodName)) ∈ li_ws := li_mem 1960 (by decide +kernel) (by decide +kernel)
theorem w_1961 : (Jvm.Cond.selects "ClockForTalkModel" ({ cls := "ClockForTalkModel", name := "run", desc := "(I)I" } : Jvm.MethodName) ({ cls := "ClockForTalkModel", name := "run", desc := "(I)I" } : Jvm.MethodName)) ∈ li_ws := li_mem 1961 (by decide +kernel) (by decide +kernel)
theorem w_1962 : (Jvm.Cond.code ({ cls := "ClockForTalkModel", name := "run", desc := "(I)I" } : Jvm.MethodName) prog_13_method_102_code (5 : Nat) (Option.some Jvm.ClassFile.FieldType.int)) ∈ li_ws := li_mem 1962 (by decide +kernel) (by decide +kernel)
theorem w_1967 : (Jvm.Cond.methodLink "ClockForTalkLaw" (179 : Nat) ({ cls := "ClockForTalkModel", name := "years", desc := "(II)I" } : Jvm.MethodName)) ∈ li_ws := li_mem 1967 (by decide +kernel) (by decide +kernel)
theorem w_1968 : (Jvm.Cond.instanceMethod ({ cls := "ClockForTalkModel", name := "years", desc := "(II)I" } : Jvm.MethodName)) ∈ li_ws := li_mem 1968 (by decide +kernel) (by decide +kernel)
theorem w_1969 : (Jvm.Cond.selects "ClockForTalkModel" ({ cls := "ClockForTalkModel", name := "years", desc := "(II)I" } : Jvm.MethodName) ({ cls := "ClockForTalkModel", name := "years", desc := "(II)I" } : Jvm.MethodName)) ∈ li_ws := li_mem 1969 (by decide +kernel) (by decide +kernel)
theorem w_1970 : (Jvm.Cond.code ({ cls := "ClockForTalkModel", name := "years", desc := "(II)I" } : Jvm.MethodName) prog_13_method_104_code (9 : Nat) (Option.some Jvm.ClassFile.FieldType.int)) ∈ li_ws := li_mem 1970 (by decide +kernel) (by decide +kernel)
theorem w_1972 : (Jvm.Cond.methodLink "ClockForTalkLaw" (183 : Nat) ({ cls := "ClockForTalkModel", name := "keep", desc := "(I)Z" } : Jvm.MethodName)) ∈ li_ws := li_mem 1972 (by decide +kernel) (by decide +kernel)
theorem w_1973 : (Jvm.Cond.instanceMethod ({ cls := "ClockForTalkModel", name := "keep", desc := "(I)Z" } : Jvm.MethodName)) ∈ li_ws := li_mem 1973 (by decide +kernel) (by decide +kernel)
theorem w_1974 : (Jvm.Cond.selects "ClockForTalkModel" ({ cls := "ClockForTalkModel", name := "keep", desc := "(I)Z" } : Jvm.MethodName) ({ cls := "ClockForTalkModel", name := "keep", desc := "(I)Z" } : Jvm.MethodName)) ∈ li_ws := li_mem 1974 (by decide +kernel) (by decide +kernel)
theorem w_1975 : (Jvm.Cond.code ({ cls := "ClockForTalkModel", name := "keep", desc := "(I)Z" } : Jvm.MethodName) prog_13_method_105_code (2 : Nat) (Option.some Jvm.ClassFile.FieldType.boolean)) ∈ li_ws := li_mem 1975 (by decide +kernel) (by decide +kernel)
theorem w_1976 : (Jvm.Cond.methodLink "ClockForTalkLaw" (187 : Nat) ({ cls := "ClockForTalkModel", name := "again", desc := "(I)Z" } : Jvm.MethodName)) ∈ li_ws := li_mem 1976 (by decide +kernel) (by decide +kernel)
theorem w_1977 : (Jvm.Cond.instanceMethod ({ cls := "ClockForTalkModel", name := "again", desc := "(I)Z" } : Jvm.MethodName)) ∈ li_ws := li_mem 1977 (by decide +kernel) (by decide +kernel)
theorem w_1978 : (Jvm.Cond.selects "ClockForTalkModel" ({ cls := "ClockForTalkModel", name := "again", desc := "(I)Z" } : Jvm.MethodName) ({ cls := "ClockForTalkModel", name := "again", desc := "(I)Z" } : Jvm.MethodName)) ∈ li_ws := li_mem 1978 (by decide +kernel) (by decide +kernel)
theorem w_1979 : (Jvm.Cond.code ({ cls := "ClockForTalkModel", name := "again", desc := "(I)Z" } : Jvm.MethodName) prog_13_method_106_code (3 : Nat) (Option.some Jvm.ClassFile.FieldType.boolean)) ∈ li_ws := li_mem 1979 (by decide +kernel) (by decide +kernel)
theorem w_1980 : (Jvm.Cond.methodLink "ClockForTalkLaw" (191 : Nat) ({ cls := "ClockForTalkModel", name := "count", desc := "(I)I" } : Jvm.MethodName)) ∈ li_ws := li_mem 1980 (by decide +kernel) (by decide +kernel)
theorem w_1981 : (Jvm.Cond.instanceMethod ({ cls := "ClockForTalkModel", name := "count", desc := "(I)I" } : Jvm.MethodName)) ∈ li_ws := li_mem 1981 (by decide +kernel) (by decide +kernel)
theorem w_1982 : (Jvm.Cond.selects "ClockForTalkModel" ({ cls := "ClockForTalkModel", name := "count", desc := "(I)I" } : Jvm.MethodName) ({ cls := "ClockForTalkModel", name := "count", desc := "(I)I" } : Jvm.MethodName)) ∈ li_ws := li_mem 1982 (by decide +kernel) (by decide +kernel)
theorem w_1983 : (Jvm.Cond.code ({ cls := "ClockForTalkModel", name := "count", desc := "(I)I" } : Jvm.MethodName) prog_13_method_107_code (2 : Nat) (Option.some Jvm.ClassFile.FieldType.int)) ∈ li_ws := li_mem 1983 (by decide +kernel) (by decide +kernel)
theorem w_1984 : (Jvm.Cond.methodLink "ClockForTalkLaw" (195 : Nat) ({ cls := "ClockForTalkModel", name := "row", desc := "(I)I" } : Jvm.MethodName)) ∈ li_ws := li_mem 1984 (by decide +kernel) (by decide +kernel)
theorem w_1985 : (Jvm.Cond.instanceMethod ({ cls := "ClockForTalkModel", name := "row", desc := "(I)I" } : Jvm.MethodName)) ∈ li_ws := li_mem 1985 (by decide +kernel) (by decide +kernel)
theorem w_1986 : (Jvm.Cond.selects "ClockForTalkModel" ({ cls := "ClockForTalkModel", name := "row", desc := "(I)I" } : Jvm.MethodName) ({ cls := "ClockForTalkModel", name := "row", desc := "(I)I" } : Jvm.MethodName)) ∈ li_ws := li_mem 1986 (by decide +kernel) (by decide +kernel)
theorem w_1987 : (Jvm.Cond.code ({ cls := "ClockForTalkModel", name := "row", desc := "(I)I" } : Jvm.MethodName) prog_13_method_108_code (2 : Nat) (Option.some Jvm.ClassFile.FieldType.int)) ∈ li_ws := li_mem 1987 (by decide +kernel) (by decide +kernel)
set_option maxRecDepth 100000 in
set_option maxHeartbeats 4000000 in
theorem lc_0 {l : Launch} {Z : li_Z} {b L kc : Nat} {xs : Nat → Int32} {x4 : Int32} {M : li_M} {Q : Option Value → li_M → Prop} (htr : l.stackTraces = false) (hk : kc ≤ 512) (hJ : li_J M) (v1 : vp_in (x4 + 1) L) (v2 : vp_in (x4 + 2) L) (v3 : vp_in (x4 + 3) L) (v4 : vp_in (x4 + 4) L) (hR0 : (M.1 1 1).toInt = 0) (hR1 : (M.1 3 1).toInt = 0) (hR2 : (M.1 5 0).toInt = 0) (hR3 : (M.1 5 1).toInt = 0) (hR4 : (M.1 13 0).toInt = 0) (hR5 : (M.1 13 1).toInt = 0) (hR6 : (M.1 13 2).toInt = 0) (hR7 : (M.1 21 3).toInt = 0) (hR8 : (M.1 21 4).toInt = 0) (hR9 : (M.1 163 7).toInt = 0) (hR10 : (M.1 171 5).toInt = 0) (hR11 : (M.1 175 1).toInt = 0) (hR12 : (M.1 175 4).toInt = 0) (hR13 : (M.1 175 7).toInt = 0) (hR14 : (M.1 175 9).toInt = 0) (hR15 : (M.1 175 23).toInt = 0) (hR16 : (M.1 175 38).toInt = 0) (hR17 : (M.1 175 43).toInt = 0) (hR18 : (M.1 176 18).toInt = 0) (hR19 : (M.1 176 19).toInt = 0) (hR20 : (M.1 176 20).toInt = 0) (Pwq_M : li_wq (M.1 192) ((M.1 175 35).toInt) (121) (0) (0)) (Pkz_M : ∀ i : Nat, (M.1 202 i).toInt = 0) (KK : ∀ (k : Nat) (M : li_M), li_J M → k ≤ kc + 1 → l3_T l Z b L xs k 1456 [(4, .int x4), (0, .ref b), (1, .ref (Z.2.2 0)), (2, .ref (Z.2.2 175)), (3, .ref (Z.2.2 204))] [] M Q) : l3_T l Z b L xs kc 212 [(4, .int x4), (0, .ref b), (1, .ref (Z.2.2 0)), (2, .ref (Z.2.2 175)), (3, .ref (Z.2.2 204))] [] M Q := by
  have rJ1 := J_sl1 (M := M) hJ
  have rJ4 := J_sl4 (M := M) hJ
  have rJ7 := J_sl7 (M := M) hJ
  have rJ9 := J_sl9 (M := M) hJ
  have rJ23 := J_sl23 (M := M) hJ
  have rJ38 := J_sl38 (M := M) hJ
  refine l3_aload_n 2 dL_law_212 rfl ?_
  refine l3_aload_n 1 dL_law_213 rfl ?_
  refine l3_iload 0 dL_law_214 rfl ?_
  refine l3_iconst 1 dL_law_216 (by decide) ?_
  refine l3_iadd dL_law_217 ?_
  refine l3_sld dL_law_218 v1 ?_
  refine l3_callV (n := 1) (As := [.int (xs (x4 + 1 : Int32).toNatClampNeg)]) (by omega) dL_law_219 (k3_X11_sign 1000 (by omega) (xs (x4 + 1 : Int32).toNatClampNeg) M (by omega)) (Nat.le_of_ble_eq_true rfl) (Nat.le_of_ble_eq_true rfl) w_513 w_514 w_515 w_101 w_516 (by decide +kernel) rfl (by decide) sh_0 rfl rfl (Nat.le_of_ble_eq_true rfl) (fun r M1 h1 => ?_)
  obtain ⟨⟨y1, rfl, ky1⟩, h1⟩ := h1
  have hJ := l3_J hJ h1 (fun i h => by first | exact (h : False).elim | omega)
  have oM1_3_1 : (M1.1 3 1).toInt = (M.1 3 1).toInt := tl_slot (congrFun (h1.1 3 (fun h => by first | exact (h : False).elim | omega)) 1)
  have oM1_5_0 : (M1.1 5 0).toInt = (M.1 5 0).toInt := tl_slot (congrFun (h1.1 5 (fun h => by first | exact (h : False).elim | omega)) 0)
  have oM1_5_1 : (M1.1 5 1).toInt = (M.1 5 1).toInt := tl_slot (congrFun (h1.1 5 (fun h => by first | exact (h : False).elim | omega)) 1)
  have oM1_13_0 : (M1.1 13 0).toInt = (M.1 13 0).toInt := tl_slot (congrFun (h1.1 13 (fun h => by first | exact (h : False).elim | omega)) 0)
  have oM1_13_1 : (M1.1 13 1).toInt = (M.1 13 1).toInt := tl_slot (congrFun (h1.1 13 (fun h => by first | exact (h : False).elim | omega)) 1)
  have oM1_13_2 : (M1.1 13 2).toInt = (M.1 13 2).toInt := tl_slot (congrFun (h1.1 13 (fun h => by first | exact (h : False).elim | omega)) 2)
  have oM1_21_3 : (M1.1 21 3).toInt = (M.1 21 3).toInt := tl_slot (congrFun (h1.1 21 (fun h => by first | exact (h : False).elim | omega)) 3)
  have oM1_21_4 : (M1.1 21 4).toInt = (M.1 21 4).toInt := tl_slot (congrFun (h1.1 21 (fun h => by first | exact (h : False).elim | omega)) 4)
  have oM1_163_7 : (M1.1 163 7).toInt = (M.1 163 7).toInt := tl_slot (congrFun (h1.1 163 (fun h => by first | exact (h : False).elim | omega)) 7)
  have oM1_171_5 : (M1.1 171 5).toInt = (M.1 171 5).toInt := tl_slot (congrFun (h1.1 171 (fun h => by first | exact (h : False).elim | omega)) 5)
  have oM1_175_1 : (M1.1 175 1).toInt = (M.1 175 1).toInt := tl_slot (congrFun (h1.1 175 (fun h => by first | exact (h : False).elim | omega)) 1)
  have oM1_175_4 : (M1.1 175 4).toInt = (M.1 175 4).toInt := tl_slot (congrFun (h1.1 175 (fun h => by first | exact (h : False).elim | omega)) 4)
  have oM1_175_7 : (M1.1 175 7).toInt = (M.1 175 7).toInt := tl_slot (congrFun (h1.1 175 (fun h => by first | exact (h : False).elim | omega)) 7)
  have oM1_175_9 : (M1.1 175 9).toInt = (M.1 175 9).toInt := tl_slot (congrFun (h1.1 175 (fun h => by first | exact (h : False).elim | omega)) 9)
  have oM1_175_23 : (M1.1 175 23).toInt = (M.1 175 23).toInt := tl_slot (congrFun (h1.1 175 (fun h => by first | exact (h : False).elim | omega)) 23)
  have oM1_175_38 : (M1.1 175 38).toInt = (M.1 175 38).toInt := tl_slot (congrFun (h1.1 175 (fun h => by first | exact (h : False).elim | omega)) 38)
  have oM1_175_43 : (M1.1 175 43).toInt = (M.1 175 43).toInt := tl_slot (congrFun (h1.1 175 (fun h => by first | exact (h : False).elim | omega)) 43)
  have oM1_176_18 : (M1.1 176 18).toInt = (M.1 176 18).toInt := tl_slot (congrFun (h1.1 176 (fun h => by first | exact (h : False).elim | omega)) 18)
  have oM1_176_19 : (M1.1 176 19).toInt = (M.1 176 19).toInt := tl_slot (congrFun (h1.1 176 (fun h => by first | exact (h : False).elim | omega)) 19)
  have oM1_176_20 : (M1.1 176 20).toInt = (M.1 176 20).toInt := tl_slot (congrFun (h1.1 176 (fun h => by first | exact (h : False).elim | omega)) 20)
  have Pwq_M1 : li_wq (M1.1 192) ((M1.1 175 35).toInt) (121) (0) (0) := li_wq_mv (h1.1 192 (fun h => by first | exact (h : False).elim | omega)) (tl_slot (congrFun (h1.1 175 (fun h => by first | exact (h : False).elim | omega)) 35)) Pwq_M
  have Pkz_M1 : ∀ i : Nat, (M1.1 202 i).toInt = 0 := fun i => (tl_slot (congrFun (h1.1 202 (fun h => by first | exact (h : False).elim | omega)) i)).trans (Pkz_M i)
  refine l3_aload_n 3 dL_law_222 rfl ?_
  refine l3_aload_n 1 dL_law_223 rfl ?_
  refine l3_iload 0 dL_law_224 rfl ?_
  refine l3_iconst 1 dL_law_226 (by decide) ?_
  refine l3_iadd dL_law_227 ?_
  refine l3_sld dL_law_228 v1 ?_
  refine l3_callV (n := 1) (As := [.int (xs (x4 + 1 : Int32).toNatClampNeg)]) (by omega) dL_law_229 (k_X12_sign 1000 (by omega) (xs (x4 + 1 : Int32).toNatClampNeg) M1 hJ ) (Nat.le_of_ble_eq_true rfl) (Nat.le_of_ble_eq_true rfl) w_1566 w_1567 w_1568 w_112 w_1569 (by decide +kernel) rfl (by decide) sh_175 rfl rfl (Nat.le_of_ble_eq_true rfl) (fun r M2 h2 => ?_)
  have jh2 := h2
  obtain ⟨⟨y2, rfl, ky2⟩, h2⟩ := h2
  have hJ := h2.2
  refine l3_icmp_eq 1456 dL_law_232 (by decide) (fun c => ?_) (fun c => absurd (Int32.toInt_inj.mp (show (y1 : Int32).toInt = (y2 : Int32).toInt by omega)) c)
  exact KK _ M2 hJ (by omega)
set_option maxRecDepth 100000 in
set_option maxHeartbeats 4000000 in
theorem lc_1 {l : Launch} {Z : li_Z} {b L kc : Nat} {xs : Nat → Int32} {x4 : Int32} {M : li_M} {Q : Option Value → li_M → Prop} (htr : l.stackTraces = false) (hk : kc ≤ 512) (hJ : li_J M) (v1 : vp_in (x4 + 1) L) (v2 : vp_in (x4 + 2) L) (v3 : vp_in (x4 + 3) L) (v4 : vp_in (x4 + 4) L) (hR0 : (M.1 1 1).toInt = 0) (hR1 : (M.1 3 1).toInt = 0) (hR2 : (M.1 5 0).toInt = 0) (hR3 : (M.1 5 1).toInt = 0) (hR4 : (M.1 13 0).toInt = 0) (hR5 : (M.1 13 1).toInt = 0) (hR6 : (M.1 13 2).toInt = 0) (hR7 : (M.1 21 3).toInt = 0) (hR8 : (M.1 21 4).toInt = 0) (hR9 : (M.1 163 7).toInt = 0) (hR10 : (M.1 171 5).toInt = 0) (hR11 : (M.1 175 1).toInt = 0) (hR12 : (M.1 175 4).toInt = 0) (hR13 : (M.1 175 7).toInt = 0) (hR14 : (M.1 175 9).toInt = 0) (hR15 : (M.1 175 23).toInt = 0) (hR16 : (M.1 175 38).toInt = 0) (hR17 : (M.1 175 43).toInt = 0) (hR18 : (M.1 176 18).toInt = 0) (hR19 : (M.1 176 19).toInt = 0) (hR20 : (M.1 176 20).toInt = 0) (Pwq_M : li_wq (M.1 192) ((M.1 175 35).toInt) (121) (0) (0)) (Pkz_M : ∀ i : Nat, (M.1 202 i).toInt = 0) (KK : ∀ (k : Nat) (M : li_M), li_J M → k ≤ kc + 1 → l3_T l Z b L xs k 1456 [(4, .int x4), (0, .ref b), (1, .ref (Z.2.2 0)), (2, .ref (Z.2.2 175)), (3, .ref (Z.2.2 204))] [] M Q) : l3_T l Z b L xs kc 237 [(4, .int x4), (0, .ref b), (1, .ref (Z.2.2 0)), (2, .ref (Z.2.2 175)), (3, .ref (Z.2.2 204))] [] M Q := by
  have rJ1 := J_sl1 (M := M) hJ
  have rJ4 := J_sl4 (M := M) hJ
  have rJ7 := J_sl7 (M := M) hJ
  have rJ9 := J_sl9 (M := M) hJ
  have rJ23 := J_sl23 (M := M) hJ
  have rJ38 := J_sl38 (M := M) hJ
  refine l3_aload_n 2 dL_law_237 rfl ?_
  refine l3_aload_n 1 dL_law_238 rfl ?_
  refine l3_iload 0 dL_law_239 rfl ?_
  refine l3_iconst 1 dL_law_241 (by decide) ?_
  refine l3_iadd dL_law_242 ?_
  refine l3_sld dL_law_243 v1 ?_
  refine l3_callV (n := 1) (As := [.int (xs (x4 + 1 : Int32).toNatClampNeg)]) (by omega) dL_law_244 (k3_X11_end 1000 (by omega) (xs (x4 + 1 : Int32).toNatClampNeg) M) (Nat.le_of_ble_eq_true rfl) (Nat.le_of_ble_eq_true rfl) w_524 w_525 w_526 w_101 w_527 (by decide +kernel) rfl (by decide) sh_0 rfl rfl (Nat.le_of_ble_eq_true rfl) (fun r M1 h1 => ?_)
  obtain ⟨⟨y1, rfl, -, ky1⟩, h1⟩ := h1
  have hJ := l3_J hJ h1 (fun i h => by first | exact (h : False).elim | omega)
  have oM1_3_1 : (M1.1 3 1).toInt = (M.1 3 1).toInt := tl_slot (congrFun (h1.1 3 (fun h => by first | exact (h : False).elim | omega)) 1)
  have oM1_5_0 : (M1.1 5 0).toInt = (M.1 5 0).toInt := tl_slot (congrFun (h1.1 5 (fun h => by first | exact (h : False).elim | omega)) 0)
  have oM1_5_1 : (M1.1 5 1).toInt = (M.1 5 1).toInt := tl_slot (congrFun (h1.1 5 (fun h => by first | exact (h : False).elim | omega)) 1)
  have oM1_13_0 : (M1.1 13 0).toInt = (M.1 13 0).toInt := tl_slot (congrFun (h1.1 13 (fun h => by first | exact (h : False).elim | omega)) 0)
  have oM1_13_1 : (M1.1 13 1).toInt = (M.1 13 1).toInt := tl_slot (congrFun (h1.1 13 (fun h => by first | exact (h : False).elim | omega)) 1)
  have oM1_13_2 : (M1.1 13 2).toInt = (M.1 13 2).toInt := tl_slot (congrFun (h1.1 13 (fun h => by first | exact (h : False).elim | omega)) 2)
  have oM1_21_3 : (M1.1 21 3).toInt = (M.1 21 3).toInt := tl_slot (congrFun (h1.1 21 (fun h => by first | exact (h : False).elim | omega)) 3)
  have oM1_21_4 : (M1.1 21 4).toInt = (M.1 21 4).toInt := tl_slot (congrFun (h1.1 21 (fun h => by first | exact (h : False).elim | omega)) 4)
  have oM1_163_7 : (M1.1 163 7).toInt = (M.1 163 7).toInt := tl_slot (congrFun (h1.1 163 (fun h => by first | exact (h : False).elim | omega)) 7)
  have oM1_171_5 : (M1.1 171 5).toInt = (M.1 171 5).toInt := tl_slot (congrFun (h1.1 171 (fun h => by first | exact (h : False).elim | omega)) 5)
  have oM1_175_1 : (M1.1 175 1).toInt = (M.1 175 1).toInt := tl_slot (congrFun (h1.1 175 (fun h => by first | exact (h : False).elim | omega)) 1)
  have oM1_175_4 : (M1.1 175 4).toInt = (M.1 175 4).toInt := tl_slot (congrFun (h1.1 175 (fun h => by first | exact (h : False).elim | omega)) 4)
  have oM1_175_7 : (M1.1 175 7).toInt = (M.1 175 7).toInt := tl_slot (congrFun (h1.1 175 (fun h => by first | exact (h : False).elim | omega)) 7)
  have oM1_175_9 : (M1.1 175 9).toInt = (M.1 175 9).toInt := tl_slot (congrFun (h1.1 175 (fun h => by first | exact (h : False).elim | omega)) 9)
  have oM1_175_23 : (M1.1 175 23).toInt = (M.1 175 23).toInt := tl_slot (congrFun (h1.1 175 (fun h => by first | exact (h : False).elim | omega)) 23)
  have oM1_175_38 : (M1.1 175 38).toInt = (M.1 175 38).toInt := tl_slot (congrFun (h1.1 175 (fun h => by first | exact (h : False).elim | omega)) 38)
  have oM1_175_43 : (M1.1 175 43).toInt = (M.1 175 43).toInt := tl_slot (congrFun (h1.1 175 (fun h => by first | exact (h : False).elim | omega)) 43)
  have oM1_176_18 : (M1.1 176 18).toInt = (M.1 176 18).toInt := tl_slot (congrFun (h1.1 176 (fun h => by first | exact (h : False).elim | omega)) 18)
  have oM1_176_19 : (M1.1 176 19).toInt = (M.1 176 19).toInt := tl_slot (congrFun (h1.1 176 (fun h => by first | exact (h : False).elim | omega)) 19)
  have oM1_176_20 : (M1.1 176 20).toInt = (M.1 176 20).toInt := tl_slot (congrFun (h1.1 176 (fun h => by first | exact (h : False).elim | omega)) 20)
  have Pwq_M1 : li_wq (M1.1 192) ((M1.1 175 35).toInt) (121) (0) (0) := li_wq_mv (h1.1 192 (fun h => by first | exact (h : False).elim | omega)) (tl_slot (congrFun (h1.1 175 (fun h => by first | exact (h : False).elim | omega)) 35)) Pwq_M
  have Pkz_M1 : ∀ i : Nat, (M1.1 202 i).toInt = 0 := fun i => (tl_slot (congrFun (h1.1 202 (fun h => by first | exact (h : False).elim | omega)) i)).trans (Pkz_M i)
  refine l3_aload_n 3 dL_law_247 rfl ?_
  refine l3_aload_n 1 dL_law_248 rfl ?_
  refine l3_iload 0 dL_law_249 rfl ?_
  refine l3_iconst 1 dL_law_251 (by decide) ?_
  refine l3_iadd dL_law_252 ?_
  refine l3_sld dL_law_253 v1 ?_
  refine l3_callV (n := 1) (As := [.int (xs (x4 + 1 : Int32).toNatClampNeg)]) (by omega) dL_law_254 (k_X12_end 1000 (by omega) (xs (x4 + 1 : Int32).toNatClampNeg) M1 hJ ) (Nat.le_of_ble_eq_true rfl) (Nat.le_of_ble_eq_true rfl) w_1570 w_1571 w_1572 w_112 w_1573 (by decide +kernel) rfl (by decide) sh_175 rfl rfl (Nat.le_of_ble_eq_true rfl) (fun r M2 h2 => ?_)
  rcases h2 with ⟨⟨rfl, ky2⟩ | ⟨rfl, ky2⟩, h2, hJ⟩
  · skip
    have oM2_1_1 : (M2.1 1 1).toInt = (M1.1 1 1).toInt := tl_slot (h2.1 1 1 (fun h => by first | exact (h : False).elim | omega))
    have oM2_3_1 : (M2.1 3 1).toInt = (M1.1 3 1).toInt := tl_slot (h2.1 3 1 (fun h => by first | exact (h : False).elim | omega))
    have oM2_5_0 : (M2.1 5 0).toInt = (M1.1 5 0).toInt := tl_slot (h2.1 5 0 (fun h => by first | exact (h : False).elim | omega))
    have oM2_5_1 : (M2.1 5 1).toInt = (M1.1 5 1).toInt := tl_slot (h2.1 5 1 (fun h => by first | exact (h : False).elim | omega))
    have oM2_13_0 : (M2.1 13 0).toInt = (M1.1 13 0).toInt := tl_slot (h2.1 13 0 (fun h => by first | exact (h : False).elim | omega))
    have oM2_13_1 : (M2.1 13 1).toInt = (M1.1 13 1).toInt := tl_slot (h2.1 13 1 (fun h => by first | exact (h : False).elim | omega))
    have oM2_13_2 : (M2.1 13 2).toInt = (M1.1 13 2).toInt := tl_slot (h2.1 13 2 (fun h => by first | exact (h : False).elim | omega))
    have oM2_21_3 : (M2.1 21 3).toInt = (M1.1 21 3).toInt := tl_slot (h2.1 21 3 (fun h => by first | exact (h : False).elim | omega))
    have oM2_21_4 : (M2.1 21 4).toInt = (M1.1 21 4).toInt := tl_slot (h2.1 21 4 (fun h => by first | exact (h : False).elim | omega))
    have oM2_163_7 : (M2.1 163 7).toInt = (M1.1 163 7).toInt := tl_slot (h2.1 163 7 (fun h => by first | exact (h : False).elim | omega))
    have oM2_171_5 : (M2.1 171 5).toInt = (M1.1 171 5).toInt := tl_slot (h2.1 171 5 (fun h => by first | exact (h : False).elim | omega))
    have oM2_175_1 : (M2.1 175 1).toInt = (M1.1 175 1).toInt := tl_slot (h2.1 175 1 (fun h => by first | exact (h : False).elim | omega))
    have oM2_175_4 : (M2.1 175 4).toInt = (M1.1 175 4).toInt := tl_slot (h2.1 175 4 (fun h => by first | exact (h : False).elim | omega))
    have oM2_175_9 : (M2.1 175 9).toInt = (M1.1 175 9).toInt := tl_slot (h2.1 175 9 (fun h => by first | exact (h : False).elim | omega))
    have oM2_175_23 : (M2.1 175 23).toInt = (M1.1 175 23).toInt := tl_slot (h2.1 175 23 (fun h => by first | exact (h : False).elim | omega))
    have oM2_175_38 : (M2.1 175 38).toInt = (M1.1 175 38).toInt := tl_slot (h2.1 175 38 (fun h => by first | exact (h : False).elim | omega))
    have oM2_175_43 : (M2.1 175 43).toInt = (M1.1 175 43).toInt := tl_slot (h2.1 175 43 (fun h => by first | exact (h : False).elim | omega))
    have oM2_176_18 : (M2.1 176 18).toInt = (M1.1 176 18).toInt := tl_slot (h2.1 176 18 (fun h => by first | exact (h : False).elim | omega))
    have oM2_176_19 : (M2.1 176 19).toInt = (M1.1 176 19).toInt := tl_slot (h2.1 176 19 (fun h => by first | exact (h : False).elim | omega))
    have oM2_176_20 : (M2.1 176 20).toInt = (M1.1 176 20).toInt := tl_slot (h2.1 176 20 (fun h => by first | exact (h : False).elim | omega))
    refine l3_icmp_eq 1456 dL_law_257 (by decide) (fun c => ?_) (fun c => absurd (Int32.toInt_inj.mp (show (y1 : Int32).toInt = (1 : Int32).toInt by have z : (1 : Int32).toInt = 1 := rfl; first | omega | exact ky2.elim)) c)
    exact KK _ M2 hJ (by omega)
  · skip
    have oM2_1_1 : (M2.1 1 1).toInt = (M1.1 1 1).toInt := tl_slot (h2.1 1 1 (fun h => by first | exact (h : False).elim | omega))
    have oM2_3_1 : (M2.1 3 1).toInt = (M1.1 3 1).toInt := tl_slot (h2.1 3 1 (fun h => by first | exact (h : False).elim | omega))
    have oM2_5_0 : (M2.1 5 0).toInt = (M1.1 5 0).toInt := tl_slot (h2.1 5 0 (fun h => by first | exact (h : False).elim | omega))
    have oM2_5_1 : (M2.1 5 1).toInt = (M1.1 5 1).toInt := tl_slot (h2.1 5 1 (fun h => by first | exact (h : False).elim | omega))
    have oM2_13_0 : (M2.1 13 0).toInt = (M1.1 13 0).toInt := tl_slot (h2.1 13 0 (fun h => by first | exact (h : False).elim | omega))
    have oM2_13_1 : (M2.1 13 1).toInt = (M1.1 13 1).toInt := tl_slot (h2.1 13 1 (fun h => by first | exact (h : False).elim | omega))
    have oM2_13_2 : (M2.1 13 2).toInt = (M1.1 13 2).toInt := tl_slot (h2.1 13 2 (fun h => by first | exact (h : False).elim | omega))
    have oM2_21_3 : (M2.1 21 3).toInt = (M1.1 21 3).toInt := tl_slot (h2.1 21 3 (fun h => by first | exact (h : False).elim | omega))
    have oM2_21_4 : (M2.1 21 4).toInt = (M1.1 21 4).toInt := tl_slot (h2.1 21 4 (fun h => by first | exact (h : False).elim | omega))
    have oM2_163_7 : (M2.1 163 7).toInt = (M1.1 163 7).toInt := tl_slot (h2.1 163 7 (fun h => by first | exact (h : False).elim | omega))
    have oM2_171_5 : (M2.1 171 5).toInt = (M1.1 171 5).toInt := tl_slot (h2.1 171 5 (fun h => by first | exact (h : False).elim | omega))
    have oM2_175_1 : (M2.1 175 1).toInt = (M1.1 175 1).toInt := tl_slot (h2.1 175 1 (fun h => by first | exact (h : False).elim | omega))
    have oM2_175_4 : (M2.1 175 4).toInt = (M1.1 175 4).toInt := tl_slot (h2.1 175 4 (fun h => by first | exact (h : False).elim | omega))
    have oM2_175_9 : (M2.1 175 9).toInt = (M1.1 175 9).toInt := tl_slot (h2.1 175 9 (fun h => by first | exact (h : False).elim | omega))
    have oM2_175_23 : (M2.1 175 23).toInt = (M1.1 175 23).toInt := tl_slot (h2.1 175 23 (fun h => by first | exact (h : False).elim | omega))
    have oM2_175_38 : (M2.1 175 38).toInt = (M1.1 175 38).toInt := tl_slot (h2.1 175 38 (fun h => by first | exact (h : False).elim | omega))
    have oM2_175_43 : (M2.1 175 43).toInt = (M1.1 175 43).toInt := tl_slot (h2.1 175 43 (fun h => by first | exact (h : False).elim | omega))
    have oM2_176_18 : (M2.1 176 18).toInt = (M1.1 176 18).toInt := tl_slot (h2.1 176 18 (fun h => by first | exact (h : False).elim | omega))
    have oM2_176_19 : (M2.1 176 19).toInt = (M1.1 176 19).toInt := tl_slot (h2.1 176 19 (fun h => by first | exact (h : False).elim | omega))
    have oM2_176_20 : (M2.1 176 20).toInt = (M1.1 176 20).toInt := tl_slot (h2.1 176 20 (fun h => by first | exact (h : False).elim | omega))
    refine l3_icmp_eq 1456 dL_law_257 (by decide) (fun c => ?_) (fun c => absurd (Int32.toInt_inj.mp (show (y1 : Int32).toInt = (0 : Int32).toInt by have z : (0 : Int32).toInt = 0 := rfl; first | omega | exact ky2.elim)) c)
    exact KK _ M2 hJ (by omega)
set_option maxRecDepth 100000 in
set_option maxHeartbeats 4000000 in
theorem lc_2 {l : Launch} {Z : li_Z} {b L kc : Nat} {xs : Nat → Int32} {x4 : Int32} {M : li_M} {Q : Option Value → li_M → Prop} (htr : l.stackTraces = false) (hk : kc ≤ 512) (hJ : li_J M) (v1 : vp_in (x4 + 1) L) (v2 : vp_in (x4 + 2) L) (v3 : vp_in (x4 + 3) L) (v4 : vp_in (x4 + 4) L) (hR0 : (M.1 1 1).toInt = 0) (hR1 : (M.1 3 1).toInt = 0) (hR2 : (M.1 5 0).toInt = 0) (hR3 : (M.1 5 1).toInt = 0) (hR4 : (M.1 13 0).toInt = 0) (hR5 : (M.1 13 1).toInt = 0) (hR6 : (M.1 13 2).toInt = 0) (hR7 : (M.1 21 3).toInt = 0) (hR8 : (M.1 21 4).toInt = 0) (hR9 : (M.1 163 7).toInt = 0) (hR10 : (M.1 171 5).toInt = 0) (hR11 : (M.1 175 1).toInt = 0) (hR12 : (M.1 175 4).toInt = 0) (hR13 : (M.1 175 7).toInt = 0) (hR14 : (M.1 175 9).toInt = 0) (hR15 : (M.1 175 23).toInt = 0) (hR16 : (M.1 175 38).toInt = 0) (hR17 : (M.1 175 43).toInt = 0) (hR18 : (M.1 176 18).toInt = 0) (hR19 : (M.1 176 19).toInt = 0) (hR20 : (M.1 176 20).toInt = 0) (Pwq_M : li_wq (M.1 192) ((M.1 175 35).toInt) (121) (0) (0)) (Pkz_M : ∀ i : Nat, (M.1 202 i).toInt = 0) (KK : ∀ (k : Nat) (M : li_M), li_J M → k ≤ kc + 1 → l3_T l Z b L xs k 1456 [(4, .int x4), (0, .ref b), (1, .ref (Z.2.2 0)), (2, .ref (Z.2.2 175)), (3, .ref (Z.2.2 204))] [] M Q) : l3_T l Z b L xs kc 262 [(4, .int x4), (0, .ref b), (1, .ref (Z.2.2 0)), (2, .ref (Z.2.2 175)), (3, .ref (Z.2.2 204))] [] M Q := by
  have rJ1 := J_sl1 (M := M) hJ
  have rJ4 := J_sl4 (M := M) hJ
  have rJ7 := J_sl7 (M := M) hJ
  have rJ9 := J_sl9 (M := M) hJ
  have rJ23 := J_sl23 (M := M) hJ
  have rJ38 := J_sl38 (M := M) hJ
  refine l3_aload_n 2 dL_law_262 rfl ?_
  refine l3_callV (n := 0) (As := []) (by omega) dL_law_263 (k15_X11_people 1000 (by omega)  M (by first | omega | decide)) (Nat.le_of_ble_eq_true rfl) (Nat.le_of_ble_eq_true rfl) w_532 w_533 w_534 w_101 w_535 (by decide +kernel) rfl (by decide) sh_0 rfl rfl (Nat.le_of_ble_eq_true rfl) (fun r M1 h1 => ?_)
  obtain ⟨⟨y1, rfl, ky1⟩, h1⟩ := h1
  have hJ := l3_J hJ h1 (fun i h => by first | exact (h : False).elim | omega)
  have oM1_3_1 : (M1.1 3 1).toInt = (M.1 3 1).toInt := tl_slot (congrFun (h1.1 3 (fun h => by first | exact (h : False).elim | omega)) 1)
  have oM1_5_0 : (M1.1 5 0).toInt = (M.1 5 0).toInt := tl_slot (congrFun (h1.1 5 (fun h => by first | exact (h : False).elim | omega)) 0)
  have oM1_5_1 : (M1.1 5 1).toInt = (M.1 5 1).toInt := tl_slot (congrFun (h1.1 5 (fun h => by first | exact (h : False).elim | omega)) 1)
  have oM1_13_0 : (M1.1 13 0).toInt = (M.1 13 0).toInt := tl_slot (congrFun (h1.1 13 (fun h => by first | exact (h : False).elim | omega)) 0)
  have oM1_13_1 : (M1.1 13 1).toInt = (M.1 13 1).toInt := tl_slot (congrFun (h1.1 13 (fun h => by first | exact (h : False).elim | omega)) 1)
  have oM1_13_2 : (M1.1 13 2).toInt = (M.1 13 2).toInt := tl_slot (congrFun (h1.1 13 (fun h => by first | exact (h : False).elim | omega)) 2)
  have oM1_21_3 : (M1.1 21 3).toInt = (M.1 21 3).toInt := tl_slot (congrFun (h1.1 21 (fun h => by first | exact (h : False).elim | omega)) 3)
  have oM1_21_4 : (M1.1 21 4).toInt = (M.1 21 4).toInt := tl_slot (congrFun (h1.1 21 (fun h => by first | exact (h : False).elim | omega)) 4)
  have oM1_163_7 : (M1.1 163 7).toInt = (M.1 163 7).toInt := tl_slot (congrFun (h1.1 163 (fun h => by first | exact (h : False).elim | omega)) 7)
  have oM1_171_5 : (M1.1 171 5).toInt = (M.1 171 5).toInt := tl_slot (congrFun (h1.1 171 (fun h => by first | exact (h : False).elim | omega)) 5)
  have oM1_175_1 : (M1.1 175 1).toInt = (M.1 175 1).toInt := tl_slot (congrFun (h1.1 175 (fun h => by first | exact (h : False).elim | omega)) 1)
  have oM1_175_4 : (M1.1 175 4).toInt = (M.1 175 4).toInt := tl_slot (congrFun (h1.1 175 (fun h => by first | exact (h : False).elim | omega)) 4)
  have oM1_175_7 : (M1.1 175 7).toInt = (M.1 175 7).toInt := tl_slot (congrFun (h1.1 175 (fun h => by first | exact (h : False).elim | omega)) 7)
  have oM1_175_9 : (M1.1 175 9).toInt = (M.1 175 9).toInt := tl_slot (congrFun (h1.1 175 (fun h => by first | exact (h : False).elim | omega)) 9)
  have oM1_175_23 : (M1.1 175 23).toInt = (M.1 175 23).toInt := tl_slot (congrFun (h1.1 175 (fun h => by first | exact (h : False).elim | omega)) 23)
  have oM1_175_38 : (M1.1 175 38).toInt = (M.1 175 38).toInt := tl_slot (congrFun (h1.1 175 (fun h => by first | exact (h : False).elim | omega)) 38)
  have oM1_175_43 : (M1.1 175 43).toInt = (M.1 175 43).toInt := tl_slot (congrFun (h1.1 175 (fun h => by first | exact (h : False).elim | omega)) 43)
  have oM1_176_18 : (M1.1 176 18).toInt = (M.1 176 18).toInt := tl_slot (congrFun (h1.1 176 (fun h => by first | exact (h : False).elim | omega)) 18)
  have oM1_176_19 : (M1.1 176 19).toInt = (M.1 176 19).toInt := tl_slot (congrFun (h1.1 176 (fun h => by first | exact (h : False).elim | omega)) 19)
  have oM1_176_20 : (M1.1 176 20).toInt = (M.1 176 20).toInt := tl_slot (congrFun (h1.1 176 (fun h => by first | exact (h : False).elim | omega)) 20)
  have Pwq_M1 : li_wq (M1.1 192) ((M1.1 175 35).toInt) (121) (0) (0) := li_wq_mv (h1.1 192 (fun h => by first | exact (h : False).elim | omega)) (tl_slot (congrFun (h1.1 175 (fun h => by first | exact (h : False).elim | omega)) 35)) Pwq_M
  have Pkz_M1 : ∀ i : Nat, (M1.1 202 i).toInt = 0 := fun i => (tl_slot (congrFun (h1.1 202 (fun h => by first | exact (h : False).elim | omega)) i)).trans (Pkz_M i)
  refine l3_aload_n 3 dL_law_266 rfl ?_
  refine l3_callV (n := 0) (As := []) (by omega) dL_law_267 (k15_X12_people 1000 (by omega)  M1 hJ (by omega) ) (Nat.le_of_ble_eq_true rfl) (Nat.le_of_ble_eq_true rfl) w_1577 w_1578 w_1579 w_112 w_1580 (by decide +kernel) rfl (by decide) sh_175 rfl rfl (Nat.le_of_ble_eq_true rfl) (fun r M2 h2 => ?_)
  have jh2 := h2
  obtain ⟨⟨y2, rfl, ky2⟩, h2⟩ := h2
  have hJ := h2.2
  refine l3_icmp_eq 1456 dL_law_270 (by decide) (fun c => ?_) (fun c => absurd (Int32.toInt_inj.mp (show (y1 : Int32).toInt = (y2 : Int32).toInt by omega)) c)
  exact KK _ M2 hJ (by omega)
set_option maxRecDepth 100000 in
set_option maxHeartbeats 4000000 in
theorem lc_3 {l : Launch} {Z : li_Z} {b L kc : Nat} {xs : Nat → Int32} {x4 : Int32} {M : li_M} {Q : Option Value → li_M → Prop} (htr : l.stackTraces = false) (hk : kc ≤ 512) (hJ : li_J M) (v1 : vp_in (x4 + 1) L) (v2 : vp_in (x4 + 2) L) (v3 : vp_in (x4 + 3) L) (v4 : vp_in (x4 + 4) L) (hR0 : (M.1 1 1).toInt = 0) (hR1 : (M.1 3 1).toInt = 0) (hR2 : (M.1 5 0).toInt = 0) (hR3 : (M.1 5 1).toInt = 0) (hR4 : (M.1 13 0).toInt = 0) (hR5 : (M.1 13 1).toInt = 0) (hR6 : (M.1 13 2).toInt = 0) (hR7 : (M.1 21 3).toInt = 0) (hR8 : (M.1 21 4).toInt = 0) (hR9 : (M.1 163 7).toInt = 0) (hR10 : (M.1 171 5).toInt = 0) (hR11 : (M.1 175 1).toInt = 0) (hR12 : (M.1 175 4).toInt = 0) (hR13 : (M.1 175 7).toInt = 0) (hR14 : (M.1 175 9).toInt = 0) (hR15 : (M.1 175 23).toInt = 0) (hR16 : (M.1 175 38).toInt = 0) (hR17 : (M.1 175 43).toInt = 0) (hR18 : (M.1 176 18).toInt = 0) (hR19 : (M.1 176 19).toInt = 0) (hR20 : (M.1 176 20).toInt = 0) (Pwq_M : li_wq (M.1 192) ((M.1 175 35).toInt) (121) (0) (0)) (Pkz_M : ∀ i : Nat, (M.1 202 i).toInt = 0) (KK : ∀ (k : Nat) (M : li_M), li_J M → k ≤ kc + 1 → l3_T l Z b L xs k 1456 [(4, .int x4), (0, .ref b), (1, .ref (Z.2.2 0)), (2, .ref (Z.2.2 175)), (3, .ref (Z.2.2 204))] [] M Q) : l3_T l Z b L xs kc 275 [(4, .int x4), (0, .ref b), (1, .ref (Z.2.2 0)), (2, .ref (Z.2.2 175)), (3, .ref (Z.2.2 204))] [] M Q := by
  have rJ1 := J_sl1 (M := M) hJ
  have rJ4 := J_sl4 (M := M) hJ
  have rJ7 := J_sl7 (M := M) hJ
  have rJ9 := J_sl9 (M := M) hJ
  have rJ23 := J_sl23 (M := M) hJ
  have rJ38 := J_sl38 (M := M) hJ
  refine l3_aload_n 2 dL_law_275 rfl ?_
  refine l3_callV (n := 0) (As := []) (by omega) dL_law_276 (k15_X11_things 1000 (by omega)  M (by first | omega | decide)) (Nat.le_of_ble_eq_true rfl) (Nat.le_of_ble_eq_true rfl) w_739 w_740 w_741 w_101 w_742 (by decide +kernel) rfl (by decide) sh_0 rfl rfl (Nat.le_of_ble_eq_true rfl) (fun r M1 h1 => ?_)
  obtain ⟨⟨y1, rfl, ky1⟩, h1⟩ := h1
  have hJ := l3_J hJ h1 (fun i h => by first | exact (h : False).elim | omega)
  have oM1_3_1 : (M1.1 3 1).toInt = (M.1 3 1).toInt := tl_slot (congrFun (h1.1 3 (fun h => by first | exact (h : False).elim | omega)) 1)
  have oM1_5_0 : (M1.1 5 0).toInt = (M.1 5 0).toInt := tl_slot (congrFun (h1.1 5 (fun h => by first | exact (h : False).elim | omega)) 0)
  have oM1_5_1 : (M1.1 5 1).toInt = (M.1 5 1).toInt := tl_slot (congrFun (h1.1 5 (fun h => by first | exact (h : False).elim | omega)) 1)
  have oM1_13_0 : (M1.1 13 0).toInt = (M.1 13 0).toInt := tl_slot (congrFun (h1.1 13 (fun h => by first | exact (h : False).elim | omega)) 0)
  have oM1_13_1 : (M1.1 13 1).toInt = (M.1 13 1).toInt := tl_slot (congrFun (h1.1 13 (fun h => by first | exact (h : False).elim | omega)) 1)
  have oM1_13_2 : (M1.1 13 2).toInt = (M.1 13 2).toInt := tl_slot (congrFun (h1.1 13 (fun h => by first | exact (h : False).elim | omega)) 2)
  have oM1_21_3 : (M1.1 21 3).toInt = (M.1 21 3).toInt := tl_slot (congrFun (h1.1 21 (fun h => by first | exact (h : False).elim | omega)) 3)
  have oM1_21_4 : (M1.1 21 4).toInt = (M.1 21 4).toInt := tl_slot (congrFun (h1.1 21 (fun h => by first | exact (h : False).elim | omega)) 4)
  have oM1_163_7 : (M1.1 163 7).toInt = (M.1 163 7).toInt := tl_slot (congrFun (h1.1 163 (fun h => by first | exact (h : False).elim | omega)) 7)
  have oM1_171_5 : (M1.1 171 5).toInt = (M.1 171 5).toInt := tl_slot (congrFun (h1.1 171 (fun h => by first | exact (h : False).elim | omega)) 5)
  have oM1_175_1 : (M1.1 175 1).toInt = (M.1 175 1).toInt := tl_slot (congrFun (h1.1 175 (fun h => by first | exact (h : False).elim | omega)) 1)
  have oM1_175_4 : (M1.1 175 4).toInt = (M.1 175 4).toInt := tl_slot (congrFun (h1.1 175 (fun h => by first | exact (h : False).elim | omega)) 4)
  have oM1_175_7 : (M1.1 175 7).toInt = (M.1 175 7).toInt := tl_slot (congrFun (h1.1 175 (fun h => by first | exact (h : False).elim | omega)) 7)
  have oM1_175_9 : (M1.1 175 9).toInt = (M.1 175 9).toInt := tl_slot (congrFun (h1.1 175 (fun h => by first | exact (h : False).elim | omega)) 9)
  have oM1_175_23 : (M1.1 175 23).toInt = (M.1 175 23).toInt := tl_slot (congrFun (h1.1 175 (fun h => by first | exact (h : False).elim | omega)) 23)
  have oM1_175_38 : (M1.1 175 38).toInt = (M.1 175 38).toInt := tl_slot (congrFun (h1.1 175 (fun h => by first | exact (h : False).elim | omega)) 38)
  have oM1_175_43 : (M1.1 175 43).toInt = (M.1 175 43).toInt := tl_slot (congrFun (h1.1 175 (fun h => by first | exact (h : False).elim | omega)) 43)
  have oM1_176_18 : (M1.1 176 18).toInt = (M.1 176 18).toInt := tl_slot (congrFun (h1.1 176 (fun h => by first | exact (h : False).elim | omega)) 18)
  have oM1_176_19 : (M1.1 176 19).toInt = (M.1 176 19).toInt := tl_slot (congrFun (h1.1 176 (fun h => by first | exact (h : False).elim | omega)) 19)
  have oM1_176_20 : (M1.1 176 20).toInt = (M.1 176 20).toInt := tl_slot (congrFun (h1.1 176 (fun h => by first | exact (h : False).elim | omega)) 20)
  have Pwq_M1 : li_wq (M1.1 192) ((M1.1 175 35).toInt) (121) (0) (0) := li_wq_mv (h1.1 192 (fun h => by first | exact (h : False).elim | omega)) (tl_slot (congrFun (h1.1 175 (fun h => by first | exact (h : False).elim | omega)) 35)) Pwq_M
  have Pkz_M1 : ∀ i : Nat, (M1.1 202 i).toInt = 0 := fun i => (tl_slot (congrFun (h1.1 202 (fun h => by first | exact (h : False).elim | omega)) i)).trans (Pkz_M i)
  refine l3_aload_n 3 dL_law_279 rfl ?_
  refine l3_callV (n := 0) (As := []) (by omega) dL_law_280 (k15_X12_things 1000 (by omega)  M1 hJ (by omega) ) (Nat.le_of_ble_eq_true rfl) (Nat.le_of_ble_eq_true rfl) w_1613 w_1614 w_1615 w_112 w_1616 (by decide +kernel) rfl (by decide) sh_175 rfl rfl (Nat.le_of_ble_eq_true rfl) (fun r M2 h2 => ?_)
  have jh2 := h2
  obtain ⟨⟨y2, rfl, ky2⟩, h2⟩ := h2
  have hJ := h2.2
  refine l3_icmp_eq 1456 dL_law_283 (by decide) (fun c => ?_) (fun c => absurd (Int32.toInt_inj.mp (show (y1 : Int32).toInt = (y2 : Int32).toInt by omega)) c)
  exact KK _ M2 hJ (by omega)
set_option maxRecDepth 100000 in
set_option maxHeartbeats 4000000 in
theorem lc_4 {l : Launch} {Z : li_Z} {b L kc : Nat} {xs : Nat → Int32} {x4 : Int32} {M : li_M} {Q : Option Value → li_M → Prop} (htr : l.stackTraces = false) (hk : kc ≤ 512) (hJ : li_J M) (v1 : vp_in (x4 + 1) L) (v2 : vp_in (x4 + 2) L) (v3 : vp_in (x4 + 3) L) (v4 : vp_in (x4 + 4) L) (hR0 : (M.1 1 1).toInt = 0) (hR1 : (M.1 3 1).toInt = 0) (hR2 : (M.1 5 0).toInt = 0) (hR3 : (M.1 5 1).toInt = 0) (hR4 : (M.1 13 0).toInt = 0) (hR5 : (M.1 13 1).toInt = 0) (hR6 : (M.1 13 2).toInt = 0) (hR7 : (M.1 21 3).toInt = 0) (hR8 : (M.1 21 4).toInt = 0) (hR9 : (M.1 163 7).toInt = 0) (hR10 : (M.1 171 5).toInt = 0) (hR11 : (M.1 175 1).toInt = 0) (hR12 : (M.1 175 4).toInt = 0) (hR13 : (M.1 175 7).toInt = 0) (hR14 : (M.1 175 9).toInt = 0) (hR15 : (M.1 175 23).toInt = 0) (hR16 : (M.1 175 38).toInt = 0) (hR17 : (M.1 175 43).toInt = 0) (hR18 : (M.1 176 18).toInt = 0) (hR19 : (M.1 176 19).toInt = 0) (hR20 : (M.1 176 20).toInt = 0) (Pwq_M : li_wq (M.1 192) ((M.1 175 35).toInt) (121) (0) (0)) (Pkz_M : ∀ i : Nat, (M.1 202 i).toInt = 0) (KK : ∀ (k : Nat) (M : li_M), li_J M → k ≤ kc + 1 → l3_T l Z b L xs k 1456 [(4, .int x4), (0, .ref b), (1, .ref (Z.2.2 0)), (2, .ref (Z.2.2 175)), (3, .ref (Z.2.2 204))] [] M Q) : l3_T l Z b L xs kc 288 [(4, .int x4), (0, .ref b), (1, .ref (Z.2.2 0)), (2, .ref (Z.2.2 175)), (3, .ref (Z.2.2 204))] [] M Q := by
  have rJ1 := J_sl1 (M := M) hJ
  have rJ4 := J_sl4 (M := M) hJ
  have rJ7 := J_sl7 (M := M) hJ
  have rJ9 := J_sl9 (M := M) hJ
  have rJ23 := J_sl23 (M := M) hJ
  have rJ38 := J_sl38 (M := M) hJ
  refine l3_aload_n 2 dL_law_288 rfl ?_
  refine l3_callV (n := 0) (As := []) (by omega) dL_law_289 (k15_X11_rule 1000 (by omega)  M (by first | omega | decide)) (Nat.le_of_ble_eq_true rfl) (Nat.le_of_ble_eq_true rfl) w_743 w_744 w_745 w_101 w_746 (by decide +kernel) rfl (by decide) sh_0 rfl rfl (Nat.le_of_ble_eq_true rfl) (fun r M1 h1 => ?_)
  obtain ⟨⟨y1, rfl, ky1⟩, h1⟩ := h1
  have hJ := l3_J hJ h1 (fun i h => by first | exact (h : False).elim | omega)
  have oM1_3_1 : (M1.1 3 1).toInt = (M.1 3 1).toInt := tl_slot (congrFun (h1.1 3 (fun h => by first | exact (h : False).elim | omega)) 1)
  have oM1_5_0 : (M1.1 5 0).toInt = (M.1 5 0).toInt := tl_slot (congrFun (h1.1 5 (fun h => by first | exact (h : False).elim | omega)) 0)
  have oM1_5_1 : (M1.1 5 1).toInt = (M.1 5 1).toInt := tl_slot (congrFun (h1.1 5 (fun h => by first | exact (h : False).elim | omega)) 1)
  have oM1_13_0 : (M1.1 13 0).toInt = (M.1 13 0).toInt := tl_slot (congrFun (h1.1 13 (fun h => by first | exact (h : False).elim | omega)) 0)
  have oM1_13_1 : (M1.1 13 1).toInt = (M.1 13 1).toInt := tl_slot (congrFun (h1.1 13 (fun h => by first | exact (h : False).elim | omega)) 1)
  have oM1_13_2 : (M1.1 13 2).toInt = (M.1 13 2).toInt := tl_slot (congrFun (h1.1 13 (fun h => by first | exact (h : False).elim | omega)) 2)
  have oM1_21_3 : (M1.1 21 3).toInt = (M.1 21 3).toInt := tl_slot (congrFun (h1.1 21 (fun h => by first | exact (h : False).elim | omega)) 3)
  have oM1_21_4 : (M1.1 21 4).toInt = (M.1 21 4).toInt := tl_slot (congrFun (h1.1 21 (fun h => by first | exact (h : False).elim | omega)) 4)
  have oM1_163_7 : (M1.1 163 7).toInt = (M.1 163 7).toInt := tl_slot (congrFun (h1.1 163 (fun h => by first | exact (h : False).elim | omega)) 7)
  have oM1_171_5 : (M1.1 171 5).toInt = (M.1 171 5).toInt := tl_slot (congrFun (h1.1 171 (fun h => by first | exact (h : False).elim | omega)) 5)
  have oM1_175_1 : (M1.1 175 1).toInt = (M.1 175 1).toInt := tl_slot (congrFun (h1.1 175 (fun h => by first | exact (h : False).elim | omega)) 1)
  have oM1_175_4 : (M1.1 175 4).toInt = (M.1 175 4).toInt := tl_slot (congrFun (h1.1 175 (fun h => by first | exact (h : False).elim | omega)) 4)
  have oM1_175_7 : (M1.1 175 7).toInt = (M.1 175 7).toInt := tl_slot (congrFun (h1.1 175 (fun h => by first | exact (h : False).elim | omega)) 7)
  have oM1_175_9 : (M1.1 175 9).toInt = (M.1 175 9).toInt := tl_slot (congrFun (h1.1 175 (fun h => by first | exact (h : False).elim | omega)) 9)
  have oM1_175_23 : (M1.1 175 23).toInt = (M.1 175 23).toInt := tl_slot (congrFun (h1.1 175 (fun h => by first | exact (h : False).elim | omega)) 23)
  have oM1_175_38 : (M1.1 175 38).toInt = (M.1 175 38).toInt := tl_slot (congrFun (h1.1 175 (fun h => by first | exact (h : False).elim | omega)) 38)
  have oM1_175_43 : (M1.1 175 43).toInt = (M.1 175 43).toInt := tl_slot (congrFun (h1.1 175 (fun h => by first | exact (h : False).elim | omega)) 43)
  have oM1_176_18 : (M1.1 176 18).toInt = (M.1 176 18).toInt := tl_slot (congrFun (h1.1 176 (fun h => by first | exact (h : False).elim | omega)) 18)
  have oM1_176_19 : (M1.1 176 19).toInt = (M.1 176 19).toInt := tl_slot (congrFun (h1.1 176 (fun h => by first | exact (h : False).elim | omega)) 19)
  have oM1_176_20 : (M1.1 176 20).toInt = (M.1 176 20).toInt := tl_slot (congrFun (h1.1 176 (fun h => by first | exact (h : False).elim | omega)) 20)
  have Pwq_M1 : li_wq (M1.1 192) ((M1.1 175 35).toInt) (121) (0) (0) := li_wq_mv (h1.1 192 (fun h => by first | exact (h : False).elim | omega)) (tl_slot (congrFun (h1.1 175 (fun h => by first | exact (h : False).elim | omega)) 35)) Pwq_M
  have Pkz_M1 : ∀ i : Nat, (M1.1 202 i).toInt = 0 := fun i => (tl_slot (congrFun (h1.1 202 (fun h => by first | exact (h : False).elim | omega)) i)).trans (Pkz_M i)
  refine l3_aload_n 3 dL_law_292 rfl ?_
  refine l3_callV (n := 0) (As := []) (by omega) dL_law_293 (k15_X12_rule 1000 (by omega)  M1 hJ (by omega) ) (Nat.le_of_ble_eq_true rfl) (Nat.le_of_ble_eq_true rfl) w_1621 w_1622 w_1623 w_112 w_1624 (by decide +kernel) rfl (by decide) sh_175 rfl rfl (Nat.le_of_ble_eq_true rfl) (fun r M2 h2 => ?_)
  have jh2 := h2
  obtain ⟨⟨y2, rfl, ky2⟩, h2⟩ := h2
  have hJ := h2.2
  refine l3_icmp_eq 1456 dL_law_296 (by decide) (fun c => ?_) (fun c => absurd (Int32.toInt_inj.mp (show (y1 : Int32).toInt = (y2 : Int32).toInt by omega)) c)
  exact KK _ M2 hJ (by omega)
set_option maxRecDepth 100000 in
set_option maxHeartbeats 4000000 in
theorem lc_5 {l : Launch} {Z : li_Z} {b L kc : Nat} {xs : Nat → Int32} {x4 : Int32} {M : li_M} {Q : Option Value → li_M → Prop} (htr : l.stackTraces = false) (hk : kc ≤ 512) (hJ : li_J M) (v1 : vp_in (x4 + 1) L) (v2 : vp_in (x4 + 2) L) (v3 : vp_in (x4 + 3) L) (v4 : vp_in (x4 + 4) L) (hR0 : (M.1 1 1).toInt = 0) (hR1 : (M.1 3 1).toInt = 0) (hR2 : (M.1 5 0).toInt = 0) (hR3 : (M.1 5 1).toInt = 0) (hR4 : (M.1 13 0).toInt = 0) (hR5 : (M.1 13 1).toInt = 0) (hR6 : (M.1 13 2).toInt = 0) (hR7 : (M.1 21 3).toInt = 0) (hR8 : (M.1 21 4).toInt = 0) (hR9 : (M.1 163 7).toInt = 0) (hR10 : (M.1 171 5).toInt = 0) (hR11 : (M.1 175 1).toInt = 0) (hR12 : (M.1 175 4).toInt = 0) (hR13 : (M.1 175 7).toInt = 0) (hR14 : (M.1 175 9).toInt = 0) (hR15 : (M.1 175 23).toInt = 0) (hR16 : (M.1 175 38).toInt = 0) (hR17 : (M.1 175 43).toInt = 0) (hR18 : (M.1 176 18).toInt = 0) (hR19 : (M.1 176 19).toInt = 0) (hR20 : (M.1 176 20).toInt = 0) (Pwq_M : li_wq (M.1 192) ((M.1 175 35).toInt) (121) (0) (0)) (Pkz_M : ∀ i : Nat, (M.1 202 i).toInt = 0) (KK : ∀ (k : Nat) (M : li_M), li_J M → k ≤ kc + 1 → l3_T l Z b L xs k 1456 [(4, .int x4), (0, .ref b), (1, .ref (Z.2.2 0)), (2, .ref (Z.2.2 175)), (3, .ref (Z.2.2 204))] [] M Q) : l3_T l Z b L xs kc 301 [(4, .int x4), (0, .ref b), (1, .ref (Z.2.2 0)), (2, .ref (Z.2.2 175)), (3, .ref (Z.2.2 204))] [] M Q := by
  have rJ1 := J_sl1 (M := M) hJ
  have rJ4 := J_sl4 (M := M) hJ
  have rJ7 := J_sl7 (M := M) hJ
  have rJ9 := J_sl9 (M := M) hJ
  have rJ23 := J_sl23 (M := M) hJ
  have rJ38 := J_sl38 (M := M) hJ
  refine l3_aload_n 2 dL_law_301 rfl ?_
  refine l3_aload_n 1 dL_law_302 rfl ?_
  refine l3_iload 0 dL_law_303 rfl ?_
  refine l3_iconst 1 dL_law_305 (by decide) ?_
  refine l3_iadd dL_law_306 ?_
  refine l3_sld dL_law_307 v1 ?_
  refine l3_aload_n 1 dL_law_308 rfl ?_
  refine l3_iload 0 dL_law_309 rfl ?_
  refine l3_iconst 2 dL_law_311 (by decide) ?_
  refine l3_iadd dL_law_312 ?_
  refine l3_sld dL_law_313 v2 ?_
  refine l3_aload_n 4 dL_law_314 rfl ?_
  refine l3_callH (n := 4) (As := [.ref (Z.2.2 0), .int (xs (x4 + 1 : Int32).toNatClampNeg), .int (xs (x4 + 2 : Int32).toNatClampNeg), .ref (Z.2.2 204)]) (by omega) dL_law_315 (lh_person htr (xs (x4 + 1 : Int32).toNatClampNeg) (xs (x4 + 2 : Int32).toNatClampNeg) M (by omega)) (Nat.le_of_ble_eq_true rfl) w_1295 w_1296 w_100 w_1297 (by decide +kernel) rfl rfl (Nat.le_of_ble_eq_true rfl) (fun r M1 h1 => ?_)
  obtain ⟨rfl, h1⟩ := h1
  have hJ := l3_J hJ h1 (fun i h => (h : False).elim)
  have oM1_1_1 : (M1.1 1 1).toInt = (M.1 1 1).toInt := tl_slot (congrFun (h1.1 1 (fun h => by first | exact (h : False).elim | omega)) 1)
  have oM1_3_1 : (M1.1 3 1).toInt = (M.1 3 1).toInt := tl_slot (congrFun (h1.1 3 (fun h => by first | exact (h : False).elim | omega)) 1)
  have oM1_5_0 : (M1.1 5 0).toInt = (M.1 5 0).toInt := tl_slot (congrFun (h1.1 5 (fun h => by first | exact (h : False).elim | omega)) 0)
  have oM1_5_1 : (M1.1 5 1).toInt = (M.1 5 1).toInt := tl_slot (congrFun (h1.1 5 (fun h => by first | exact (h : False).elim | omega)) 1)
  have oM1_13_0 : (M1.1 13 0).toInt = (M.1 13 0).toInt := tl_slot (congrFun (h1.1 13 (fun h => by first | exact (h : False).elim | omega)) 0)
  have oM1_13_1 : (M1.1 13 1).toInt = (M.1 13 1).toInt := tl_slot (congrFun (h1.1 13 (fun h => by first | exact (h : False).elim | omega)) 1)
  have oM1_13_2 : (M1.1 13 2).toInt = (M.1 13 2).toInt := tl_slot (congrFun (h1.1 13 (fun h => by first | exact (h : False).elim | omega)) 2)
  have oM1_21_3 : (M1.1 21 3).toInt = (M.1 21 3).toInt := tl_slot (congrFun (h1.1 21 (fun h => by first | exact (h : False).elim | omega)) 3)
  have oM1_21_4 : (M1.1 21 4).toInt = (M.1 21 4).toInt := tl_slot (congrFun (h1.1 21 (fun h => by first | exact (h : False).elim | omega)) 4)
  have oM1_163_7 : (M1.1 163 7).toInt = (M.1 163 7).toInt := tl_slot (congrFun (h1.1 163 (fun h => by first | exact (h : False).elim | omega)) 7)
  have oM1_171_5 : (M1.1 171 5).toInt = (M.1 171 5).toInt := tl_slot (congrFun (h1.1 171 (fun h => by first | exact (h : False).elim | omega)) 5)
  have oM1_175_1 : (M1.1 175 1).toInt = (M.1 175 1).toInt := tl_slot (congrFun (h1.1 175 (fun h => by first | exact (h : False).elim | omega)) 1)
  have oM1_175_4 : (M1.1 175 4).toInt = (M.1 175 4).toInt := tl_slot (congrFun (h1.1 175 (fun h => by first | exact (h : False).elim | omega)) 4)
  have oM1_175_7 : (M1.1 175 7).toInt = (M.1 175 7).toInt := tl_slot (congrFun (h1.1 175 (fun h => by first | exact (h : False).elim | omega)) 7)
  have oM1_175_9 : (M1.1 175 9).toInt = (M.1 175 9).toInt := tl_slot (congrFun (h1.1 175 (fun h => by first | exact (h : False).elim | omega)) 9)
  have oM1_175_23 : (M1.1 175 23).toInt = (M.1 175 23).toInt := tl_slot (congrFun (h1.1 175 (fun h => by first | exact (h : False).elim | omega)) 23)
  have oM1_175_38 : (M1.1 175 38).toInt = (M.1 175 38).toInt := tl_slot (congrFun (h1.1 175 (fun h => by first | exact (h : False).elim | omega)) 38)
  have oM1_175_43 : (M1.1 175 43).toInt = (M.1 175 43).toInt := tl_slot (congrFun (h1.1 175 (fun h => by first | exact (h : False).elim | omega)) 43)
  have oM1_176_18 : (M1.1 176 18).toInt = (M.1 176 18).toInt := tl_slot (congrFun (h1.1 176 (fun h => by first | exact (h : False).elim | omega)) 18)
  have oM1_176_19 : (M1.1 176 19).toInt = (M.1 176 19).toInt := tl_slot (congrFun (h1.1 176 (fun h => by first | exact (h : False).elim | omega)) 19)
  have oM1_176_20 : (M1.1 176 20).toInt = (M.1 176 20).toInt := tl_slot (congrFun (h1.1 176 (fun h => by first | exact (h : False).elim | omega)) 20)
  have Pwq_M1 : li_wq (M1.1 192) ((M1.1 175 35).toInt) (121) (0) (0) := li_wq_mv (h1.1 192 (fun h => by first | exact (h : False).elim | omega)) (tl_slot (congrFun (h1.1 175 (fun h => by first | exact (h : False).elim | omega)) 35)) Pwq_M
  have Pkz_M1 : ∀ i : Nat, (M1.1 202 i).toInt = 0 := fun i => (tl_slot (congrFun (h1.1 202 (fun h => by first | exact (h : False).elim | omega)) i)).trans (Pkz_M i)
  refine l3_istore [(5, .int 1), (4, .int x4), (0, .ref b), (1, .ref (Z.2.2 0)), (2, .ref (Z.2.2 175)), (3, .ref (Z.2.2 204))] dL_law_318 (by decide) rfl ?_
  refine l3_aload_n 4 dL_law_320 rfl ?_
  refine l3_aload_n 2 dL_law_321 rfl ?_
  refine l3_iload 1 dL_law_322 rfl ?_
  refine l3_iconst 1 dL_law_324 (by decide) ?_
  refine l3_iadd dL_law_325 ?_
  refine l3_sld dL_law_326 v1 ?_
  refine l3_aload_n 2 dL_law_327 rfl ?_
  refine l3_iload 1 dL_law_328 rfl ?_
  refine l3_iconst 2 dL_law_330 (by decide) ?_
  refine l3_iadd dL_law_331 ?_
  refine l3_sld dL_law_332 v2 ?_
  refine l3_callV (n := 2) (As := [.int (xs (x4 + 1 : Int32).toNatClampNeg), .int (xs (x4 + 2 : Int32).toNatClampNeg)]) (by omega) dL_law_333 (k15_X12_person 1000 (by omega) (xs (x4 + 1 : Int32).toNatClampNeg) (xs (x4 + 2 : Int32).toNatClampNeg) M1 hJ (by omega) ) (Nat.le_of_ble_eq_true rfl) (Nat.le_of_ble_eq_true rfl) w_1648 w_1649 w_1650 w_112 w_1651 (by decide +kernel) rfl (by decide) sh_175 rfl rfl (Nat.le_of_ble_eq_true rfl) (fun r M2 h2 => ?_)
  have jh2 := h2
  obtain ⟨⟨y2, rfl, ky2⟩, h2⟩ := h2
  have hJ := h2.2.1
  have nh2 := h2.2.2
  refine l3_istore [(6, .int y2), (5, .int 1), (4, .int x4), (0, .ref b), (1, .ref (Z.2.2 0)), (2, .ref (Z.2.2 175)), (3, .ref (Z.2.2 204))] dL_law_336 (by decide) rfl ?_
  refine l3_aload_n 5 dL_law_338 rfl ?_
  refine l3_callV (n := 0) (As := []) (by omega) dL_law_339 (k15_X12_thrown 1000 (by omega)  M2 hJ ) (Nat.le_of_ble_eq_true rfl) (Nat.le_of_ble_eq_true rfl) w_1562 w_1563 w_1564 w_112 w_1565 (by decide +kernel) rfl (by decide) sh_175 rfl rfl (Nat.le_of_ble_eq_true rfl) (fun r M3 h3 => ?_)
  have jh3 := h3
  obtain ⟨⟨y3, rfl, ky3⟩, h3⟩ := h3
  have hJ := h3.2
  refine l3_iload 1 dL_law_342 rfl ?_
  refine l3_icmp_eq 349 dL_law_344 (by decide) (fun c => ?_) (fun c => absurd (Int32.toInt_inj.mp (show (y3 : Int32).toInt = (1 : Int32).toInt by have z : (1 : Int32).toInt = 1 := rfl; first | omega | exact ky3.elim)) c)
  refine l3_iload 1 dL_law_349 rfl ?_
  refine l3_if_ne 366 dL_law_351 (by decide) (fun c => ?_) (fun c => absurd c (by decide))
  refine l3_goto 1456 dL_law_366 (by decide) ?_
  refine l3_pick [2, 3, 4, 5, 6] [(4, .int x4), (0, .ref b), (1, .ref (Z.2.2 0)), (2, .ref (Z.2.2 175)), (3, .ref (Z.2.2 204))] rfl ?_
  exact KK _ M3 hJ (by omega)
set_option maxRecDepth 100000 in
set_option maxHeartbeats 4000000 in
theorem lc_6 {l : Launch} {Z : li_Z} {b L kc : Nat} {xs : Nat → Int32} {x4 : Int32} {M : li_M} {Q : Option Value → li_M → Prop} (htr : l.stackTraces = false) (hk : kc ≤ 512) (hJ : li_J M) (v1 : vp_in (x4 + 1) L) (v2 : vp_in (x4 + 2) L) (v3 : vp_in (x4 + 3) L) (v4 : vp_in (x4 + 4) L) (hR0 : (M.1 1 1).toInt = 0) (hR1 : (M.1 3 1).toInt = 0) (hR2 : (M.1 5 0).toInt = 0) (hR3 : (M.1 5 1).toInt = 0) (hR4 : (M.1 13 0).toInt = 0) (hR5 : (M.1 13 1).toInt = 0) (hR6 : (M.1 13 2).toInt = 0) (hR7 : (M.1 21 3).toInt = 0) (hR8 : (M.1 21 4).toInt = 0) (hR9 : (M.1 163 7).toInt = 0) (hR10 : (M.1 171 5).toInt = 0) (hR11 : (M.1 175 1).toInt = 0) (hR12 : (M.1 175 4).toInt = 0) (hR13 : (M.1 175 7).toInt = 0) (hR14 : (M.1 175 9).toInt = 0) (hR15 : (M.1 175 23).toInt = 0) (hR16 : (M.1 175 38).toInt = 0) (hR17 : (M.1 175 43).toInt = 0) (hR18 : (M.1 176 18).toInt = 0) (hR19 : (M.1 176 19).toInt = 0) (hR20 : (M.1 176 20).toInt = 0) (Pwq_M : li_wq (M.1 192) ((M.1 175 35).toInt) (121) (0) (0)) (Pkz_M : ∀ i : Nat, (M.1 202 i).toInt = 0) (KK : ∀ (k : Nat) (M : li_M), li_J M → k ≤ kc + 1 → l3_T l Z b L xs k 1456 [(4, .int x4), (0, .ref b), (1, .ref (Z.2.2 0)), (2, .ref (Z.2.2 175)), (3, .ref (Z.2.2 204))] [] M Q) : l3_T l Z b L xs kc 369 [(4, .int x4), (0, .ref b), (1, .ref (Z.2.2 0)), (2, .ref (Z.2.2 175)), (3, .ref (Z.2.2 204))] [] M Q := by
  have rJ1 := J_sl1 (M := M) hJ
  have rJ4 := J_sl4 (M := M) hJ
  have rJ7 := J_sl7 (M := M) hJ
  have rJ9 := J_sl9 (M := M) hJ
  have rJ23 := J_sl23 (M := M) hJ
  have rJ38 := J_sl38 (M := M) hJ
  refine l3_aload_n 2 dL_law_369 rfl ?_
  refine l3_aload_n 1 dL_law_370 rfl ?_
  refine l3_iload 0 dL_law_371 rfl ?_
  refine l3_iconst 1 dL_law_373 (by decide) ?_
  refine l3_iadd dL_law_374 ?_
  refine l3_sld dL_law_375 v1 ?_
  refine l3_aload_n 1 dL_law_376 rfl ?_
  refine l3_iload 0 dL_law_377 rfl ?_
  refine l3_iconst 2 dL_law_379 (by decide) ?_
  refine l3_iadd dL_law_380 ?_
  refine l3_sld dL_law_381 v2 ?_
  refine l3_aload_n 4 dL_law_382 rfl ?_
  refine l3_callH (n := 4) (As := [.ref (Z.2.2 0), .int (xs (x4 + 1 : Int32).toNatClampNeg), .int (xs (x4 + 2 : Int32).toNatClampNeg), .ref (Z.2.2 204)]) (by omega) dL_law_383 (lh_thing htr (xs (x4 + 1 : Int32).toNatClampNeg) (xs (x4 + 2 : Int32).toNatClampNeg) M (by omega)) (Nat.le_of_ble_eq_true rfl) w_1371 w_1372 w_100 w_1373 (by decide +kernel) rfl rfl (Nat.le_of_ble_eq_true rfl) (fun r M1 h1 => ?_)
  obtain ⟨rfl, h1⟩ := h1
  have hJ := l3_J hJ h1 (fun i h => (h : False).elim)
  have oM1_1_1 : (M1.1 1 1).toInt = (M.1 1 1).toInt := tl_slot (congrFun (h1.1 1 (fun h => by first | exact (h : False).elim | omega)) 1)
  have oM1_3_1 : (M1.1 3 1).toInt = (M.1 3 1).toInt := tl_slot (congrFun (h1.1 3 (fun h => by first | exact (h : False).elim | omega)) 1)
  have oM1_5_0 : (M1.1 5 0).toInt = (M.1 5 0).toInt := tl_slot (congrFun (h1.1 5 (fun h => by first | exact (h : False).elim | omega)) 0)
  have oM1_5_1 : (M1.1 5 1).toInt = (M.1 5 1).toInt := tl_slot (congrFun (h1.1 5 (fun h => by first | exact (h : False).elim | omega)) 1)
  have oM1_13_0 : (M1.1 13 0).toInt = (M.1 13 0).toInt := tl_slot (congrFun (h1.1 13 (fun h => by first | exact (h : False).elim | omega)) 0)
  have oM1_13_1 : (M1.1 13 1).toInt = (M.1 13 1).toInt := tl_slot (congrFun (h1.1 13 (fun h => by first | exact (h : False).elim | omega)) 1)
  have oM1_13_2 : (M1.1 13 2).toInt = (M.1 13 2).toInt := tl_slot (congrFun (h1.1 13 (fun h => by first | exact (h : False).elim | omega)) 2)
  have oM1_21_3 : (M1.1 21 3).toInt = (M.1 21 3).toInt := tl_slot (congrFun (h1.1 21 (fun h => by first | exact (h : False).elim | omega)) 3)
  have oM1_21_4 : (M1.1 21 4).toInt = (M.1 21 4).toInt := tl_slot (congrFun (h1.1 21 (fun h => by first | exact (h : False).elim | omega)) 4)
  have oM1_163_7 : (M1.1 163 7).toInt = (M.1 163 7).toInt := tl_slot (congrFun (h1.1 163 (fun h => by first | exact (h : False).elim | omega)) 7)
  have oM1_171_5 : (M1.1 171 5).toInt = (M.1 171 5).toInt := tl_slot (congrFun (h1.1 171 (fun h => by first | exact (h : False).elim | omega)) 5)
  have oM1_175_1 : (M1.1 175 1).toInt = (M.1 175 1).toInt := tl_slot (congrFun (h1.1 175 (fun h => by first | exact (h : False).elim | omega)) 1)
  have oM1_175_4 : (M1.1 175 4).toInt = (M.1 175 4).toInt := tl_slot (congrFun (h1.1 175 (fun h => by first | exact (h : False).elim | omega)) 4)
  have oM1_175_7 : (M1.1 175 7).toInt = (M.1 175 7).toInt := tl_slot (congrFun (h1.1 175 (fun h => by first | exact (h : False).elim | omega)) 7)
  have oM1_175_9 : (M1.1 175 9).toInt = (M.1 175 9).toInt := tl_slot (congrFun (h1.1 175 (fun h => by first | exact (h : False).elim | omega)) 9)
  have oM1_175_23 : (M1.1 175 23).toInt = (M.1 175 23).toInt := tl_slot (congrFun (h1.1 175 (fun h => by first | exact (h : False).elim | omega)) 23)
  have oM1_175_38 : (M1.1 175 38).toInt = (M.1 175 38).toInt := tl_slot (congrFun (h1.1 175 (fun h => by first | exact (h : False).elim | omega)) 38)
  have oM1_175_43 : (M1.1 175 43).toInt = (M.1 175 43).toInt := tl_slot (congrFun (h1.1 175 (fun h => by first | exact (h : False).elim | omega)) 43)
  have oM1_176_18 : (M1.1 176 18).toInt = (M.1 176 18).toInt := tl_slot (congrFun (h1.1 176 (fun h => by first | exact (h : False).elim | omega)) 18)
  have oM1_176_19 : (M1.1 176 19).toInt = (M.1 176 19).toInt := tl_slot (congrFun (h1.1 176 (fun h => by first | exact (h : False).elim | omega)) 19)
  have oM1_176_20 : (M1.1 176 20).toInt = (M.1 176 20).toInt := tl_slot (congrFun (h1.1 176 (fun h => by first | exact (h : False).elim | omega)) 20)
  have Pwq_M1 : li_wq (M1.1 192) ((M1.1 175 35).toInt) (121) (0) (0) := li_wq_mv (h1.1 192 (fun h => by first | exact (h : False).elim | omega)) (tl_slot (congrFun (h1.1 175 (fun h => by first | exact (h : False).elim | omega)) 35)) Pwq_M
  have Pkz_M1 : ∀ i : Nat, (M1.1 202 i).toInt = 0 := fun i => (tl_slot (congrFun (h1.1 202 (fun h => by first | exact (h : False).elim | omega)) i)).trans (Pkz_M i)
  refine l3_istore [(5, .int 1), (4, .int x4), (0, .ref b), (1, .ref (Z.2.2 0)), (2, .ref (Z.2.2 175)), (3, .ref (Z.2.2 204))] dL_law_386 (by decide) rfl ?_
  refine l3_aload_n 4 dL_law_388 rfl ?_
  refine l3_aload_n 2 dL_law_389 rfl ?_
  refine l3_iload 1 dL_law_390 rfl ?_
  refine l3_iconst 1 dL_law_392 (by decide) ?_
  refine l3_iadd dL_law_393 ?_
  refine l3_sld dL_law_394 v1 ?_
  refine l3_aload_n 2 dL_law_395 rfl ?_
  refine l3_iload 1 dL_law_396 rfl ?_
  refine l3_iconst 2 dL_law_398 (by decide) ?_
  refine l3_iadd dL_law_399 ?_
  refine l3_sld dL_law_400 v2 ?_
  refine l3_callV (n := 2) (As := [.int (xs (x4 + 1 : Int32).toNatClampNeg), .int (xs (x4 + 2 : Int32).toNatClampNeg)]) (by omega) dL_law_401 (k15_X12_thing 1000 (by omega) (xs (x4 + 1 : Int32).toNatClampNeg) (xs (x4 + 2 : Int32).toNatClampNeg) M1 hJ (by omega) ) (Nat.le_of_ble_eq_true rfl) (Nat.le_of_ble_eq_true rfl) w_1664 w_1665 w_1666 w_112 w_1667 (by decide +kernel) rfl (by decide) sh_175 rfl rfl (Nat.le_of_ble_eq_true rfl) (fun r M2 h2 => ?_)
  have jh2 := h2
  obtain ⟨⟨y2, rfl, ky2⟩, h2⟩ := h2
  have hJ := h2.2.1
  have nh2 := h2.2.2
  refine l3_istore [(6, .int y2), (5, .int 1), (4, .int x4), (0, .ref b), (1, .ref (Z.2.2 0)), (2, .ref (Z.2.2 175)), (3, .ref (Z.2.2 204))] dL_law_404 (by decide) rfl ?_
  refine l3_aload_n 5 dL_law_406 rfl ?_
  refine l3_callV (n := 0) (As := []) (by omega) dL_law_407 (k15_X12_thrown 1000 (by omega)  M2 hJ ) (Nat.le_of_ble_eq_true rfl) (Nat.le_of_ble_eq_true rfl) w_1562 w_1563 w_1564 w_112 w_1565 (by decide +kernel) rfl (by decide) sh_175 rfl rfl (Nat.le_of_ble_eq_true rfl) (fun r M3 h3 => ?_)
  have jh3 := h3
  obtain ⟨⟨y3, rfl, ky3⟩, h3⟩ := h3
  have hJ := h3.2
  refine l3_iload 1 dL_law_410 rfl ?_
  refine l3_icmp_eq 417 dL_law_412 (by decide) (fun c => ?_) (fun c => absurd (Int32.toInt_inj.mp (show (y3 : Int32).toInt = (1 : Int32).toInt by have z : (1 : Int32).toInt = 1 := rfl; first | omega | exact ky3.elim)) c)
  refine l3_iload 1 dL_law_417 rfl ?_
  refine l3_if_ne 434 dL_law_419 (by decide) (fun c => ?_) (fun c => absurd c (by decide))
  refine l3_goto 1456 dL_law_434 (by decide) ?_
  refine l3_pick [2, 3, 4, 5, 6] [(4, .int x4), (0, .ref b), (1, .ref (Z.2.2 0)), (2, .ref (Z.2.2 175)), (3, .ref (Z.2.2 204))] rfl ?_
  exact KK _ M3 hJ (by omega)
set_option maxRecDepth 100000 in
set_option maxHeartbeats 4000000 in
theorem lc_7 {l : Launch} {Z : li_Z} {b L kc : Nat} {xs : Nat → Int32} {x4 : Int32} {M : li_M} {Q : Option Value → li_M → Prop} (htr : l.stackTraces = false) (hk : kc ≤ 512) (hJ : li_J M) (v1 : vp_in (x4 + 1) L) (v2 : vp_in (x4 + 2) L) (v3 : vp_in (x4 + 3) L) (v4 : vp_in (x4 + 4) L) (hR0 : (M.1 1 1).toInt = 0) (hR1 : (M.1 3 1).toInt = 0) (hR2 : (M.1 5 0).toInt = 0) (hR3 : (M.1 5 1).toInt = 0) (hR4 : (M.1 13 0).toInt = 0) (hR5 : (M.1 13 1).toInt = 0) (hR6 : (M.1 13 2).toInt = 0) (hR7 : (M.1 21 3).toInt = 0) (hR8 : (M.1 21 4).toInt = 0) (hR9 : (M.1 163 7).toInt = 0) (hR10 : (M.1 171 5).toInt = 0) (hR11 : (M.1 175 1).toInt = 0) (hR12 : (M.1 175 4).toInt = 0) (hR13 : (M.1 175 7).toInt = 0) (hR14 : (M.1 175 9).toInt = 0) (hR15 : (M.1 175 23).toInt = 0) (hR16 : (M.1 175 38).toInt = 0) (hR17 : (M.1 175 43).toInt = 0) (hR18 : (M.1 176 18).toInt = 0) (hR19 : (M.1 176 19).toInt = 0) (hR20 : (M.1 176 20).toInt = 0) (Pwq_M : li_wq (M.1 192) ((M.1 175 35).toInt) (121) (0) (0)) (Pkz_M : ∀ i : Nat, (M.1 202 i).toInt = 0) (KK : ∀ (k : Nat) (M : li_M), li_J M → k ≤ kc + 1 → l3_T l Z b L xs k 1456 [(4, .int x4), (0, .ref b), (1, .ref (Z.2.2 0)), (2, .ref (Z.2.2 175)), (3, .ref (Z.2.2 204))] [] M Q) : l3_T l Z b L xs kc 437 [(4, .int x4), (0, .ref b), (1, .ref (Z.2.2 0)), (2, .ref (Z.2.2 175)), (3, .ref (Z.2.2 204))] [] M Q := by
  have rJ1 := J_sl1 (M := M) hJ
  have rJ4 := J_sl4 (M := M) hJ
  have rJ7 := J_sl7 (M := M) hJ
  have rJ9 := J_sl9 (M := M) hJ
  have rJ23 := J_sl23 (M := M) hJ
  have rJ38 := J_sl38 (M := M) hJ
  refine l3_aload_n 2 dL_law_437 rfl ?_
  refine l3_aload_n 1 dL_law_438 rfl ?_
  refine l3_iload 0 dL_law_439 rfl ?_
  refine l3_iconst 1 dL_law_441 (by decide) ?_
  refine l3_iadd dL_law_442 ?_
  refine l3_sld dL_law_443 v1 ?_
  refine l3_aload_n 1 dL_law_444 rfl ?_
  refine l3_iload 0 dL_law_445 rfl ?_
  refine l3_iconst 2 dL_law_447 (by decide) ?_
  refine l3_iadd dL_law_448 ?_
  refine l3_sld dL_law_449 v2 ?_
  refine l3_aload_n 4 dL_law_450 rfl ?_
  refine l3_callH (n := 4) (As := [.ref (Z.2.2 0), .int (xs (x4 + 1 : Int32).toNatClampNeg), .int (xs (x4 + 2 : Int32).toNatClampNeg), .ref (Z.2.2 204)]) (by omega) dL_law_451 (lh_loan htr (xs (x4 + 1 : Int32).toNatClampNeg) (xs (x4 + 2 : Int32).toNatClampNeg) M (by omega)) (Nat.le_of_ble_eq_true rfl) w_1380 w_1381 w_100 w_1382 (by decide +kernel) rfl rfl (Nat.le_of_ble_eq_true rfl) (fun r M1 h1 => ?_)
  obtain ⟨rfl, h1⟩ := h1
  have hJ := l3_J hJ h1 (fun i h => (h : False).elim)
  have oM1_1_1 : (M1.1 1 1).toInt = (M.1 1 1).toInt := tl_slot (congrFun (h1.1 1 (fun h => by first | exact (h : False).elim | omega)) 1)
  have oM1_3_1 : (M1.1 3 1).toInt = (M.1 3 1).toInt := tl_slot (congrFun (h1.1 3 (fun h => by first | exact (h : False).elim | omega)) 1)
  have oM1_5_0 : (M1.1 5 0).toInt = (M.1 5 0).toInt := tl_slot (congrFun (h1.1 5 (fun h => by first | exact (h : False).elim | omega)) 0)
  have oM1_5_1 : (M1.1 5 1).toInt = (M.1 5 1).toInt := tl_slot (congrFun (h1.1 5 (fun h => by first | exact (h : False).elim | omega)) 1)
  have oM1_13_0 : (M1.1 13 0).toInt = (M.1 13 0).toInt := tl_slot (congrFun (h1.1 13 (fun h => by first | exact (h : False).elim | omega)) 0)
  have oM1_13_1 : (M1.1 13 1).toInt = (M.1 13 1).toInt := tl_slot (congrFun (h1.1 13 (fun h => by first | exact (h : False).elim | omega)) 1)
  have oM1_13_2 : (M1.1 13 2).toInt = (M.1 13 2).toInt := tl_slot (congrFun (h1.1 13 (fun h => by first | exact (h : False).elim | omega)) 2)
  have oM1_21_3 : (M1.1 21 3).toInt = (M.1 21 3).toInt := tl_slot (congrFun (h1.1 21 (fun h => by first | exact (h : False).elim | omega)) 3)
  have oM1_21_4 : (M1.1 21 4).toInt = (M.1 21 4).toInt := tl_slot (congrFun (h1.1 21 (fun h => by first | exact (h : False).elim | omega)) 4)
  have oM1_163_7 : (M1.1 163 7).toInt = (M.1 163 7).toInt := tl_slot (congrFun (h1.1 163 (fun h => by first | exact (h : False).elim | omega)) 7)
  have oM1_171_5 : (M1.1 171 5).toInt = (M.1 171 5).toInt := tl_slot (congrFun (h1.1 171 (fun h => by first | exact (h : False).elim | omega)) 5)
  have oM1_175_1 : (M1.1 175 1).toInt = (M.1 175 1).toInt := tl_slot (congrFun (h1.1 175 (fun h => by first | exact (h : False).elim | omega)) 1)
  have oM1_175_4 : (M1.1 175 4).toInt = (M.1 175 4).toInt := tl_slot (congrFun (h1.1 175 (fun h => by first | exact (h : False).elim | omega)) 4)
  have oM1_175_7 : (M1.1 175 7).toInt = (M.1 175 7).toInt := tl_slot (congrFun (h1.1 175 (fun h => by first | exact (h : False).elim | omega)) 7)
  have oM1_175_9 : (M1.1 175 9).toInt = (M.1 175 9).toInt := tl_slot (congrFun (h1.1 175 (fun h => by first | exact (h : False).elim | omega)) 9)
  have oM1_175_23 : (M1.1 175 23).toInt = (M.1 175 23).toInt := tl_slot (congrFun (h1.1 175 (fun h => by first | exact (h : False).elim | omega)) 23)
  have oM1_175_38 : (M1.1 175 38).toInt = (M.1 175 38).toInt := tl_slot (congrFun (h1.1 175 (fun h => by first | exact (h : False).elim | omega)) 38)
  have oM1_175_43 : (M1.1 175 43).toInt = (M.1 175 43).toInt := tl_slot (congrFun (h1.1 175 (fun h => by first | exact (h : False).elim | omega)) 43)
  have oM1_176_18 : (M1.1 176 18).toInt = (M.1 176 18).toInt := tl_slot (congrFun (h1.1 176 (fun h => by first | exact (h : False).elim | omega)) 18)
  have oM1_176_19 : (M1.1 176 19).toInt = (M.1 176 19).toInt := tl_slot (congrFun (h1.1 176 (fun h => by first | exact (h : False).elim | omega)) 19)
  have oM1_176_20 : (M1.1 176 20).toInt = (M.1 176 20).toInt := tl_slot (congrFun (h1.1 176 (fun h => by first | exact (h : False).elim | omega)) 20)
  have Pwq_M1 : li_wq (M1.1 192) ((M1.1 175 35).toInt) (121) (0) (0) := li_wq_mv (h1.1 192 (fun h => by first | exact (h : False).elim | omega)) (tl_slot (congrFun (h1.1 175 (fun h => by first | exact (h : False).elim | omega)) 35)) Pwq_M
  have Pkz_M1 : ∀ i : Nat, (M1.1 202 i).toInt = 0 := fun i => (tl_slot (congrFun (h1.1 202 (fun h => by first | exact (h : False).elim | omega)) i)).trans (Pkz_M i)
  refine l3_istore [(5, .int 1), (4, .int x4), (0, .ref b), (1, .ref (Z.2.2 0)), (2, .ref (Z.2.2 175)), (3, .ref (Z.2.2 204))] dL_law_454 (by decide) rfl ?_
  refine l3_aload_n 4 dL_law_456 rfl ?_
  refine l3_aload_n 2 dL_law_457 rfl ?_
  refine l3_iload 1 dL_law_458 rfl ?_
  refine l3_iconst 1 dL_law_460 (by decide) ?_
  refine l3_iadd dL_law_461 ?_
  refine l3_sld dL_law_462 v1 ?_
  refine l3_aload_n 2 dL_law_463 rfl ?_
  refine l3_iload 1 dL_law_464 rfl ?_
  refine l3_iconst 2 dL_law_466 (by decide) ?_
  refine l3_iadd dL_law_467 ?_
  refine l3_sld dL_law_468 v2 ?_
  refine l3_callV (n := 2) (As := [.int (xs (x4 + 1 : Int32).toNatClampNeg), .int (xs (x4 + 2 : Int32).toNatClampNeg)]) (by omega) dL_law_469 (k15_X12_loan 1000 (by omega) (xs (x4 + 1 : Int32).toNatClampNeg) (xs (x4 + 2 : Int32).toNatClampNeg) M1 hJ (by omega) ) (Nat.le_of_ble_eq_true rfl) (Nat.le_of_ble_eq_true rfl) w_1706 w_1707 w_1708 w_112 w_1709 (by decide +kernel) rfl (by decide) sh_175 rfl rfl (Nat.le_of_ble_eq_true rfl) (fun r M2 h2 => ?_)
  have jh2 := h2
  obtain ⟨⟨y2, rfl, ky2⟩, h2⟩ := h2
  have hJ := h2.2.1
  have nh2 := h2.2.2
  refine l3_istore [(6, .int y2), (5, .int 1), (4, .int x4), (0, .ref b), (1, .ref (Z.2.2 0)), (2, .ref (Z.2.2 175)), (3, .ref (Z.2.2 204))] dL_law_472 (by decide) rfl ?_
  refine l3_aload_n 5 dL_law_474 rfl ?_
  refine l3_callV (n := 0) (As := []) (by omega) dL_law_475 (k15_X12_thrown 1000 (by omega)  M2 hJ ) (Nat.le_of_ble_eq_true rfl) (Nat.le_of_ble_eq_true rfl) w_1562 w_1563 w_1564 w_112 w_1565 (by decide +kernel) rfl (by decide) sh_175 rfl rfl (Nat.le_of_ble_eq_true rfl) (fun r M3 h3 => ?_)
  have jh3 := h3
  obtain ⟨⟨y3, rfl, ky3⟩, h3⟩ := h3
  have hJ := h3.2
  refine l3_iload 1 dL_law_478 rfl ?_
  refine l3_icmp_eq 485 dL_law_480 (by decide) (fun c => ?_) (fun c => absurd (Int32.toInt_inj.mp (show (y3 : Int32).toInt = (1 : Int32).toInt by have z : (1 : Int32).toInt = 1 := rfl; first | omega | exact ky3.elim)) c)
  refine l3_iload 1 dL_law_485 rfl ?_
  refine l3_if_ne 502 dL_law_487 (by decide) (fun c => ?_) (fun c => absurd c (by decide))
  refine l3_goto 1456 dL_law_502 (by decide) ?_
  refine l3_pick [2, 3, 4, 5, 6] [(4, .int x4), (0, .ref b), (1, .ref (Z.2.2 0)), (2, .ref (Z.2.2 175)), (3, .ref (Z.2.2 204))] rfl ?_
  exact KK _ M3 hJ (by omega)
set_option maxRecDepth 100000 in
set_option maxHeartbeats 4000000 in
theorem lc_8 {l : Launch} {Z : li_Z} {b L kc : Nat} {xs : Nat → Int32} {x4 : Int32} {M : li_M} {Q : Option Value → li_M → Prop} (htr : l.stackTraces = false) (hk : kc ≤ 512) (hJ : li_J M) (v1 : vp_in (x4 + 1) L) (v2 : vp_in (x4 + 2) L) (v3 : vp_in (x4 + 3) L) (v4 : vp_in (x4 + 4) L) (hR0 : (M.1 1 1).toInt = 0) (hR1 : (M.1 3 1).toInt = 0) (hR2 : (M.1 5 0).toInt = 0) (hR3 : (M.1 5 1).toInt = 0) (hR4 : (M.1 13 0).toInt = 0) (hR5 : (M.1 13 1).toInt = 0) (hR6 : (M.1 13 2).toInt = 0) (hR7 : (M.1 21 3).toInt = 0) (hR8 : (M.1 21 4).toInt = 0) (hR9 : (M.1 163 7).toInt = 0) (hR10 : (M.1 171 5).toInt = 0) (hR11 : (M.1 175 1).toInt = 0) (hR12 : (M.1 175 4).toInt = 0) (hR13 : (M.1 175 7).toInt = 0) (hR14 : (M.1 175 9).toInt = 0) (hR15 : (M.1 175 23).toInt = 0) (hR16 : (M.1 175 38).toInt = 0) (hR17 : (M.1 175 43).toInt = 0) (hR18 : (M.1 176 18).toInt = 0) (hR19 : (M.1 176 19).toInt = 0) (hR20 : (M.1 176 20).toInt = 0) (Pwq_M : li_wq (M.1 192) ((M.1 175 35).toInt) (121) (0) (0)) (Pkz_M : ∀ i : Nat, (M.1 202 i).toInt = 0) (KK : ∀ (k : Nat) (M : li_M), li_J M → k ≤ kc + 1 → l3_T l Z b L xs k 1456 [(4, .int x4), (0, .ref b), (1, .ref (Z.2.2 0)), (2, .ref (Z.2.2 175)), (3, .ref (Z.2.2 204))] [] M Q) : l3_T l Z b L xs kc 505 [(4, .int x4), (0, .ref b), (1, .ref (Z.2.2 0)), (2, .ref (Z.2.2 175)), (3, .ref (Z.2.2 204))] [] M Q := by
  have rJ1 := J_sl1 (M := M) hJ
  have rJ4 := J_sl4 (M := M) hJ
  have rJ7 := J_sl7 (M := M) hJ
  have rJ9 := J_sl9 (M := M) hJ
  have rJ23 := J_sl23 (M := M) hJ
  have rJ38 := J_sl38 (M := M) hJ
  refine l3_aload_n 2 dL_law_505 rfl ?_
  refine l3_aload_n 1 dL_law_506 rfl ?_
  refine l3_iload 0 dL_law_507 rfl ?_
  refine l3_iconst 1 dL_law_509 (by decide) ?_
  refine l3_iadd dL_law_510 ?_
  refine l3_sld dL_law_511 v1 ?_
  refine l3_aload_n 1 dL_law_512 rfl ?_
  refine l3_iload 0 dL_law_513 rfl ?_
  refine l3_iconst 2 dL_law_515 (by decide) ?_
  refine l3_iadd dL_law_516 ?_
  refine l3_sld dL_law_517 v2 ?_
  refine l3_callV (n := 2) (As := [.int (xs (x4 + 1 : Int32).toNatClampNeg), .int (xs (x4 + 2 : Int32).toNatClampNeg)]) (by omega) dL_law_518 (k15_X11_move 1000 (by omega) (xs (x4 + 1 : Int32).toNatClampNeg) (xs (x4 + 2 : Int32).toNatClampNeg) M (by first | omega | decide)) (Nat.le_of_ble_eq_true rfl) (Nat.le_of_ble_eq_true rfl) w_754 w_755 w_756 w_101 w_757 (by decide +kernel) rfl (by decide) sh_0 rfl rfl (Nat.le_of_ble_eq_true rfl) (fun r M1 h1 => ?_)
  obtain ⟨⟨y1, rfl, ky1⟩, h1⟩ := h1
  have hJ := l3_J hJ h1 (fun i h => by first | exact (h : False).elim | omega)
  have oM1_1_1 : (M1.1 1 1).toInt = (M.1 1 1).toInt := tl_slot (congrFun (h1.1 1 (fun h => by first | exact (h : False).elim | omega)) 1)
  have oM1_3_1 : (M1.1 3 1).toInt = (M.1 3 1).toInt := tl_slot (congrFun (h1.1 3 (fun h => by first | exact (h : False).elim | omega)) 1)
  have oM1_5_0 : (M1.1 5 0).toInt = (M.1 5 0).toInt := tl_slot (congrFun (h1.1 5 (fun h => by first | exact (h : False).elim | omega)) 0)
  have oM1_5_1 : (M1.1 5 1).toInt = (M.1 5 1).toInt := tl_slot (congrFun (h1.1 5 (fun h => by first | exact (h : False).elim | omega)) 1)
  have oM1_13_0 : (M1.1 13 0).toInt = (M.1 13 0).toInt := tl_slot (congrFun (h1.1 13 (fun h => by first | exact (h : False).elim | omega)) 0)
  have oM1_13_1 : (M1.1 13 1).toInt = (M.1 13 1).toInt := tl_slot (congrFun (h1.1 13 (fun h => by first | exact (h : False).elim | omega)) 1)
  have oM1_13_2 : (M1.1 13 2).toInt = (M.1 13 2).toInt := tl_slot (congrFun (h1.1 13 (fun h => by first | exact (h : False).elim | omega)) 2)
  have oM1_21_3 : (M1.1 21 3).toInt = (M.1 21 3).toInt := tl_slot (congrFun (h1.1 21 (fun h => by first | exact (h : False).elim | omega)) 3)
  have oM1_21_4 : (M1.1 21 4).toInt = (M.1 21 4).toInt := tl_slot (congrFun (h1.1 21 (fun h => by first | exact (h : False).elim | omega)) 4)
  have oM1_163_7 : (M1.1 163 7).toInt = (M.1 163 7).toInt := tl_slot (congrFun (h1.1 163 (fun h => by first | exact (h : False).elim | omega)) 7)
  have oM1_171_5 : (M1.1 171 5).toInt = (M.1 171 5).toInt := tl_slot (congrFun (h1.1 171 (fun h => by first | exact (h : False).elim | omega)) 5)
  have oM1_175_1 : (M1.1 175 1).toInt = (M.1 175 1).toInt := tl_slot (congrFun (h1.1 175 (fun h => by first | exact (h : False).elim | omega)) 1)
  have oM1_175_4 : (M1.1 175 4).toInt = (M.1 175 4).toInt := tl_slot (congrFun (h1.1 175 (fun h => by first | exact (h : False).elim | omega)) 4)
  have oM1_175_7 : (M1.1 175 7).toInt = (M.1 175 7).toInt := tl_slot (congrFun (h1.1 175 (fun h => by first | exact (h : False).elim | omega)) 7)
  have oM1_175_9 : (M1.1 175 9).toInt = (M.1 175 9).toInt := tl_slot (congrFun (h1.1 175 (fun h => by first | exact (h : False).elim | omega)) 9)
  have oM1_175_23 : (M1.1 175 23).toInt = (M.1 175 23).toInt := tl_slot (congrFun (h1.1 175 (fun h => by first | exact (h : False).elim | omega)) 23)
  have oM1_175_38 : (M1.1 175 38).toInt = (M.1 175 38).toInt := tl_slot (congrFun (h1.1 175 (fun h => by first | exact (h : False).elim | omega)) 38)
  have oM1_175_43 : (M1.1 175 43).toInt = (M.1 175 43).toInt := tl_slot (congrFun (h1.1 175 (fun h => by first | exact (h : False).elim | omega)) 43)
  have oM1_176_18 : (M1.1 176 18).toInt = (M.1 176 18).toInt := tl_slot (congrFun (h1.1 176 (fun h => by first | exact (h : False).elim | omega)) 18)
  have oM1_176_19 : (M1.1 176 19).toInt = (M.1 176 19).toInt := tl_slot (congrFun (h1.1 176 (fun h => by first | exact (h : False).elim | omega)) 19)
  have oM1_176_20 : (M1.1 176 20).toInt = (M.1 176 20).toInt := tl_slot (congrFun (h1.1 176 (fun h => by first | exact (h : False).elim | omega)) 20)
  have Pwq_M1 : li_wq (M1.1 192) ((M1.1 175 35).toInt) (121) (0) (0) := li_wq_mv (h1.1 192 (fun h => by first | exact (h : False).elim | omega)) (tl_slot (congrFun (h1.1 175 (fun h => by first | exact (h : False).elim | omega)) 35)) Pwq_M
  have Pkz_M1 : ∀ i : Nat, (M1.1 202 i).toInt = 0 := fun i => (tl_slot (congrFun (h1.1 202 (fun h => by first | exact (h : False).elim | omega)) i)).trans (Pkz_M i)
  refine l3_aload_n 3 dL_law_521 rfl ?_
  refine l3_aload_n 1 dL_law_522 rfl ?_
  refine l3_iload 0 dL_law_523 rfl ?_
  refine l3_iconst 1 dL_law_525 (by decide) ?_
  refine l3_iadd dL_law_526 ?_
  refine l3_sld dL_law_527 v1 ?_
  refine l3_aload_n 1 dL_law_528 rfl ?_
  refine l3_iload 0 dL_law_529 rfl ?_
  refine l3_iconst 2 dL_law_531 (by decide) ?_
  refine l3_iadd dL_law_532 ?_
  refine l3_sld dL_law_533 v2 ?_
  refine l3_callV (n := 2) (As := [.int (xs (x4 + 1 : Int32).toNatClampNeg), .int (xs (x4 + 2 : Int32).toNatClampNeg)]) (by omega) dL_law_534 (k15_X12_move 1000 (by omega) (xs (x4 + 1 : Int32).toNatClampNeg) (xs (x4 + 2 : Int32).toNatClampNeg) M1 hJ (by omega) ) (Nat.le_of_ble_eq_true rfl) (Nat.le_of_ble_eq_true rfl) w_1710 w_1711 w_1712 w_112 w_1713 (by decide +kernel) rfl (by decide) sh_175 rfl rfl (Nat.le_of_ble_eq_true rfl) (fun r M2 h2 => ?_)
  have jh2 := h2
  obtain ⟨⟨y2, rfl, ky2⟩, h2⟩ := h2
  have hJ := h2.2
  refine l3_icmp_eq 1456 dL_law_537 (by decide) (fun c => ?_) (fun c => absurd (Int32.toInt_inj.mp (show (y1 : Int32).toInt = (y2 : Int32).toInt by omega)) c)
  exact KK _ M2 hJ (by omega)
set_option maxRecDepth 100000 in
set_option maxHeartbeats 4000000 in
theorem lc_9 {l : Launch} {Z : li_Z} {b L kc : Nat} {xs : Nat → Int32} {x4 : Int32} {M : li_M} {Q : Option Value → li_M → Prop} (htr : l.stackTraces = false) (hk : kc ≤ 512) (hJ : li_J M) (v1 : vp_in (x4 + 1) L) (v2 : vp_in (x4 + 2) L) (v3 : vp_in (x4 + 3) L) (v4 : vp_in (x4 + 4) L) (hR0 : (M.1 1 1).toInt = 0) (hR1 : (M.1 3 1).toInt = 0) (hR2 : (M.1 5 0).toInt = 0) (hR3 : (M.1 5 1).toInt = 0) (hR4 : (M.1 13 0).toInt = 0) (hR5 : (M.1 13 1).toInt = 0) (hR6 : (M.1 13 2).toInt = 0) (hR7 : (M.1 21 3).toInt = 0) (hR8 : (M.1 21 4).toInt = 0) (hR9 : (M.1 163 7).toInt = 0) (hR10 : (M.1 171 5).toInt = 0) (hR11 : (M.1 175 1).toInt = 0) (hR12 : (M.1 175 4).toInt = 0) (hR13 : (M.1 175 7).toInt = 0) (hR14 : (M.1 175 9).toInt = 0) (hR15 : (M.1 175 23).toInt = 0) (hR16 : (M.1 175 38).toInt = 0) (hR17 : (M.1 175 43).toInt = 0) (hR18 : (M.1 176 18).toInt = 0) (hR19 : (M.1 176 19).toInt = 0) (hR20 : (M.1 176 20).toInt = 0) (Pwq_M : li_wq (M.1 192) ((M.1 175 35).toInt) (121) (0) (0)) (Pkz_M : ∀ i : Nat, (M.1 202 i).toInt = 0) (KK : ∀ (k : Nat) (M : li_M), li_J M → k ≤ kc + 1 → l3_T l Z b L xs k 1456 [(4, .int x4), (0, .ref b), (1, .ref (Z.2.2 0)), (2, .ref (Z.2.2 175)), (3, .ref (Z.2.2 204))] [] M Q) : l3_T l Z b L xs kc 542 [(4, .int x4), (0, .ref b), (1, .ref (Z.2.2 0)), (2, .ref (Z.2.2 175)), (3, .ref (Z.2.2 204))] [] M Q := by
  have rJ1 := J_sl1 (M := M) hJ
  have rJ4 := J_sl4 (M := M) hJ
  have rJ7 := J_sl7 (M := M) hJ
  have rJ9 := J_sl9 (M := M) hJ
  have rJ23 := J_sl23 (M := M) hJ
  have rJ38 := J_sl38 (M := M) hJ
  refine l3_aload_n 2 dL_law_542 rfl ?_
  refine l3_aload_n 1 dL_law_543 rfl ?_
  refine l3_iload 0 dL_law_544 rfl ?_
  refine l3_iconst 1 dL_law_546 (by decide) ?_
  refine l3_iadd dL_law_547 ?_
  refine l3_sld dL_law_548 v1 ?_
  refine l3_aload_n 1 dL_law_549 rfl ?_
  refine l3_iload 0 dL_law_550 rfl ?_
  refine l3_iconst 2 dL_law_552 (by decide) ?_
  refine l3_iadd dL_law_553 ?_
  refine l3_sld dL_law_554 v2 ?_
  refine l3_aload_n 1 dL_law_555 rfl ?_
  refine l3_iload 0 dL_law_556 rfl ?_
  refine l3_iconst 3 dL_law_558 (by decide) ?_
  refine l3_iadd dL_law_559 ?_
  refine l3_sld dL_law_560 v3 ?_
  refine l3_aload_n 1 dL_law_561 rfl ?_
  refine l3_iload 0 dL_law_562 rfl ?_
  refine l3_iconst 4 dL_law_564 (by decide) ?_
  refine l3_iadd dL_law_565 ?_
  refine l3_sld dL_law_566 v4 ?_
  refine l3_callV (n := 4) (As := [.int (xs (x4 + 1 : Int32).toNatClampNeg), .int (xs (x4 + 2 : Int32).toNatClampNeg), .int (xs (x4 + 3 : Int32).toNatClampNeg), .int (xs (x4 + 4 : Int32).toNatClampNeg)]) (by omega) dL_law_567 (k9_X11_sheet 1000 (by omega) (xs (x4 + 1 : Int32).toNatClampNeg) (xs (x4 + 2 : Int32).toNatClampNeg) (xs (x4 + 3 : Int32).toNatClampNeg) (xs (x4 + 4 : Int32).toNatClampNeg) M (by omega) (if ((xs (x4 + 1 : Int32).toNatClampNeg) : Int32).toInt = 3 then 0 else ((xs (x4 + 2 : Int32).toNatClampNeg) : Int32).toInt) ⟨fun h => if_pos h, fun h => if_neg h⟩) (Nat.le_of_ble_eq_true rfl) (Nat.le_of_ble_eq_true rfl) w_764 w_765 w_766 w_101 w_767 (by decide +kernel) rfl (by decide) sh_0 rfl rfl (Nat.le_of_ble_eq_true rfl) (fun r M1 h1 => ?_)
  obtain ⟨⟨y1, rfl, ky1⟩, h1⟩ := h1
  have hJ := l3_J hJ h1 (fun i h => by first | exact (h : False).elim | omega)
  have oM1_1_1 : (M1.1 1 1).toInt = (M.1 1 1).toInt := tl_slot (congrFun (h1.1 1 (fun h => by first | exact (h : False).elim | omega)) 1)
  have oM1_3_1 : (M1.1 3 1).toInt = (M.1 3 1).toInt := tl_slot (congrFun (h1.1 3 (fun h => by first | exact (h : False).elim | omega)) 1)
  have oM1_5_0 : (M1.1 5 0).toInt = (M.1 5 0).toInt := tl_slot (congrFun (h1.1 5 (fun h => by first | exact (h : False).elim | omega)) 0)
  have oM1_5_1 : (M1.1 5 1).toInt = (M.1 5 1).toInt := tl_slot (congrFun (h1.1 5 (fun h => by first | exact (h : False).elim | omega)) 1)
  have oM1_13_0 : (M1.1 13 0).toInt = (M.1 13 0).toInt := tl_slot (congrFun (h1.1 13 (fun h => by first | exact (h : False).elim | omega)) 0)
  have oM1_13_1 : (M1.1 13 1).toInt = (M.1 13 1).toInt := tl_slot (congrFun (h1.1 13 (fun h => by first | exact (h : False).elim | omega)) 1)
  have oM1_13_2 : (M1.1 13 2).toInt = (M.1 13 2).toInt := tl_slot (congrFun (h1.1 13 (fun h => by first | exact (h : False).elim | omega)) 2)
  have oM1_21_3 : (M1.1 21 3).toInt = (M.1 21 3).toInt := tl_slot (congrFun (h1.1 21 (fun h => by first | exact (h : False).elim | omega)) 3)
  have oM1_21_4 : (M1.1 21 4).toInt = (M.1 21 4).toInt := tl_slot (congrFun (h1.1 21 (fun h => by first | exact (h : False).elim | omega)) 4)
  have oM1_163_7 : (M1.1 163 7).toInt = (M.1 163 7).toInt := tl_slot (congrFun (h1.1 163 (fun h => by first | exact (h : False).elim | omega)) 7)
  have oM1_171_5 : (M1.1 171 5).toInt = (M.1 171 5).toInt := tl_slot (congrFun (h1.1 171 (fun h => by first | exact (h : False).elim | omega)) 5)
  have oM1_175_1 : (M1.1 175 1).toInt = (M.1 175 1).toInt := tl_slot (congrFun (h1.1 175 (fun h => by first | exact (h : False).elim | omega)) 1)
  have oM1_175_4 : (M1.1 175 4).toInt = (M.1 175 4).toInt := tl_slot (congrFun (h1.1 175 (fun h => by first | exact (h : False).elim | omega)) 4)
  have oM1_175_7 : (M1.1 175 7).toInt = (M.1 175 7).toInt := tl_slot (congrFun (h1.1 175 (fun h => by first | exact (h : False).elim | omega)) 7)
  have oM1_175_9 : (M1.1 175 9).toInt = (M.1 175 9).toInt := tl_slot (congrFun (h1.1 175 (fun h => by first | exact (h : False).elim | omega)) 9)
  have oM1_175_23 : (M1.1 175 23).toInt = (M.1 175 23).toInt := tl_slot (congrFun (h1.1 175 (fun h => by first | exact (h : False).elim | omega)) 23)
  have oM1_175_38 : (M1.1 175 38).toInt = (M.1 175 38).toInt := tl_slot (congrFun (h1.1 175 (fun h => by first | exact (h : False).elim | omega)) 38)
  have oM1_175_43 : (M1.1 175 43).toInt = (M.1 175 43).toInt := tl_slot (congrFun (h1.1 175 (fun h => by first | exact (h : False).elim | omega)) 43)
  have oM1_176_18 : (M1.1 176 18).toInt = (M.1 176 18).toInt := tl_slot (congrFun (h1.1 176 (fun h => by first | exact (h : False).elim | omega)) 18)
  have oM1_176_19 : (M1.1 176 19).toInt = (M.1 176 19).toInt := tl_slot (congrFun (h1.1 176 (fun h => by first | exact (h : False).elim | omega)) 19)
  have oM1_176_20 : (M1.1 176 20).toInt = (M.1 176 20).toInt := tl_slot (congrFun (h1.1 176 (fun h => by first | exact (h : False).elim | omega)) 20)
  have Pwq_M1 : li_wq (M1.1 192) ((M1.1 175 35).toInt) (121) (0) (0) := li_wq_mv (h1.1 192 (fun h => by first | exact (h : False).elim | omega)) (tl_slot (congrFun (h1.1 175 (fun h => by first | exact (h : False).elim | omega)) 35)) Pwq_M
  have Pkz_M1 : ∀ i : Nat, (M1.1 202 i).toInt = 0 := fun i => (tl_slot (congrFun (h1.1 202 (fun h => by first | exact (h : False).elim | omega)) i)).trans (Pkz_M i)
  refine l3_aload_n 3 dL_law_570 rfl ?_
  refine l3_aload_n 1 dL_law_571 rfl ?_
  refine l3_iload 0 dL_law_572 rfl ?_
  refine l3_iconst 1 dL_law_574 (by decide) ?_
  refine l3_iadd dL_law_575 ?_
  refine l3_sld dL_law_576 v1 ?_
  refine l3_aload_n 1 dL_law_577 rfl ?_
  refine l3_iload 0 dL_law_578 rfl ?_
  refine l3_iconst 2 dL_law_580 (by decide) ?_
  refine l3_iadd dL_law_581 ?_
  refine l3_sld dL_law_582 v2 ?_
  refine l3_aload_n 1 dL_law_583 rfl ?_
  refine l3_iload 0 dL_law_584 rfl ?_
  refine l3_iconst 3 dL_law_586 (by decide) ?_
  refine l3_iadd dL_law_587 ?_
  refine l3_sld dL_law_588 v3 ?_
  refine l3_aload_n 1 dL_law_589 rfl ?_
  refine l3_iload 0 dL_law_590 rfl ?_
  refine l3_iconst 4 dL_law_592 (by decide) ?_
  refine l3_iadd dL_law_593 ?_
  refine l3_sld dL_law_594 v4 ?_
  refine l3_callV (n := 4) (As := [.int (xs (x4 + 1 : Int32).toNatClampNeg), .int (xs (x4 + 2 : Int32).toNatClampNeg), .int (xs (x4 + 3 : Int32).toNatClampNeg), .int (xs (x4 + 4 : Int32).toNatClampNeg)]) (by omega) dL_law_595 (k9_X12_sheet 1000 (by omega) (xs (x4 + 1 : Int32).toNatClampNeg) (xs (x4 + 2 : Int32).toNatClampNeg) (xs (x4 + 3 : Int32).toNatClampNeg) (xs (x4 + 4 : Int32).toNatClampNeg) M1 hJ (if ((xs (x4 + 1 : Int32).toNatClampNeg) : Int32).toInt = 3 then 0 else ((xs (x4 + 2 : Int32).toNatClampNeg) : Int32).toInt) ⟨fun h => if_pos h, fun h => if_neg h⟩) (Nat.le_of_ble_eq_true rfl) (Nat.le_of_ble_eq_true rfl) w_1714 w_1715 w_1716 w_112 w_1717 (by decide +kernel) rfl (by decide) sh_175 rfl rfl (Nat.le_of_ble_eq_true rfl) (fun r M2 h2 => ?_)
  have jh2 := h2
  obtain ⟨⟨y2, rfl, ky2⟩, h2⟩ := h2
  have hJ := h2.2
  rw [show (M1.1 175 1).toInt = (M.1 5 0).toInt by omega] at ky2
  refine l3_icmp_eq 1456 dL_law_598 (by decide) (fun c => ?_) (fun c => absurd (Int32.toInt_inj.mp (show (y1 : Int32).toInt = (y2 : Int32).toInt by omega)) c)
  exact KK _ M2 hJ (by omega)
set_option maxRecDepth 100000 in
set_option maxHeartbeats 4000000 in
theorem lc_10 {l : Launch} {Z : li_Z} {b L kc : Nat} {xs : Nat → Int32} {x4 : Int32} {M : li_M} {Q : Option Value → li_M → Prop} (htr : l.stackTraces = false) (hk : kc ≤ 512) (hJ : li_J M) (v1 : vp_in (x4 + 1) L) (v2 : vp_in (x4 + 2) L) (v3 : vp_in (x4 + 3) L) (v4 : vp_in (x4 + 4) L) (hR0 : (M.1 1 1).toInt = 0) (hR1 : (M.1 3 1).toInt = 0) (hR2 : (M.1 5 0).toInt = 0) (hR3 : (M.1 5 1).toInt = 0) (hR4 : (M.1 13 0).toInt = 0) (hR5 : (M.1 13 1).toInt = 0) (hR6 : (M.1 13 2).toInt = 0) (hR7 : (M.1 21 3).toInt = 0) (hR8 : (M.1 21 4).toInt = 0) (hR9 : (M.1 163 7).toInt = 0) (hR10 : (M.1 171 5).toInt = 0) (hR11 : (M.1 175 1).toInt = 0) (hR12 : (M.1 175 4).toInt = 0) (hR13 : (M.1 175 7).toInt = 0) (hR14 : (M.1 175 9).toInt = 0) (hR15 : (M.1 175 23).toInt = 0) (hR16 : (M.1 175 38).toInt = 0) (hR17 : (M.1 175 43).toInt = 0) (hR18 : (M.1 176 18).toInt = 0) (hR19 : (M.1 176 19).toInt = 0) (hR20 : (M.1 176 20).toInt = 0) (Pwq_M : li_wq (M.1 192) ((M.1 175 35).toInt) (121) (0) (0)) (Pkz_M : ∀ i : Nat, (M.1 202 i).toInt = 0) (KK : ∀ (k : Nat) (M : li_M), li_J M → k ≤ kc + 1 → l3_T l Z b L xs k 1456 [(4, .int x4), (0, .ref b), (1, .ref (Z.2.2 0)), (2, .ref (Z.2.2 175)), (3, .ref (Z.2.2 204))] [] M Q) : l3_T l Z b L xs kc 603 [(4, .int x4), (0, .ref b), (1, .ref (Z.2.2 0)), (2, .ref (Z.2.2 175)), (3, .ref (Z.2.2 204))] [] M Q := by
  have rJ1 := J_sl1 (M := M) hJ
  have rJ4 := J_sl4 (M := M) hJ
  have rJ7 := J_sl7 (M := M) hJ
  have rJ9 := J_sl9 (M := M) hJ
  have rJ23 := J_sl23 (M := M) hJ
  have rJ38 := J_sl38 (M := M) hJ
  refine l3_aload_n 2 dL_law_603 rfl ?_
  refine l3_aload_n 1 dL_law_604 rfl ?_
  refine l3_iload 0 dL_law_605 rfl ?_
  refine l3_iconst 1 dL_law_607 (by decide) ?_
  refine l3_iadd dL_law_608 ?_
  refine l3_sld dL_law_609 v1 ?_
  refine l3_aload_n 1 dL_law_610 rfl ?_
  refine l3_iload 0 dL_law_611 rfl ?_
  refine l3_iconst 2 dL_law_613 (by decide) ?_
  refine l3_iadd dL_law_614 ?_
  refine l3_sld dL_law_615 v2 ?_
  refine l3_callV (n := 2) (As := [.int (xs (x4 + 1 : Int32).toNatClampNeg), .int (xs (x4 + 2 : Int32).toNatClampNeg)]) (by omega) dL_law_616 (k15_X11_cost 1000 (by omega) (xs (x4 + 1 : Int32).toNatClampNeg) (xs (x4 + 2 : Int32).toNatClampNeg) M (by first | omega | decide)) (Nat.le_of_ble_eq_true rfl) (Nat.le_of_ble_eq_true rfl) w_780 w_781 w_782 w_101 w_783 (by decide +kernel) rfl (by decide) sh_0 rfl rfl (Nat.le_of_ble_eq_true rfl) (fun r M1 h1 => ?_)
  obtain ⟨⟨y1, rfl, ky1⟩, h1⟩ := h1
  have hJ := l3_J hJ h1 (fun i h => by first | exact (h : False).elim | omega)
  have oM1_1_1 : (M1.1 1 1).toInt = (M.1 1 1).toInt := tl_slot (congrFun (h1.1 1 (fun h => by first | exact (h : False).elim | omega)) 1)
  have oM1_3_1 : (M1.1 3 1).toInt = (M.1 3 1).toInt := tl_slot (congrFun (h1.1 3 (fun h => by first | exact (h : False).elim | omega)) 1)
  have oM1_5_0 : (M1.1 5 0).toInt = (M.1 5 0).toInt := tl_slot (congrFun (h1.1 5 (fun h => by first | exact (h : False).elim | omega)) 0)
  have oM1_5_1 : (M1.1 5 1).toInt = (M.1 5 1).toInt := tl_slot (congrFun (h1.1 5 (fun h => by first | exact (h : False).elim | omega)) 1)
  have oM1_13_0 : (M1.1 13 0).toInt = (M.1 13 0).toInt := tl_slot (congrFun (h1.1 13 (fun h => by first | exact (h : False).elim | omega)) 0)
  have oM1_13_1 : (M1.1 13 1).toInt = (M.1 13 1).toInt := tl_slot (congrFun (h1.1 13 (fun h => by first | exact (h : False).elim | omega)) 1)
  have oM1_13_2 : (M1.1 13 2).toInt = (M.1 13 2).toInt := tl_slot (congrFun (h1.1 13 (fun h => by first | exact (h : False).elim | omega)) 2)
  have oM1_21_3 : (M1.1 21 3).toInt = (M.1 21 3).toInt := tl_slot (congrFun (h1.1 21 (fun h => by first | exact (h : False).elim | omega)) 3)
  have oM1_21_4 : (M1.1 21 4).toInt = (M.1 21 4).toInt := tl_slot (congrFun (h1.1 21 (fun h => by first | exact (h : False).elim | omega)) 4)
  have oM1_163_7 : (M1.1 163 7).toInt = (M.1 163 7).toInt := tl_slot (congrFun (h1.1 163 (fun h => by first | exact (h : False).elim | omega)) 7)
  have oM1_171_5 : (M1.1 171 5).toInt = (M.1 171 5).toInt := tl_slot (congrFun (h1.1 171 (fun h => by first | exact (h : False).elim | omega)) 5)
  have oM1_175_1 : (M1.1 175 1).toInt = (M.1 175 1).toInt := tl_slot (congrFun (h1.1 175 (fun h => by first | exact (h : False).elim | omega)) 1)
  have oM1_175_4 : (M1.1 175 4).toInt = (M.1 175 4).toInt := tl_slot (congrFun (h1.1 175 (fun h => by first | exact (h : False).elim | omega)) 4)
  have oM1_175_7 : (M1.1 175 7).toInt = (M.1 175 7).toInt := tl_slot (congrFun (h1.1 175 (fun h => by first | exact (h : False).elim | omega)) 7)
  have oM1_175_9 : (M1.1 175 9).toInt = (M.1 175 9).toInt := tl_slot (congrFun (h1.1 175 (fun h => by first | exact (h : False).elim | omega)) 9)
  have oM1_175_23 : (M1.1 175 23).toInt = (M.1 175 23).toInt := tl_slot (congrFun (h1.1 175 (fun h => by first | exact (h : False).elim | omega)) 23)
  have oM1_175_38 : (M1.1 175 38).toInt = (M.1 175 38).toInt := tl_slot (congrFun (h1.1 175 (fun h => by first | exact (h : False).elim | omega)) 38)
  have oM1_175_43 : (M1.1 175 43).toInt = (M.1 175 43).toInt := tl_slot (congrFun (h1.1 175 (fun h => by first | exact (h : False).elim | omega)) 43)
  have oM1_176_18 : (M1.1 176 18).toInt = (M.1 176 18).toInt := tl_slot (congrFun (h1.1 176 (fun h => by first | exact (h : False).elim | omega)) 18)
  have oM1_176_19 : (M1.1 176 19).toInt = (M.1 176 19).toInt := tl_slot (congrFun (h1.1 176 (fun h => by first | exact (h : False).elim | omega)) 19)
  have oM1_176_20 : (M1.1 176 20).toInt = (M.1 176 20).toInt := tl_slot (congrFun (h1.1 176 (fun h => by first | exact (h : False).elim | omega)) 20)
  have Pwq_M1 : li_wq (M1.1 192) ((M1.1 175 35).toInt) (121) (0) (0) := li_wq_mv (h1.1 192 (fun h => by first | exact (h : False).elim | omega)) (tl_slot (congrFun (h1.1 175 (fun h => by first | exact (h : False).elim | omega)) 35)) Pwq_M
  have Pkz_M1 : ∀ i : Nat, (M1.1 202 i).toInt = 0 := fun i => (tl_slot (congrFun (h1.1 202 (fun h => by first | exact (h : False).elim | omega)) i)).trans (Pkz_M i)
  refine l3_aload_n 3 dL_law_619 rfl ?_
  refine l3_aload_n 1 dL_law_620 rfl ?_
  refine l3_iload 0 dL_law_621 rfl ?_
  refine l3_iconst 1 dL_law_623 (by decide) ?_
  refine l3_iadd dL_law_624 ?_
  refine l3_sld dL_law_625 v1 ?_
  refine l3_aload_n 1 dL_law_626 rfl ?_
  refine l3_iload 0 dL_law_627 rfl ?_
  refine l3_iconst 2 dL_law_629 (by decide) ?_
  refine l3_iadd dL_law_630 ?_
  refine l3_sld dL_law_631 v2 ?_
  refine l3_callV (n := 2) (As := [.int (xs (x4 + 1 : Int32).toNatClampNeg), .int (xs (x4 + 2 : Int32).toNatClampNeg)]) (by omega) dL_law_632 (k15_X12_cost 1000 (by omega) (xs (x4 + 1 : Int32).toNatClampNeg) (xs (x4 + 2 : Int32).toNatClampNeg) M1 hJ (by omega) ) (Nat.le_of_ble_eq_true rfl) (Nat.le_of_ble_eq_true rfl) w_1718 w_1719 w_1720 w_112 w_1721 (by decide +kernel) rfl (by decide) sh_175 rfl rfl (Nat.le_of_ble_eq_true rfl) (fun r M2 h2 => ?_)
  have jh2 := h2
  obtain ⟨⟨y2, rfl, ky2⟩, h2⟩ := h2
  have hJ := h2.2
  refine l3_icmp_eq 1456 dL_law_635 (by decide) (fun c => ?_) (fun c => absurd (Int32.toInt_inj.mp (show (y1 : Int32).toInt = (y2 : Int32).toInt by omega)) c)
  exact KK _ M2 hJ (by omega)
set_option maxRecDepth 100000 in
set_option maxHeartbeats 4000000 in
theorem lc_11 {l : Launch} {Z : li_Z} {b L kc : Nat} {xs : Nat → Int32} {x4 : Int32} {M : li_M} {Q : Option Value → li_M → Prop} (htr : l.stackTraces = false) (hk : kc ≤ 512) (hJ : li_J M) (v1 : vp_in (x4 + 1) L) (v2 : vp_in (x4 + 2) L) (v3 : vp_in (x4 + 3) L) (v4 : vp_in (x4 + 4) L) (hR0 : (M.1 1 1).toInt = 0) (hR1 : (M.1 3 1).toInt = 0) (hR2 : (M.1 5 0).toInt = 0) (hR3 : (M.1 5 1).toInt = 0) (hR4 : (M.1 13 0).toInt = 0) (hR5 : (M.1 13 1).toInt = 0) (hR6 : (M.1 13 2).toInt = 0) (hR7 : (M.1 21 3).toInt = 0) (hR8 : (M.1 21 4).toInt = 0) (hR9 : (M.1 163 7).toInt = 0) (hR10 : (M.1 171 5).toInt = 0) (hR11 : (M.1 175 1).toInt = 0) (hR12 : (M.1 175 4).toInt = 0) (hR13 : (M.1 175 7).toInt = 0) (hR14 : (M.1 175 9).toInt = 0) (hR15 : (M.1 175 23).toInt = 0) (hR16 : (M.1 175 38).toInt = 0) (hR17 : (M.1 175 43).toInt = 0) (hR18 : (M.1 176 18).toInt = 0) (hR19 : (M.1 176 19).toInt = 0) (hR20 : (M.1 176 20).toInt = 0) (Pwq_M : li_wq (M.1 192) ((M.1 175 35).toInt) (121) (0) (0)) (Pkz_M : ∀ i : Nat, (M.1 202 i).toInt = 0) (KK : ∀ (k : Nat) (M : li_M), li_J M → k ≤ kc + 1 → l3_T l Z b L xs k 1456 [(4, .int x4), (0, .ref b), (1, .ref (Z.2.2 0)), (2, .ref (Z.2.2 175)), (3, .ref (Z.2.2 204))] [] M Q) : l3_T l Z b L xs kc 640 [(4, .int x4), (0, .ref b), (1, .ref (Z.2.2 0)), (2, .ref (Z.2.2 175)), (3, .ref (Z.2.2 204))] [] M Q := by
  have rJ1 := J_sl1 (M := M) hJ
  have rJ4 := J_sl4 (M := M) hJ
  have rJ7 := J_sl7 (M := M) hJ
  have rJ9 := J_sl9 (M := M) hJ
  have rJ23 := J_sl23 (M := M) hJ
  have rJ38 := J_sl38 (M := M) hJ
  refine l3_aload_n 2 dL_law_640 rfl ?_
  refine l3_aload_n 1 dL_law_641 rfl ?_
  refine l3_iload 0 dL_law_642 rfl ?_
  refine l3_iconst 1 dL_law_644 (by decide) ?_
  refine l3_iadd dL_law_645 ?_
  refine l3_sld dL_law_646 v1 ?_
  refine l3_aload_n 1 dL_law_647 rfl ?_
  refine l3_iload 0 dL_law_648 rfl ?_
  refine l3_iconst 2 dL_law_650 (by decide) ?_
  refine l3_iadd dL_law_651 ?_
  refine l3_sld dL_law_652 v2 ?_
  refine l3_callV (n := 2) (As := [.int (xs (x4 + 1 : Int32).toNatClampNeg), .int (xs (x4 + 2 : Int32).toNatClampNeg)]) (by omega) dL_law_653 (k15_X11_say 1000 (by omega) (xs (x4 + 1 : Int32).toNatClampNeg) (xs (x4 + 2 : Int32).toNatClampNeg) M (by first | omega | decide)) (Nat.le_of_ble_eq_true rfl) (Nat.le_of_ble_eq_true rfl) w_839 w_840 w_841 w_101 w_842 (by decide +kernel) rfl (by decide) sh_0 rfl rfl (Nat.le_of_ble_eq_true rfl) (fun r M1 h1 => ?_)
  obtain ⟨⟨y1, rfl, ky1⟩, h1⟩ := h1
  have hJ := l3_J hJ h1 (fun i h => by first | exact (h : False).elim | omega)
  have oM1_1_1 : (M1.1 1 1).toInt = (M.1 1 1).toInt := tl_slot (congrFun (h1.1 1 (fun h => by first | exact (h : False).elim | omega)) 1)
  have oM1_3_1 : (M1.1 3 1).toInt = (M.1 3 1).toInt := tl_slot (congrFun (h1.1 3 (fun h => by first | exact (h : False).elim | omega)) 1)
  have oM1_5_0 : (M1.1 5 0).toInt = (M.1 5 0).toInt := tl_slot (congrFun (h1.1 5 (fun h => by first | exact (h : False).elim | omega)) 0)
  have oM1_5_1 : (M1.1 5 1).toInt = (M.1 5 1).toInt := tl_slot (congrFun (h1.1 5 (fun h => by first | exact (h : False).elim | omega)) 1)
  have oM1_13_0 : (M1.1 13 0).toInt = (M.1 13 0).toInt := tl_slot (congrFun (h1.1 13 (fun h => by first | exact (h : False).elim | omega)) 0)
  have oM1_13_1 : (M1.1 13 1).toInt = (M.1 13 1).toInt := tl_slot (congrFun (h1.1 13 (fun h => by first | exact (h : False).elim | omega)) 1)
  have oM1_13_2 : (M1.1 13 2).toInt = (M.1 13 2).toInt := tl_slot (congrFun (h1.1 13 (fun h => by first | exact (h : False).elim | omega)) 2)
  have oM1_163_7 : (M1.1 163 7).toInt = (M.1 163 7).toInt := tl_slot (congrFun (h1.1 163 (fun h => by first | exact (h : False).elim | omega)) 7)
  have oM1_171_5 : (M1.1 171 5).toInt = (M.1 171 5).toInt := tl_slot (congrFun (h1.1 171 (fun h => by first | exact (h : False).elim | omega)) 5)
  have oM1_175_1 : (M1.1 175 1).toInt = (M.1 175 1).toInt := tl_slot (congrFun (h1.1 175 (fun h => by first | exact (h : False).elim | omega)) 1)
  have oM1_175_4 : (M1.1 175 4).toInt = (M.1 175 4).toInt := tl_slot (congrFun (h1.1 175 (fun h => by first | exact (h : False).elim | omega)) 4)
  have oM1_175_7 : (M1.1 175 7).toInt = (M.1 175 7).toInt := tl_slot (congrFun (h1.1 175 (fun h => by first | exact (h : False).elim | omega)) 7)
  have oM1_175_9 : (M1.1 175 9).toInt = (M.1 175 9).toInt := tl_slot (congrFun (h1.1 175 (fun h => by first | exact (h : False).elim | omega)) 9)
  have oM1_175_23 : (M1.1 175 23).toInt = (M.1 175 23).toInt := tl_slot (congrFun (h1.1 175 (fun h => by first | exact (h : False).elim | omega)) 23)
  have oM1_175_38 : (M1.1 175 38).toInt = (M.1 175 38).toInt := tl_slot (congrFun (h1.1 175 (fun h => by first | exact (h : False).elim | omega)) 38)
  have oM1_175_43 : (M1.1 175 43).toInt = (M.1 175 43).toInt := tl_slot (congrFun (h1.1 175 (fun h => by first | exact (h : False).elim | omega)) 43)
  have oM1_176_18 : (M1.1 176 18).toInt = (M.1 176 18).toInt := tl_slot (congrFun (h1.1 176 (fun h => by first | exact (h : False).elim | omega)) 18)
  have oM1_176_19 : (M1.1 176 19).toInt = (M.1 176 19).toInt := tl_slot (congrFun (h1.1 176 (fun h => by first | exact (h : False).elim | omega)) 19)
  have oM1_176_20 : (M1.1 176 20).toInt = (M.1 176 20).toInt := tl_slot (congrFun (h1.1 176 (fun h => by first | exact (h : False).elim | omega)) 20)
  have Pwq_M1 : li_wq (M1.1 192) ((M1.1 175 35).toInt) (121) (0) (0) := li_wq_mv (h1.1 192 (fun h => by first | exact (h : False).elim | omega)) (tl_slot (congrFun (h1.1 175 (fun h => by first | exact (h : False).elim | omega)) 35)) Pwq_M
  have Pkz_M1 : ∀ i : Nat, (M1.1 202 i).toInt = 0 := fun i => (tl_slot (congrFun (h1.1 202 (fun h => by first | exact (h : False).elim | omega)) i)).trans (Pkz_M i)
  refine l3_aload_n 3 dL_law_656 rfl ?_
  refine l3_aload_n 1 dL_law_657 rfl ?_
  refine l3_iload 0 dL_law_658 rfl ?_
  refine l3_iconst 1 dL_law_660 (by decide) ?_
  refine l3_iadd dL_law_661 ?_
  refine l3_sld dL_law_662 v1 ?_
  refine l3_aload_n 1 dL_law_663 rfl ?_
  refine l3_iload 0 dL_law_664 rfl ?_
  refine l3_iconst 2 dL_law_666 (by decide) ?_
  refine l3_iadd dL_law_667 ?_
  refine l3_sld dL_law_668 v2 ?_
  refine l3_callV (n := 2) (As := [.int (xs (x4 + 1 : Int32).toNatClampNeg), .int (xs (x4 + 2 : Int32).toNatClampNeg)]) (by omega) dL_law_669 (k15_X12_say 1000 (by omega) (xs (x4 + 1 : Int32).toNatClampNeg) (xs (x4 + 2 : Int32).toNatClampNeg) M1 hJ (by omega) ) (Nat.le_of_ble_eq_true rfl) (Nat.le_of_ble_eq_true rfl) w_1730 w_1731 w_1732 w_112 w_1733 (by decide +kernel) rfl (by decide) sh_175 rfl rfl (Nat.le_of_ble_eq_true rfl) (fun r M2 h2 => ?_)
  have jh2 := h2
  obtain ⟨⟨y2, rfl, ky2⟩, h2⟩ := h2
  have hJ := h2.2
  refine l3_icmp_eq 1456 dL_law_672 (by decide) (fun c => ?_) (fun c => absurd (Int32.toInt_inj.mp (show (y1 : Int32).toInt = (y2 : Int32).toInt by omega)) c)
  exact KK _ M2 hJ (by omega)
set_option maxRecDepth 100000 in
set_option maxHeartbeats 4000000 in
theorem lc_12 {l : Launch} {Z : li_Z} {b L kc : Nat} {xs : Nat → Int32} {x4 : Int32} {M : li_M} {Q : Option Value → li_M → Prop} (htr : l.stackTraces = false) (hk : kc ≤ 512) (hJ : li_J M) (v1 : vp_in (x4 + 1) L) (v2 : vp_in (x4 + 2) L) (v3 : vp_in (x4 + 3) L) (v4 : vp_in (x4 + 4) L) (hR0 : (M.1 1 1).toInt = 0) (hR1 : (M.1 3 1).toInt = 0) (hR2 : (M.1 5 0).toInt = 0) (hR3 : (M.1 5 1).toInt = 0) (hR4 : (M.1 13 0).toInt = 0) (hR5 : (M.1 13 1).toInt = 0) (hR6 : (M.1 13 2).toInt = 0) (hR7 : (M.1 21 3).toInt = 0) (hR8 : (M.1 21 4).toInt = 0) (hR9 : (M.1 163 7).toInt = 0) (hR10 : (M.1 171 5).toInt = 0) (hR11 : (M.1 175 1).toInt = 0) (hR12 : (M.1 175 4).toInt = 0) (hR13 : (M.1 175 7).toInt = 0) (hR14 : (M.1 175 9).toInt = 0) (hR15 : (M.1 175 23).toInt = 0) (hR16 : (M.1 175 38).toInt = 0) (hR17 : (M.1 175 43).toInt = 0) (hR18 : (M.1 176 18).toInt = 0) (hR19 : (M.1 176 19).toInt = 0) (hR20 : (M.1 176 20).toInt = 0) (Pwq_M : li_wq (M.1 192) ((M.1 175 35).toInt) (121) (0) (0)) (Pkz_M : ∀ i : Nat, (M.1 202 i).toInt = 0) (KK : ∀ (k : Nat) (M : li_M), li_J M → k ≤ kc + 1 → l3_T l Z b L xs k 1456 [(4, .int x4), (0, .ref b), (1, .ref (Z.2.2 0)), (2, .ref (Z.2.2 175)), (3, .ref (Z.2.2 204))] [] M Q) : l3_T l Z b L xs kc 677 [(4, .int x4), (0, .ref b), (1, .ref (Z.2.2 0)), (2, .ref (Z.2.2 175)), (3, .ref (Z.2.2 204))] [] M Q := by
  have rJ1 := J_sl1 (M := M) hJ
  have rJ4 := J_sl4 (M := M) hJ
  have rJ7 := J_sl7 (M := M) hJ
  have rJ9 := J_sl9 (M := M) hJ
  have rJ23 := J_sl23 (M := M) hJ
  have rJ38 := J_sl38 (M := M) hJ
  refine l3_aload_n 2 dL_law_677 rfl ?_
  refine l3_aload_n 1 dL_law_678 rfl ?_
  refine l3_iload 0 dL_law_679 rfl ?_
  refine l3_iconst 1 dL_law_681 (by decide) ?_
  refine l3_iadd dL_law_682 ?_
  refine l3_sld dL_law_683 v1 ?_
  refine l3_aload_n 1 dL_law_684 rfl ?_
  refine l3_iload 0 dL_law_685 rfl ?_
  refine l3_iconst 2 dL_law_687 (by decide) ?_
  refine l3_iadd dL_law_688 ?_
  refine l3_sld dL_law_689 v2 ?_
  refine l3_aload_n 1 dL_law_690 rfl ?_
  refine l3_iload 0 dL_law_691 rfl ?_
  refine l3_iconst 3 dL_law_693 (by decide) ?_
  refine l3_iadd dL_law_694 ?_
  refine l3_sld dL_law_695 v3 ?_
  refine l3_callV (n := 3) (As := [.int (xs (x4 + 1 : Int32).toNatClampNeg), .int (xs (x4 + 2 : Int32).toNatClampNeg), .int (xs (x4 + 3 : Int32).toNatClampNeg)]) (by omega) dL_law_696 (k15_X11_give 1000 (by omega) (xs (x4 + 1 : Int32).toNatClampNeg) (xs (x4 + 2 : Int32).toNatClampNeg) (xs (x4 + 3 : Int32).toNatClampNeg) M (by first | omega | decide)) (Nat.le_of_ble_eq_true rfl) (Nat.le_of_ble_eq_true rfl) w_876 w_877 w_878 w_101 w_879 (by decide +kernel) rfl (by decide) sh_0 rfl rfl (Nat.le_of_ble_eq_true rfl) (fun r M1 h1 => ?_)
  obtain ⟨⟨y1, rfl, ky1⟩, h1⟩ := h1
  have hJ := l3_J hJ h1 (fun i h => by first | exact (h : False).elim | omega)
  have oM1_1_1 : (M1.1 1 1).toInt = (M.1 1 1).toInt := tl_slot (congrFun (h1.1 1 (fun h => by first | exact (h : False).elim | omega)) 1)
  have oM1_3_1 : (M1.1 3 1).toInt = (M.1 3 1).toInt := tl_slot (congrFun (h1.1 3 (fun h => by first | exact (h : False).elim | omega)) 1)
  have oM1_5_0 : (M1.1 5 0).toInt = (M.1 5 0).toInt := tl_slot (congrFun (h1.1 5 (fun h => by first | exact (h : False).elim | omega)) 0)
  have oM1_5_1 : (M1.1 5 1).toInt = (M.1 5 1).toInt := tl_slot (congrFun (h1.1 5 (fun h => by first | exact (h : False).elim | omega)) 1)
  have oM1_13_0 : (M1.1 13 0).toInt = (M.1 13 0).toInt := tl_slot (congrFun (h1.1 13 (fun h => by first | exact (h : False).elim | omega)) 0)
  have oM1_13_1 : (M1.1 13 1).toInt = (M.1 13 1).toInt := tl_slot (congrFun (h1.1 13 (fun h => by first | exact (h : False).elim | omega)) 1)
  have oM1_13_2 : (M1.1 13 2).toInt = (M.1 13 2).toInt := tl_slot (congrFun (h1.1 13 (fun h => by first | exact (h : False).elim | omega)) 2)
  have oM1_163_7 : (M1.1 163 7).toInt = (M.1 163 7).toInt := tl_slot (congrFun (h1.1 163 (fun h => by first | exact (h : False).elim | omega)) 7)
  have oM1_171_5 : (M1.1 171 5).toInt = (M.1 171 5).toInt := tl_slot (congrFun (h1.1 171 (fun h => by first | exact (h : False).elim | omega)) 5)
  have oM1_175_1 : (M1.1 175 1).toInt = (M.1 175 1).toInt := tl_slot (congrFun (h1.1 175 (fun h => by first | exact (h : False).elim | omega)) 1)
  have oM1_175_4 : (M1.1 175 4).toInt = (M.1 175 4).toInt := tl_slot (congrFun (h1.1 175 (fun h => by first | exact (h : False).elim | omega)) 4)
  have oM1_175_7 : (M1.1 175 7).toInt = (M.1 175 7).toInt := tl_slot (congrFun (h1.1 175 (fun h => by first | exact (h : False).elim | omega)) 7)
  have oM1_175_9 : (M1.1 175 9).toInt = (M.1 175 9).toInt := tl_slot (congrFun (h1.1 175 (fun h => by first | exact (h : False).elim | omega)) 9)
  have oM1_175_23 : (M1.1 175 23).toInt = (M.1 175 23).toInt := tl_slot (congrFun (h1.1 175 (fun h => by first | exact (h : False).elim | omega)) 23)
  have oM1_175_38 : (M1.1 175 38).toInt = (M.1 175 38).toInt := tl_slot (congrFun (h1.1 175 (fun h => by first | exact (h : False).elim | omega)) 38)
  have oM1_175_43 : (M1.1 175 43).toInt = (M.1 175 43).toInt := tl_slot (congrFun (h1.1 175 (fun h => by first | exact (h : False).elim | omega)) 43)
  have oM1_176_18 : (M1.1 176 18).toInt = (M.1 176 18).toInt := tl_slot (congrFun (h1.1 176 (fun h => by first | exact (h : False).elim | omega)) 18)
  have oM1_176_19 : (M1.1 176 19).toInt = (M.1 176 19).toInt := tl_slot (congrFun (h1.1 176 (fun h => by first | exact (h : False).elim | omega)) 19)
  have oM1_176_20 : (M1.1 176 20).toInt = (M.1 176 20).toInt := tl_slot (congrFun (h1.1 176 (fun h => by first | exact (h : False).elim | omega)) 20)
  have Pwq_M1 : li_wq (M1.1 192) ((M1.1 175 35).toInt) (121) (0) (0) := li_wq_mv (h1.1 192 (fun h => by first | exact (h : False).elim | omega)) (tl_slot (congrFun (h1.1 175 (fun h => by first | exact (h : False).elim | omega)) 35)) Pwq_M
  have Pkz_M1 : ∀ i : Nat, (M1.1 202 i).toInt = 0 := fun i => (tl_slot (congrFun (h1.1 202 (fun h => by first | exact (h : False).elim | omega)) i)).trans (Pkz_M i)
  refine l3_aload_n 3 dL_law_699 rfl ?_
  refine l3_aload_n 1 dL_law_700 rfl ?_
  refine l3_iload 0 dL_law_701 rfl ?_
  refine l3_iconst 1 dL_law_703 (by decide) ?_
  refine l3_iadd dL_law_704 ?_
  refine l3_sld dL_law_705 v1 ?_
  refine l3_aload_n 1 dL_law_706 rfl ?_
  refine l3_iload 0 dL_law_707 rfl ?_
  refine l3_iconst 2 dL_law_709 (by decide) ?_
  refine l3_iadd dL_law_710 ?_
  refine l3_sld dL_law_711 v2 ?_
  refine l3_aload_n 1 dL_law_712 rfl ?_
  refine l3_iload 0 dL_law_713 rfl ?_
  refine l3_iconst 3 dL_law_715 (by decide) ?_
  refine l3_iadd dL_law_716 ?_
  refine l3_sld dL_law_717 v3 ?_
  refine l3_callV (n := 3) (As := [.int (xs (x4 + 1 : Int32).toNatClampNeg), .int (xs (x4 + 2 : Int32).toNatClampNeg), .int (xs (x4 + 3 : Int32).toNatClampNeg)]) (by omega) dL_law_718 (k15_X12_give 1000 (by omega) (xs (x4 + 1 : Int32).toNatClampNeg) (xs (x4 + 2 : Int32).toNatClampNeg) (xs (x4 + 3 : Int32).toNatClampNeg) M1 hJ (by omega) ) (Nat.le_of_ble_eq_true rfl) (Nat.le_of_ble_eq_true rfl) w_1756 w_1757 w_1758 w_112 w_1759 (by decide +kernel) rfl (by decide) sh_175 rfl rfl (Nat.le_of_ble_eq_true rfl) (fun r M2 h2 => ?_)
  have jh2 := h2
  obtain ⟨⟨y2, rfl, ky2⟩, h2⟩ := h2
  have hJ := h2.2
  refine l3_icmp_eq 1456 dL_law_721 (by decide) (fun c => ?_) (fun c => absurd (Int32.toInt_inj.mp (show (y1 : Int32).toInt = (y2 : Int32).toInt by omega)) c)
  exact KK _ M2 hJ (by omega)
set_option maxRecDepth 100000 in
set_option maxHeartbeats 4000000 in
theorem lc_13 {l : Launch} {Z : li_Z} {b L kc : Nat} {xs : Nat → Int32} {x4 : Int32} {M : li_M} {Q : Option Value → li_M → Prop} (htr : l.stackTraces = false) (hk : kc ≤ 512) (hJ : li_J M) (v1 : vp_in (x4 + 1) L) (v2 : vp_in (x4 + 2) L) (v3 : vp_in (x4 + 3) L) (v4 : vp_in (x4 + 4) L) (hR0 : (M.1 1 1).toInt = 0) (hR1 : (M.1 3 1).toInt = 0) (hR2 : (M.1 5 0).toInt = 0) (hR3 : (M.1 5 1).toInt = 0) (hR4 : (M.1 13 0).toInt = 0) (hR5 : (M.1 13 1).toInt = 0) (hR6 : (M.1 13 2).toInt = 0) (hR7 : (M.1 21 3).toInt = 0) (hR8 : (M.1 21 4).toInt = 0) (hR9 : (M.1 163 7).toInt = 0) (hR10 : (M.1 171 5).toInt = 0) (hR11 : (M.1 175 1).toInt = 0) (hR12 : (M.1 175 4).toInt = 0) (hR13 : (M.1 175 7).toInt = 0) (hR14 : (M.1 175 9).toInt = 0) (hR15 : (M.1 175 23).toInt = 0) (hR16 : (M.1 175 38).toInt = 0) (hR17 : (M.1 175 43).toInt = 0) (hR18 : (M.1 176 18).toInt = 0) (hR19 : (M.1 176 19).toInt = 0) (hR20 : (M.1 176 20).toInt = 0) (Pwq_M : li_wq (M.1 192) ((M.1 175 35).toInt) (121) (0) (0)) (Pkz_M : ∀ i : Nat, (M.1 202 i).toInt = 0) (KK : ∀ (k : Nat) (M : li_M), li_J M → k ≤ kc + 1 → l3_T l Z b L xs k 1456 [(4, .int x4), (0, .ref b), (1, .ref (Z.2.2 0)), (2, .ref (Z.2.2 175)), (3, .ref (Z.2.2 204))] [] M Q) : l3_T l Z b L xs kc 726 [(4, .int x4), (0, .ref b), (1, .ref (Z.2.2 0)), (2, .ref (Z.2.2 175)), (3, .ref (Z.2.2 204))] [] M Q := by
  have rJ1 := J_sl1 (M := M) hJ
  have rJ4 := J_sl4 (M := M) hJ
  have rJ7 := J_sl7 (M := M) hJ
  have rJ9 := J_sl9 (M := M) hJ
  have rJ23 := J_sl23 (M := M) hJ
  have rJ38 := J_sl38 (M := M) hJ
  refine l3_aload_n 2 dL_law_726 rfl ?_
  refine l3_aload_n 1 dL_law_727 rfl ?_
  refine l3_iload 0 dL_law_728 rfl ?_
  refine l3_iconst 1 dL_law_730 (by decide) ?_
  refine l3_iadd dL_law_731 ?_
  refine l3_sld dL_law_732 v1 ?_
  refine l3_aload_n 1 dL_law_733 rfl ?_
  refine l3_iload 0 dL_law_734 rfl ?_
  refine l3_iconst 2 dL_law_736 (by decide) ?_
  refine l3_iadd dL_law_737 ?_
  refine l3_sld dL_law_738 v2 ?_
  refine l3_aload_n 1 dL_law_739 rfl ?_
  refine l3_iload 0 dL_law_740 rfl ?_
  refine l3_iconst 3 dL_law_742 (by decide) ?_
  refine l3_iadd dL_law_743 ?_
  refine l3_sld dL_law_744 v3 ?_
  refine l3_aload_n 1 dL_law_745 rfl ?_
  refine l3_iload 0 dL_law_746 rfl ?_
  refine l3_iconst 4 dL_law_748 (by decide) ?_
  refine l3_iadd dL_law_749 ?_
  refine l3_sld dL_law_750 v4 ?_
  refine l3_callV (n := 4) (As := [.int (xs (x4 + 1 : Int32).toNatClampNeg), .int (xs (x4 + 2 : Int32).toNatClampNeg), .int (xs (x4 + 3 : Int32).toNatClampNeg), .int (xs (x4 + 4 : Int32).toNatClampNeg)]) (by omega) dL_law_751 (k15_X11_lend 1000 (by omega) (xs (x4 + 1 : Int32).toNatClampNeg) (xs (x4 + 2 : Int32).toNatClampNeg) (xs (x4 + 3 : Int32).toNatClampNeg) (xs (x4 + 4 : Int32).toNatClampNeg) M (by first | omega | decide)) (Nat.le_of_ble_eq_true rfl) (Nat.le_of_ble_eq_true rfl) w_894 w_895 w_896 w_101 w_897 (by decide +kernel) rfl (by decide) sh_0 rfl rfl (Nat.le_of_ble_eq_true rfl) (fun r M1 h1 => ?_)
  obtain ⟨⟨y1, rfl, ky1⟩, h1⟩ := h1
  have hJ := l3_J hJ h1 (fun i h => by first | exact (h : False).elim | omega)
  have oM1_1_1 : (M1.1 1 1).toInt = (M.1 1 1).toInt := tl_slot (congrFun (h1.1 1 (fun h => by first | exact (h : False).elim | omega)) 1)
  have oM1_3_1 : (M1.1 3 1).toInt = (M.1 3 1).toInt := tl_slot (congrFun (h1.1 3 (fun h => by first | exact (h : False).elim | omega)) 1)
  have oM1_5_0 : (M1.1 5 0).toInt = (M.1 5 0).toInt := tl_slot (congrFun (h1.1 5 (fun h => by first | exact (h : False).elim | omega)) 0)
  have oM1_5_1 : (M1.1 5 1).toInt = (M.1 5 1).toInt := tl_slot (congrFun (h1.1 5 (fun h => by first | exact (h : False).elim | omega)) 1)
  have oM1_13_0 : (M1.1 13 0).toInt = (M.1 13 0).toInt := tl_slot (congrFun (h1.1 13 (fun h => by first | exact (h : False).elim | omega)) 0)
  have oM1_13_1 : (M1.1 13 1).toInt = (M.1 13 1).toInt := tl_slot (congrFun (h1.1 13 (fun h => by first | exact (h : False).elim | omega)) 1)
  have oM1_13_2 : (M1.1 13 2).toInt = (M.1 13 2).toInt := tl_slot (congrFun (h1.1 13 (fun h => by first | exact (h : False).elim | omega)) 2)
  have oM1_21_3 : (M1.1 21 3).toInt = (M.1 21 3).toInt := tl_slot (congrFun (h1.1 21 (fun h => by first | exact (h : False).elim | omega)) 3)
  have oM1_21_4 : (M1.1 21 4).toInt = (M.1 21 4).toInt := tl_slot (congrFun (h1.1 21 (fun h => by first | exact (h : False).elim | omega)) 4)
  have oM1_163_7 : (M1.1 163 7).toInt = (M.1 163 7).toInt := tl_slot (congrFun (h1.1 163 (fun h => by first | exact (h : False).elim | omega)) 7)
  have oM1_171_5 : (M1.1 171 5).toInt = (M.1 171 5).toInt := tl_slot (congrFun (h1.1 171 (fun h => by first | exact (h : False).elim | omega)) 5)
  have oM1_175_1 : (M1.1 175 1).toInt = (M.1 175 1).toInt := tl_slot (congrFun (h1.1 175 (fun h => by first | exact (h : False).elim | omega)) 1)
  have oM1_175_4 : (M1.1 175 4).toInt = (M.1 175 4).toInt := tl_slot (congrFun (h1.1 175 (fun h => by first | exact (h : False).elim | omega)) 4)
  have oM1_175_7 : (M1.1 175 7).toInt = (M.1 175 7).toInt := tl_slot (congrFun (h1.1 175 (fun h => by first | exact (h : False).elim | omega)) 7)
  have oM1_175_9 : (M1.1 175 9).toInt = (M.1 175 9).toInt := tl_slot (congrFun (h1.1 175 (fun h => by first | exact (h : False).elim | omega)) 9)
  have oM1_175_23 : (M1.1 175 23).toInt = (M.1 175 23).toInt := tl_slot (congrFun (h1.1 175 (fun h => by first | exact (h : False).elim | omega)) 23)
  have oM1_175_38 : (M1.1 175 38).toInt = (M.1 175 38).toInt := tl_slot (congrFun (h1.1 175 (fun h => by first | exact (h : False).elim | omega)) 38)
  have oM1_175_43 : (M1.1 175 43).toInt = (M.1 175 43).toInt := tl_slot (congrFun (h1.1 175 (fun h => by first | exact (h : False).elim | omega)) 43)
  have oM1_176_18 : (M1.1 176 18).toInt = (M.1 176 18).toInt := tl_slot (congrFun (h1.1 176 (fun h => by first | exact (h : False).elim | omega)) 18)
  have oM1_176_19 : (M1.1 176 19).toInt = (M.1 176 19).toInt := tl_slot (congrFun (h1.1 176 (fun h => by first | exact (h : False).elim | omega)) 19)
  have oM1_176_20 : (M1.1 176 20).toInt = (M.1 176 20).toInt := tl_slot (congrFun (h1.1 176 (fun h => by first | exact (h : False).elim | omega)) 20)
  have Pwq_M1 : li_wq (M1.1 192) ((M1.1 175 35).toInt) (121) (0) (0) := li_wq_mv (h1.1 192 (fun h => by first | exact (h : False).elim | omega)) (tl_slot (congrFun (h1.1 175 (fun h => by first | exact (h : False).elim | omega)) 35)) Pwq_M
  have Pkz_M1 : ∀ i : Nat, (M1.1 202 i).toInt = 0 := fun i => (tl_slot (congrFun (h1.1 202 (fun h => by first | exact (h : False).elim | omega)) i)).trans (Pkz_M i)
  refine l3_aload_n 3 dL_law_754 rfl ?_
  refine l3_aload_n 1 dL_law_755 rfl ?_
  refine l3_iload 0 dL_law_756 rfl ?_
  refine l3_iconst 1 dL_law_758 (by decide) ?_
  refine l3_iadd dL_law_759 ?_
  refine l3_sld dL_law_760 v1 ?_
  refine l3_aload_n 1 dL_law_761 rfl ?_
  refine l3_iload 0 dL_law_762 rfl ?_
  refine l3_iconst 2 dL_law_764 (by decide) ?_
  refine l3_iadd dL_law_765 ?_
  refine l3_sld dL_law_766 v2 ?_
  refine l3_aload_n 1 dL_law_767 rfl ?_
  refine l3_iload 0 dL_law_768 rfl ?_
  refine l3_iconst 3 dL_law_770 (by decide) ?_
  refine l3_iadd dL_law_771 ?_
  refine l3_sld dL_law_772 v3 ?_
  refine l3_aload_n 1 dL_law_773 rfl ?_
  refine l3_iload 0 dL_law_774 rfl ?_
  refine l3_iconst 4 dL_law_776 (by decide) ?_
  refine l3_iadd dL_law_777 ?_
  refine l3_sld dL_law_778 v4 ?_
  refine l3_callV (n := 4) (As := [.int (xs (x4 + 1 : Int32).toNatClampNeg), .int (xs (x4 + 2 : Int32).toNatClampNeg), .int (xs (x4 + 3 : Int32).toNatClampNeg), .int (xs (x4 + 4 : Int32).toNatClampNeg)]) (by omega) dL_law_779 (k15_X12_lend 1000 (by omega) (xs (x4 + 1 : Int32).toNatClampNeg) (xs (x4 + 2 : Int32).toNatClampNeg) (xs (x4 + 3 : Int32).toNatClampNeg) (xs (x4 + 4 : Int32).toNatClampNeg) M1 hJ (by omega) ) (Nat.le_of_ble_eq_true rfl) (Nat.le_of_ble_eq_true rfl) w_1771 w_1772 w_1773 w_112 w_1774 (by decide +kernel) rfl (by decide) sh_175 rfl rfl (Nat.le_of_ble_eq_true rfl) (fun r M2 h2 => ?_)
  have jh2 := h2
  obtain ⟨⟨y2, rfl, ky2⟩, h2⟩ := h2
  have hJ := h2.2
  refine l3_icmp_eq 1456 dL_law_782 (by decide) (fun c => ?_) (fun c => absurd (Int32.toInt_inj.mp (show (y1 : Int32).toInt = (y2 : Int32).toInt by omega)) c)
  exact KK _ M2 hJ (by omega)
set_option maxRecDepth 100000 in
set_option maxHeartbeats 4000000 in
theorem lc_14 {l : Launch} {Z : li_Z} {b L kc : Nat} {xs : Nat → Int32} {x4 : Int32} {M : li_M} {Q : Option Value → li_M → Prop} (htr : l.stackTraces = false) (hk : kc ≤ 512) (hJ : li_J M) (v1 : vp_in (x4 + 1) L) (v2 : vp_in (x4 + 2) L) (v3 : vp_in (x4 + 3) L) (v4 : vp_in (x4 + 4) L) (hR0 : (M.1 1 1).toInt = 0) (hR1 : (M.1 3 1).toInt = 0) (hR2 : (M.1 5 0).toInt = 0) (hR3 : (M.1 5 1).toInt = 0) (hR4 : (M.1 13 0).toInt = 0) (hR5 : (M.1 13 1).toInt = 0) (hR6 : (M.1 13 2).toInt = 0) (hR7 : (M.1 21 3).toInt = 0) (hR8 : (M.1 21 4).toInt = 0) (hR9 : (M.1 163 7).toInt = 0) (hR10 : (M.1 171 5).toInt = 0) (hR11 : (M.1 175 1).toInt = 0) (hR12 : (M.1 175 4).toInt = 0) (hR13 : (M.1 175 7).toInt = 0) (hR14 : (M.1 175 9).toInt = 0) (hR15 : (M.1 175 23).toInt = 0) (hR16 : (M.1 175 38).toInt = 0) (hR17 : (M.1 175 43).toInt = 0) (hR18 : (M.1 176 18).toInt = 0) (hR19 : (M.1 176 19).toInt = 0) (hR20 : (M.1 176 20).toInt = 0) (Pwq_M : li_wq (M.1 192) ((M.1 175 35).toInt) (121) (0) (0)) (Pkz_M : ∀ i : Nat, (M.1 202 i).toInt = 0) (KK : ∀ (k : Nat) (M : li_M), li_J M → k ≤ kc + 1 → l3_T l Z b L xs k 1456 [(4, .int x4), (0, .ref b), (1, .ref (Z.2.2 0)), (2, .ref (Z.2.2 175)), (3, .ref (Z.2.2 204))] [] M Q) : l3_T l Z b L xs kc 787 [(4, .int x4), (0, .ref b), (1, .ref (Z.2.2 0)), (2, .ref (Z.2.2 175)), (3, .ref (Z.2.2 204))] [] M Q := by
  have rJ1 := J_sl1 (M := M) hJ
  have rJ4 := J_sl4 (M := M) hJ
  have rJ7 := J_sl7 (M := M) hJ
  have rJ9 := J_sl9 (M := M) hJ
  have rJ23 := J_sl23 (M := M) hJ
  have rJ38 := J_sl38 (M := M) hJ
  refine l3_aload_n 2 dL_law_787 rfl ?_
  refine l3_aload_n 1 dL_law_788 rfl ?_
  refine l3_iload 0 dL_law_789 rfl ?_
  refine l3_iconst 1 dL_law_791 (by decide) ?_
  refine l3_iadd dL_law_792 ?_
  refine l3_sld dL_law_793 v1 ?_
  refine l3_callV (n := 1) (As := [.int (xs (x4 + 1 : Int32).toNatClampNeg)]) (by omega) dL_law_794 (k15_X11_days 1000 (by omega) (xs (x4 + 1 : Int32).toNatClampNeg) M (by first | omega | decide) (by first | omega | decide)) (Nat.le_of_ble_eq_true rfl) (Nat.le_of_ble_eq_true rfl) w_905 w_906 w_907 w_101 w_908 (by decide +kernel) rfl (by decide) sh_0 rfl rfl (Nat.le_of_ble_eq_true rfl) (fun r M1 h1 => ?_)
  obtain ⟨⟨y1, rfl, ky1⟩, h1⟩ := h1
  have hJ := l3_J hJ h1 (fun i h => by first | exact (h : False).elim | omega)
  have oM1_1_1 : (M1.1 1 1).toInt = (M.1 1 1).toInt := tl_slot (congrFun (h1.1 1 (fun h => by first | exact (h : False).elim | omega)) 1)
  have oM1_5_0 : (M1.1 5 0).toInt = (M.1 5 0).toInt := tl_slot (congrFun (h1.1 5 (fun h => by first | exact (h : False).elim | omega)) 0)
  have oM1_5_1 : (M1.1 5 1).toInt = (M.1 5 1).toInt := tl_slot (congrFun (h1.1 5 (fun h => by first | exact (h : False).elim | omega)) 1)
  have oM1_163_7 : (M1.1 163 7).toInt = (M.1 163 7).toInt := tl_slot (congrFun (h1.1 163 (fun h => by first | exact (h : False).elim | omega)) 7)
  have oM1_171_5 : (M1.1 171 5).toInt = (M.1 171 5).toInt := tl_slot (congrFun (h1.1 171 (fun h => by first | exact (h : False).elim | omega)) 5)
  have oM1_175_1 : (M1.1 175 1).toInt = (M.1 175 1).toInt := tl_slot (congrFun (h1.1 175 (fun h => by first | exact (h : False).elim | omega)) 1)
  have oM1_175_4 : (M1.1 175 4).toInt = (M.1 175 4).toInt := tl_slot (congrFun (h1.1 175 (fun h => by first | exact (h : False).elim | omega)) 4)
  have oM1_175_7 : (M1.1 175 7).toInt = (M.1 175 7).toInt := tl_slot (congrFun (h1.1 175 (fun h => by first | exact (h : False).elim | omega)) 7)
  have oM1_175_9 : (M1.1 175 9).toInt = (M.1 175 9).toInt := tl_slot (congrFun (h1.1 175 (fun h => by first | exact (h : False).elim | omega)) 9)
  have oM1_175_23 : (M1.1 175 23).toInt = (M.1 175 23).toInt := tl_slot (congrFun (h1.1 175 (fun h => by first | exact (h : False).elim | omega)) 23)
  have oM1_175_38 : (M1.1 175 38).toInt = (M.1 175 38).toInt := tl_slot (congrFun (h1.1 175 (fun h => by first | exact (h : False).elim | omega)) 38)
  have oM1_175_43 : (M1.1 175 43).toInt = (M.1 175 43).toInt := tl_slot (congrFun (h1.1 175 (fun h => by first | exact (h : False).elim | omega)) 43)
  have oM1_176_18 : (M1.1 176 18).toInt = (M.1 176 18).toInt := tl_slot (congrFun (h1.1 176 (fun h => by first | exact (h : False).elim | omega)) 18)
  have oM1_176_19 : (M1.1 176 19).toInt = (M.1 176 19).toInt := tl_slot (congrFun (h1.1 176 (fun h => by first | exact (h : False).elim | omega)) 19)
  have oM1_176_20 : (M1.1 176 20).toInt = (M.1 176 20).toInt := tl_slot (congrFun (h1.1 176 (fun h => by first | exact (h : False).elim | omega)) 20)
  have Pwq_M1 : li_wq (M1.1 192) ((M1.1 175 35).toInt) (121) (0) (0) := li_wq_mv (h1.1 192 (fun h => by first | exact (h : False).elim | omega)) (tl_slot (congrFun (h1.1 175 (fun h => by first | exact (h : False).elim | omega)) 35)) Pwq_M
  have Pkz_M1 : ∀ i : Nat, (M1.1 202 i).toInt = 0 := fun i => (tl_slot (congrFun (h1.1 202 (fun h => by first | exact (h : False).elim | omega)) i)).trans (Pkz_M i)
  refine l3_aload_n 3 dL_law_797 rfl ?_
  refine l3_aload_n 1 dL_law_798 rfl ?_
  refine l3_iload 0 dL_law_799 rfl ?_
  refine l3_iconst 1 dL_law_801 (by decide) ?_
  refine l3_iadd dL_law_802 ?_
  refine l3_sld dL_law_803 v1 ?_
  refine l3_callV (n := 1) (As := [.int (xs (x4 + 1 : Int32).toNatClampNeg)]) (by omega) dL_law_804 (k15_X12_days 1000 (by omega) (xs (x4 + 1 : Int32).toNatClampNeg) M1 hJ (by omega) (by omega) (by omega) ) (Nat.le_of_ble_eq_true rfl) (Nat.le_of_ble_eq_true rfl) w_1775 w_1776 w_1777 w_112 w_1778 (by decide +kernel) rfl (by decide) sh_175 rfl rfl (Nat.le_of_ble_eq_true rfl) (fun r M2 h2 => ?_)
  have jh2 := h2
  obtain ⟨⟨y2, rfl, ky2⟩, h2⟩ := h2
  have hJ := h2.2
  refine l3_icmp_eq 1456 dL_law_807 (by decide) (fun c => ?_) (fun c => absurd (Int32.toInt_inj.mp (show (y1 : Int32).toInt = (y2 : Int32).toInt by omega)) c)
  exact KK _ M2 hJ (by omega)
set_option maxRecDepth 100000 in
set_option maxHeartbeats 4000000 in
theorem lc_15 {l : Launch} {Z : li_Z} {b L kc : Nat} {xs : Nat → Int32} {x4 : Int32} {M : li_M} {Q : Option Value → li_M → Prop} (htr : l.stackTraces = false) (hk : kc ≤ 512) (hJ : li_J M) (v1 : vp_in (x4 + 1) L) (v2 : vp_in (x4 + 2) L) (v3 : vp_in (x4 + 3) L) (v4 : vp_in (x4 + 4) L) (hR0 : (M.1 1 1).toInt = 0) (hR1 : (M.1 3 1).toInt = 0) (hR2 : (M.1 5 0).toInt = 0) (hR3 : (M.1 5 1).toInt = 0) (hR4 : (M.1 13 0).toInt = 0) (hR5 : (M.1 13 1).toInt = 0) (hR6 : (M.1 13 2).toInt = 0) (hR7 : (M.1 21 3).toInt = 0) (hR8 : (M.1 21 4).toInt = 0) (hR9 : (M.1 163 7).toInt = 0) (hR10 : (M.1 171 5).toInt = 0) (hR11 : (M.1 175 1).toInt = 0) (hR12 : (M.1 175 4).toInt = 0) (hR13 : (M.1 175 7).toInt = 0) (hR14 : (M.1 175 9).toInt = 0) (hR15 : (M.1 175 23).toInt = 0) (hR16 : (M.1 175 38).toInt = 0) (hR17 : (M.1 175 43).toInt = 0) (hR18 : (M.1 176 18).toInt = 0) (hR19 : (M.1 176 19).toInt = 0) (hR20 : (M.1 176 20).toInt = 0) (Pwq_M : li_wq (M.1 192) ((M.1 175 35).toInt) (121) (0) (0)) (Pkz_M : ∀ i : Nat, (M.1 202 i).toInt = 0) (KK : ∀ (k : Nat) (M : li_M), li_J M → k ≤ kc + 1 → l3_T l Z b L xs k 1456 [(4, .int x4), (0, .ref b), (1, .ref (Z.2.2 0)), (2, .ref (Z.2.2 175)), (3, .ref (Z.2.2 204))] [] M Q) : l3_T l Z b L xs kc 812 [(4, .int x4), (0, .ref b), (1, .ref (Z.2.2 0)), (2, .ref (Z.2.2 175)), (3, .ref (Z.2.2 204))] [] M Q := by
  have rJ1 := J_sl1 (M := M) hJ
  have rJ4 := J_sl4 (M := M) hJ
  have rJ7 := J_sl7 (M := M) hJ
  have rJ9 := J_sl9 (M := M) hJ
  have rJ23 := J_sl23 (M := M) hJ
  have rJ38 := J_sl38 (M := M) hJ
  refine l3_aload_n 2 dL_law_812 rfl ?_
  refine l3_callV (n := 0) (As := []) (by omega) dL_law_813 (k15_X11_talk 1000 (by omega)  M (by first | omega | decide)) (Nat.le_of_ble_eq_true rfl) (Nat.le_of_ble_eq_true rfl) w_956 w_957 w_958 w_101 w_959 (by decide +kernel) rfl (by decide) sh_0 rfl rfl (Nat.le_of_ble_eq_true rfl) (fun r M1 h1 => ?_)
  obtain ⟨⟨y1, rfl, ky1⟩, h1⟩ := h1
  have hJ := l3_J hJ h1 (fun i h => by first | exact (h : False).elim | omega)
  have oM1_5_0 : (M1.1 5 0).toInt = (M.1 5 0).toInt := tl_slot (congrFun (h1.1 5 (fun h => by first | exact (h : False).elim | omega)) 0)
  have oM1_5_1 : (M1.1 5 1).toInt = (M.1 5 1).toInt := tl_slot (congrFun (h1.1 5 (fun h => by first | exact (h : False).elim | omega)) 1)
  have oM1_13_0 : (M1.1 13 0).toInt = (M.1 13 0).toInt := tl_slot (congrFun (h1.1 13 (fun h => by first | exact (h : False).elim | omega)) 0)
  have oM1_13_1 : (M1.1 13 1).toInt = (M.1 13 1).toInt := tl_slot (congrFun (h1.1 13 (fun h => by first | exact (h : False).elim | omega)) 1)
  have oM1_13_2 : (M1.1 13 2).toInt = (M.1 13 2).toInt := tl_slot (congrFun (h1.1 13 (fun h => by first | exact (h : False).elim | omega)) 2)
  have oM1_21_3 : (M1.1 21 3).toInt = (M.1 21 3).toInt := tl_slot (congrFun (h1.1 21 (fun h => by first | exact (h : False).elim | omega)) 3)
  have oM1_21_4 : (M1.1 21 4).toInt = (M.1 21 4).toInt := tl_slot (congrFun (h1.1 21 (fun h => by first | exact (h : False).elim | omega)) 4)
  have oM1_163_7 : (M1.1 163 7).toInt = (M.1 163 7).toInt := tl_slot (congrFun (h1.1 163 (fun h => by first | exact (h : False).elim | omega)) 7)
  have oM1_171_5 : (M1.1 171 5).toInt = (M.1 171 5).toInt := tl_slot (congrFun (h1.1 171 (fun h => by first | exact (h : False).elim | omega)) 5)
  have oM1_175_1 : (M1.1 175 1).toInt = (M.1 175 1).toInt := tl_slot (congrFun (h1.1 175 (fun h => by first | exact (h : False).elim | omega)) 1)
  have oM1_175_4 : (M1.1 175 4).toInt = (M.1 175 4).toInt := tl_slot (congrFun (h1.1 175 (fun h => by first | exact (h : False).elim | omega)) 4)
  have oM1_175_7 : (M1.1 175 7).toInt = (M.1 175 7).toInt := tl_slot (congrFun (h1.1 175 (fun h => by first | exact (h : False).elim | omega)) 7)
  have oM1_175_9 : (M1.1 175 9).toInt = (M.1 175 9).toInt := tl_slot (congrFun (h1.1 175 (fun h => by first | exact (h : False).elim | omega)) 9)
  have oM1_175_23 : (M1.1 175 23).toInt = (M.1 175 23).toInt := tl_slot (congrFun (h1.1 175 (fun h => by first | exact (h : False).elim | omega)) 23)
  have oM1_175_38 : (M1.1 175 38).toInt = (M.1 175 38).toInt := tl_slot (congrFun (h1.1 175 (fun h => by first | exact (h : False).elim | omega)) 38)
  have oM1_175_43 : (M1.1 175 43).toInt = (M.1 175 43).toInt := tl_slot (congrFun (h1.1 175 (fun h => by first | exact (h : False).elim | omega)) 43)
  have oM1_176_18 : (M1.1 176 18).toInt = (M.1 176 18).toInt := tl_slot (congrFun (h1.1 176 (fun h => by first | exact (h : False).elim | omega)) 18)
  have oM1_176_19 : (M1.1 176 19).toInt = (M.1 176 19).toInt := tl_slot (congrFun (h1.1 176 (fun h => by first | exact (h : False).elim | omega)) 19)
  have oM1_176_20 : (M1.1 176 20).toInt = (M.1 176 20).toInt := tl_slot (congrFun (h1.1 176 (fun h => by first | exact (h : False).elim | omega)) 20)
  have Pwq_M1 : li_wq (M1.1 192) ((M1.1 175 35).toInt) (121) (0) (0) := li_wq_mv (h1.1 192 (fun h => by first | exact (h : False).elim | omega)) (tl_slot (congrFun (h1.1 175 (fun h => by first | exact (h : False).elim | omega)) 35)) Pwq_M
  have Pkz_M1 : ∀ i : Nat, (M1.1 202 i).toInt = 0 := fun i => (tl_slot (congrFun (h1.1 202 (fun h => by first | exact (h : False).elim | omega)) i)).trans (Pkz_M i)
  refine l3_aload_n 3 dL_law_816 rfl ?_
  refine l3_callV (n := 0) (As := []) (by omega) dL_law_817 (k15_X12_talk 1000 (by omega)  M1 hJ (by omega) ) (Nat.le_of_ble_eq_true rfl) (Nat.le_of_ble_eq_true rfl) w_1791 w_1792 w_1793 w_112 w_1794 (by decide +kernel) rfl (by decide) sh_175 rfl rfl (Nat.le_of_ble_eq_true rfl) (fun r M2 h2 => ?_)
  have jh2 := h2
  obtain ⟨⟨y2, rfl, ky2⟩, h2⟩ := h2
  have hJ := h2.2
  refine l3_icmp_eq 1456 dL_law_820 (by decide) (fun c => ?_) (fun c => absurd (Int32.toInt_inj.mp (show (y1 : Int32).toInt = (y2 : Int32).toInt by omega)) c)
  exact KK _ M2 hJ (by omega)
set_option maxRecDepth 100000 in
set_option maxHeartbeats 4000000 in
theorem lc_16 {l : Launch} {Z : li_Z} {b L kc : Nat} {xs : Nat → Int32} {x4 : Int32} {M : li_M} {Q : Option Value → li_M → Prop} (htr : l.stackTraces = false) (hk : kc ≤ 512) (hJ : li_J M) (v1 : vp_in (x4 + 1) L) (v2 : vp_in (x4 + 2) L) (v3 : vp_in (x4 + 3) L) (v4 : vp_in (x4 + 4) L) (hR0 : (M.1 1 1).toInt = 0) (hR1 : (M.1 3 1).toInt = 0) (hR2 : (M.1 5 0).toInt = 0) (hR3 : (M.1 5 1).toInt = 0) (hR4 : (M.1 13 0).toInt = 0) (hR5 : (M.1 13 1).toInt = 0) (hR6 : (M.1 13 2).toInt = 0) (hR7 : (M.1 21 3).toInt = 0) (hR8 : (M.1 21 4).toInt = 0) (hR9 : (M.1 163 7).toInt = 0) (hR10 : (M.1 171 5).toInt = 0) (hR11 : (M.1 175 1).toInt = 0) (hR12 : (M.1 175 4).toInt = 0) (hR13 : (M.1 175 7).toInt = 0) (hR14 : (M.1 175 9).toInt = 0) (hR15 : (M.1 175 23).toInt = 0) (hR16 : (M.1 175 38).toInt = 0) (hR17 : (M.1 175 43).toInt = 0) (hR18 : (M.1 176 18).toInt = 0) (hR19 : (M.1 176 19).toInt = 0) (hR20 : (M.1 176 20).toInt = 0) (Pwq_M : li_wq (M.1 192) ((M.1 175 35).toInt) (121) (0) (0)) (Pkz_M : ∀ i : Nat, (M.1 202 i).toInt = 0) (KK : ∀ (k : Nat) (M : li_M), li_J M → k ≤ kc + 1 → l3_T l Z b L xs k 1456 [(4, .int x4), (0, .ref b), (1, .ref (Z.2.2 0)), (2, .ref (Z.2.2 175)), (3, .ref (Z.2.2 204))] [] M Q) : l3_T l Z b L xs kc 825 [(4, .int x4), (0, .ref b), (1, .ref (Z.2.2 0)), (2, .ref (Z.2.2 175)), (3, .ref (Z.2.2 204))] [] M Q := by
  have rJ1 := J_sl1 (M := M) hJ
  have rJ4 := J_sl4 (M := M) hJ
  have rJ7 := J_sl7 (M := M) hJ
  have rJ9 := J_sl9 (M := M) hJ
  have rJ23 := J_sl23 (M := M) hJ
  have rJ38 := J_sl38 (M := M) hJ
  refine l3_aload_n 2 dL_law_825 rfl ?_
  refine l3_callV (n := 0) (As := []) (by omega) dL_law_826 (k15_X11_undo 1000 (by omega)  M (by first | omega | decide)) (Nat.le_of_ble_eq_true rfl) (Nat.le_of_ble_eq_true rfl) w_976 w_977 w_978 w_101 w_979 (by decide +kernel) rfl (by decide) sh_0 rfl rfl (Nat.le_of_ble_eq_true rfl) (fun r M1 h1 => ?_)
  obtain ⟨⟨y1, rfl, ky1⟩, h1⟩ := h1
  have hJ := l3_J hJ h1 (fun i h => by first | exact (h : False).elim | omega)
  have oM1_1_1 : (M1.1 1 1).toInt = (M.1 1 1).toInt := tl_slot (congrFun (h1.1 1 (fun h => by first | exact (h : False).elim | omega)) 1)
  have oM1_3_1 : (M1.1 3 1).toInt = (M.1 3 1).toInt := tl_slot (congrFun (h1.1 3 (fun h => by first | exact (h : False).elim | omega)) 1)
  have oM1_5_0 : (M1.1 5 0).toInt = (M.1 5 0).toInt := tl_slot (congrFun (h1.1 5 (fun h => by first | exact (h : False).elim | omega)) 0)
  have oM1_5_1 : (M1.1 5 1).toInt = (M.1 5 1).toInt := tl_slot (congrFun (h1.1 5 (fun h => by first | exact (h : False).elim | omega)) 1)
  have oM1_13_0 : (M1.1 13 0).toInt = (M.1 13 0).toInt := tl_slot (congrFun (h1.1 13 (fun h => by first | exact (h : False).elim | omega)) 0)
  have oM1_13_1 : (M1.1 13 1).toInt = (M.1 13 1).toInt := tl_slot (congrFun (h1.1 13 (fun h => by first | exact (h : False).elim | omega)) 1)
  have oM1_13_2 : (M1.1 13 2).toInt = (M.1 13 2).toInt := tl_slot (congrFun (h1.1 13 (fun h => by first | exact (h : False).elim | omega)) 2)
  have oM1_21_3 : (M1.1 21 3).toInt = (M.1 21 3).toInt := tl_slot (congrFun (h1.1 21 (fun h => by first | exact (h : False).elim | omega)) 3)
  have oM1_21_4 : (M1.1 21 4).toInt = (M.1 21 4).toInt := tl_slot (congrFun (h1.1 21 (fun h => by first | exact (h : False).elim | omega)) 4)
  have oM1_163_7 : (M1.1 163 7).toInt = (M.1 163 7).toInt := tl_slot (congrFun (h1.1 163 (fun h => by first | exact (h : False).elim | omega)) 7)
  have oM1_171_5 : (M1.1 171 5).toInt = (M.1 171 5).toInt := tl_slot (congrFun (h1.1 171 (fun h => by first | exact (h : False).elim | omega)) 5)
  have oM1_175_1 : (M1.1 175 1).toInt = (M.1 175 1).toInt := tl_slot (congrFun (h1.1 175 (fun h => by first | exact (h : False).elim | omega)) 1)
  have oM1_175_4 : (M1.1 175 4).toInt = (M.1 175 4).toInt := tl_slot (congrFun (h1.1 175 (fun h => by first | exact (h : False).elim | omega)) 4)
  have oM1_175_7 : (M1.1 175 7).toInt = (M.1 175 7).toInt := tl_slot (congrFun (h1.1 175 (fun h => by first | exact (h : False).elim | omega)) 7)
  have oM1_175_9 : (M1.1 175 9).toInt = (M.1 175 9).toInt := tl_slot (congrFun (h1.1 175 (fun h => by first | exact (h : False).elim | omega)) 9)
  have oM1_175_23 : (M1.1 175 23).toInt = (M.1 175 23).toInt := tl_slot (congrFun (h1.1 175 (fun h => by first | exact (h : False).elim | omega)) 23)
  have oM1_175_38 : (M1.1 175 38).toInt = (M.1 175 38).toInt := tl_slot (congrFun (h1.1 175 (fun h => by first | exact (h : False).elim | omega)) 38)
  have oM1_175_43 : (M1.1 175 43).toInt = (M.1 175 43).toInt := tl_slot (congrFun (h1.1 175 (fun h => by first | exact (h : False).elim | omega)) 43)
  have oM1_176_18 : (M1.1 176 18).toInt = (M.1 176 18).toInt := tl_slot (congrFun (h1.1 176 (fun h => by first | exact (h : False).elim | omega)) 18)
  have oM1_176_19 : (M1.1 176 19).toInt = (M.1 176 19).toInt := tl_slot (congrFun (h1.1 176 (fun h => by first | exact (h : False).elim | omega)) 19)
  have oM1_176_20 : (M1.1 176 20).toInt = (M.1 176 20).toInt := tl_slot (congrFun (h1.1 176 (fun h => by first | exact (h : False).elim | omega)) 20)
  have Pwq_M1 : li_wq (M1.1 192) ((M1.1 175 35).toInt) (121) (0) (0) := li_wq_mv (h1.1 192 (fun h => by first | exact (h : False).elim | omega)) (tl_slot (congrFun (h1.1 175 (fun h => by first | exact (h : False).elim | omega)) 35)) Pwq_M
  have Pkz_M1 : ∀ i : Nat, (M1.1 202 i).toInt = 0 := fun i => (tl_slot (congrFun (h1.1 202 (fun h => by first | exact (h : False).elim | omega)) i)).trans (Pkz_M i)
  refine l3_aload_n 3 dL_law_829 rfl ?_
  refine l3_callV (n := 0) (As := []) (by omega) dL_law_830 (k15_X12_undo 1000 (by omega)  M1 hJ (by omega) ) (Nat.le_of_ble_eq_true rfl) (Nat.le_of_ble_eq_true rfl) w_1803 w_1804 w_1805 w_112 w_1806 (by decide +kernel) rfl (by decide) sh_175 rfl rfl (Nat.le_of_ble_eq_true rfl) (fun r M2 h2 => ?_)
  have jh2 := h2
  obtain ⟨⟨y2, rfl, ky2⟩, h2⟩ := h2
  have hJ := h2.2
  refine l3_icmp_eq 1456 dL_law_833 (by decide) (fun c => ?_) (fun c => absurd (Int32.toInt_inj.mp (show (y1 : Int32).toInt = (y2 : Int32).toInt by omega)) c)
  exact KK _ M2 hJ (by omega)
set_option maxRecDepth 100000 in
set_option maxHeartbeats 4000000 in
theorem lc_17 {l : Launch} {Z : li_Z} {b L kc : Nat} {xs : Nat → Int32} {x4 : Int32} {M : li_M} {Q : Option Value → li_M → Prop} (htr : l.stackTraces = false) (hk : kc ≤ 512) (hJ : li_J M) (v1 : vp_in (x4 + 1) L) (v2 : vp_in (x4 + 2) L) (v3 : vp_in (x4 + 3) L) (v4 : vp_in (x4 + 4) L) (hR0 : (M.1 1 1).toInt = 0) (hR1 : (M.1 3 1).toInt = 0) (hR2 : (M.1 5 0).toInt = 0) (hR3 : (M.1 5 1).toInt = 0) (hR4 : (M.1 13 0).toInt = 0) (hR5 : (M.1 13 1).toInt = 0) (hR6 : (M.1 13 2).toInt = 0) (hR7 : (M.1 21 3).toInt = 0) (hR8 : (M.1 21 4).toInt = 0) (hR9 : (M.1 163 7).toInt = 0) (hR10 : (M.1 171 5).toInt = 0) (hR11 : (M.1 175 1).toInt = 0) (hR12 : (M.1 175 4).toInt = 0) (hR13 : (M.1 175 7).toInt = 0) (hR14 : (M.1 175 9).toInt = 0) (hR15 : (M.1 175 23).toInt = 0) (hR16 : (M.1 175 38).toInt = 0) (hR17 : (M.1 175 43).toInt = 0) (hR18 : (M.1 176 18).toInt = 0) (hR19 : (M.1 176 19).toInt = 0) (hR20 : (M.1 176 20).toInt = 0) (Pwq_M : li_wq (M.1 192) ((M.1 175 35).toInt) (121) (0) (0)) (Pkz_M : ∀ i : Nat, (M.1 202 i).toInt = 0) (KK : ∀ (k : Nat) (M : li_M), li_J M → k ≤ kc + 1 → l3_T l Z b L xs k 1456 [(4, .int x4), (0, .ref b), (1, .ref (Z.2.2 0)), (2, .ref (Z.2.2 175)), (3, .ref (Z.2.2 204))] [] M Q) : l3_T l Z b L xs kc 838 [(4, .int x4), (0, .ref b), (1, .ref (Z.2.2 0)), (2, .ref (Z.2.2 175)), (3, .ref (Z.2.2 204))] [] M Q := by
  have rJ1 := J_sl1 (M := M) hJ
  have rJ4 := J_sl4 (M := M) hJ
  have rJ7 := J_sl7 (M := M) hJ
  have rJ9 := J_sl9 (M := M) hJ
  have rJ23 := J_sl23 (M := M) hJ
  have rJ38 := J_sl38 (M := M) hJ
  refine l3_aload_n 2 dL_law_838 rfl ?_
  refine l3_aload_n 1 dL_law_839 rfl ?_
  refine l3_iload 0 dL_law_840 rfl ?_
  refine l3_iconst 1 dL_law_842 (by decide) ?_
  refine l3_iadd dL_law_843 ?_
  refine l3_sld dL_law_844 v1 ?_
  refine l3_callV (n := 1) (As := [.int (xs (x4 + 1 : Int32).toNatClampNeg)]) (by omega) dL_law_845 (k15_X11_best 1000 (by omega) (xs (x4 + 1 : Int32).toNatClampNeg) M (by first | omega | decide)) (Nat.le_of_ble_eq_true rfl) (Nat.le_of_ble_eq_true rfl) w_984 w_985 w_986 w_101 w_987 (by decide +kernel) rfl (by decide) sh_0 rfl rfl (Nat.le_of_ble_eq_true rfl) (fun r M1 h1 => ?_)
  obtain ⟨⟨y1, rfl, ky1⟩, h1⟩ := h1
  have hJ := l3_J hJ h1 (fun i h => by first | exact (h : False).elim | omega)
  have oM1_1_1 : (M1.1 1 1).toInt = (M.1 1 1).toInt := tl_slot (congrFun (h1.1 1 (fun h => by first | exact (h : False).elim | omega)) 1)
  have oM1_3_1 : (M1.1 3 1).toInt = (M.1 3 1).toInt := tl_slot (congrFun (h1.1 3 (fun h => by first | exact (h : False).elim | omega)) 1)
  have oM1_5_0 : (M1.1 5 0).toInt = (M.1 5 0).toInt := tl_slot (congrFun (h1.1 5 (fun h => by first | exact (h : False).elim | omega)) 0)
  have oM1_5_1 : (M1.1 5 1).toInt = (M.1 5 1).toInt := tl_slot (congrFun (h1.1 5 (fun h => by first | exact (h : False).elim | omega)) 1)
  have oM1_13_0 : (M1.1 13 0).toInt = (M.1 13 0).toInt := tl_slot (congrFun (h1.1 13 (fun h => by first | exact (h : False).elim | omega)) 0)
  have oM1_13_1 : (M1.1 13 1).toInt = (M.1 13 1).toInt := tl_slot (congrFun (h1.1 13 (fun h => by first | exact (h : False).elim | omega)) 1)
  have oM1_13_2 : (M1.1 13 2).toInt = (M.1 13 2).toInt := tl_slot (congrFun (h1.1 13 (fun h => by first | exact (h : False).elim | omega)) 2)
  have oM1_21_3 : (M1.1 21 3).toInt = (M.1 21 3).toInt := tl_slot (congrFun (h1.1 21 (fun h => by first | exact (h : False).elim | omega)) 3)
  have oM1_21_4 : (M1.1 21 4).toInt = (M.1 21 4).toInt := tl_slot (congrFun (h1.1 21 (fun h => by first | exact (h : False).elim | omega)) 4)
  have oM1_163_7 : (M1.1 163 7).toInt = (M.1 163 7).toInt := tl_slot (congrFun (h1.1 163 (fun h => by first | exact (h : False).elim | omega)) 7)
  have oM1_171_5 : (M1.1 171 5).toInt = (M.1 171 5).toInt := tl_slot (congrFun (h1.1 171 (fun h => by first | exact (h : False).elim | omega)) 5)
  have oM1_175_1 : (M1.1 175 1).toInt = (M.1 175 1).toInt := tl_slot (congrFun (h1.1 175 (fun h => by first | exact (h : False).elim | omega)) 1)
  have oM1_175_4 : (M1.1 175 4).toInt = (M.1 175 4).toInt := tl_slot (congrFun (h1.1 175 (fun h => by first | exact (h : False).elim | omega)) 4)
  have oM1_175_7 : (M1.1 175 7).toInt = (M.1 175 7).toInt := tl_slot (congrFun (h1.1 175 (fun h => by first | exact (h : False).elim | omega)) 7)
  have oM1_175_9 : (M1.1 175 9).toInt = (M.1 175 9).toInt := tl_slot (congrFun (h1.1 175 (fun h => by first | exact (h : False).elim | omega)) 9)
  have oM1_175_23 : (M1.1 175 23).toInt = (M.1 175 23).toInt := tl_slot (congrFun (h1.1 175 (fun h => by first | exact (h : False).elim | omega)) 23)
  have oM1_175_38 : (M1.1 175 38).toInt = (M.1 175 38).toInt := tl_slot (congrFun (h1.1 175 (fun h => by first | exact (h : False).elim | omega)) 38)
  have oM1_175_43 : (M1.1 175 43).toInt = (M.1 175 43).toInt := tl_slot (congrFun (h1.1 175 (fun h => by first | exact (h : False).elim | omega)) 43)
  have oM1_176_18 : (M1.1 176 18).toInt = (M.1 176 18).toInt := tl_slot (congrFun (h1.1 176 (fun h => by first | exact (h : False).elim | omega)) 18)
  have oM1_176_19 : (M1.1 176 19).toInt = (M.1 176 19).toInt := tl_slot (congrFun (h1.1 176 (fun h => by first | exact (h : False).elim | omega)) 19)
  have oM1_176_20 : (M1.1 176 20).toInt = (M.1 176 20).toInt := tl_slot (congrFun (h1.1 176 (fun h => by first | exact (h : False).elim | omega)) 20)
  have Pwq_M1 : li_wq (M1.1 192) ((M1.1 175 35).toInt) (121) (0) (0) := li_wq_mv (h1.1 192 (fun h => by first | exact (h : False).elim | omega)) (tl_slot (congrFun (h1.1 175 (fun h => by first | exact (h : False).elim | omega)) 35)) Pwq_M
  have Pkz_M1 : ∀ i : Nat, (M1.1 202 i).toInt = 0 := fun i => (tl_slot (congrFun (h1.1 202 (fun h => by first | exact (h : False).elim | omega)) i)).trans (Pkz_M i)
  refine l3_aload_n 3 dL_law_848 rfl ?_
  refine l3_aload_n 1 dL_law_849 rfl ?_
  refine l3_iload 0 dL_law_850 rfl ?_
  refine l3_iconst 1 dL_law_852 (by decide) ?_
  refine l3_iadd dL_law_853 ?_
  refine l3_sld dL_law_854 v1 ?_
  refine l3_callV (n := 1) (As := [.int (xs (x4 + 1 : Int32).toNatClampNeg)]) (by omega) dL_law_855 (k15_X12_best 1000 (by omega) (xs (x4 + 1 : Int32).toNatClampNeg) M1 hJ (by omega) ) (Nat.le_of_ble_eq_true rfl) (Nat.le_of_ble_eq_true rfl) w_1807 w_1808 w_1809 w_112 w_1810 (by decide +kernel) rfl (by decide) sh_175 rfl rfl (Nat.le_of_ble_eq_true rfl) (fun r M2 h2 => ?_)
  have jh2 := h2
  obtain ⟨⟨y2, rfl, ky2⟩, h2⟩ := h2
  have hJ := h2.2
  refine l3_icmp_eq 1456 dL_law_858 (by decide) (fun c => ?_) (fun c => absurd (Int32.toInt_inj.mp (show (y1 : Int32).toInt = (y2 : Int32).toInt by omega)) c)
  exact KK _ M2 hJ (by omega)
set_option maxRecDepth 100000 in
set_option maxHeartbeats 4000000 in
theorem lc_18 {l : Launch} {Z : li_Z} {b L kc : Nat} {xs : Nat → Int32} {x4 : Int32} {M : li_M} {Q : Option Value → li_M → Prop} (htr : l.stackTraces = false) (hk : kc ≤ 512) (hJ : li_J M) (v1 : vp_in (x4 + 1) L) (v2 : vp_in (x4 + 2) L) (v3 : vp_in (x4 + 3) L) (v4 : vp_in (x4 + 4) L) (hR0 : (M.1 1 1).toInt = 0) (hR1 : (M.1 3 1).toInt = 0) (hR2 : (M.1 5 0).toInt = 0) (hR3 : (M.1 5 1).toInt = 0) (hR4 : (M.1 13 0).toInt = 0) (hR5 : (M.1 13 1).toInt = 0) (hR6 : (M.1 13 2).toInt = 0) (hR7 : (M.1 21 3).toInt = 0) (hR8 : (M.1 21 4).toInt = 0) (hR9 : (M.1 163 7).toInt = 0) (hR10 : (M.1 171 5).toInt = 0) (hR11 : (M.1 175 1).toInt = 0) (hR12 : (M.1 175 4).toInt = 0) (hR13 : (M.1 175 7).toInt = 0) (hR14 : (M.1 175 9).toInt = 0) (hR15 : (M.1 175 23).toInt = 0) (hR16 : (M.1 175 38).toInt = 0) (hR17 : (M.1 175 43).toInt = 0) (hR18 : (M.1 176 18).toInt = 0) (hR19 : (M.1 176 19).toInt = 0) (hR20 : (M.1 176 20).toInt = 0) (Pwq_M : li_wq (M.1 192) ((M.1 175 35).toInt) (121) (0) (0)) (Pkz_M : ∀ i : Nat, (M.1 202 i).toInt = 0) (KK : ∀ (k : Nat) (M : li_M), li_J M → k ≤ kc + 1 → l3_T l Z b L xs k 1456 [(4, .int x4), (0, .ref b), (1, .ref (Z.2.2 0)), (2, .ref (Z.2.2 175)), (3, .ref (Z.2.2 204))] [] M Q) : l3_T l Z b L xs kc 863 [(4, .int x4), (0, .ref b), (1, .ref (Z.2.2 0)), (2, .ref (Z.2.2 175)), (3, .ref (Z.2.2 204))] [] M Q := by
  have rJ1 := J_sl1 (M := M) hJ
  have rJ4 := J_sl4 (M := M) hJ
  have rJ7 := J_sl7 (M := M) hJ
  have rJ9 := J_sl9 (M := M) hJ
  have rJ23 := J_sl23 (M := M) hJ
  have rJ38 := J_sl38 (M := M) hJ
  refine l3_aload_n 2 dL_law_863 rfl ?_
  refine l3_aload_n 1 dL_law_864 rfl ?_
  refine l3_iload 0 dL_law_865 rfl ?_
  refine l3_iconst 1 dL_law_867 (by decide) ?_
  refine l3_iadd dL_law_868 ?_
  refine l3_sld dL_law_869 v1 ?_
  refine l3_callV (n := 1) (As := [.int (xs (x4 + 1 : Int32).toNatClampNeg)]) (by omega) dL_law_870 (k15_X11_lacks 1000 (by omega) (xs (x4 + 1 : Int32).toNatClampNeg) M (by first | omega | decide)) (Nat.le_of_ble_eq_true rfl) (Nat.le_of_ble_eq_true rfl) w_1021 w_1022 w_1023 w_101 w_1024 (by decide +kernel) rfl (by decide) sh_0 rfl rfl (Nat.le_of_ble_eq_true rfl) (fun r M1 h1 => ?_)
  obtain ⟨⟨y1, rfl, ky1⟩, h1⟩ := h1
  have hJ := l3_J hJ h1 (fun i h => by first | exact (h : False).elim | omega)
  have oM1_1_1 : (M1.1 1 1).toInt = (M.1 1 1).toInt := tl_slot (congrFun (h1.1 1 (fun h => by first | exact (h : False).elim | omega)) 1)
  have oM1_3_1 : (M1.1 3 1).toInt = (M.1 3 1).toInt := tl_slot (congrFun (h1.1 3 (fun h => by first | exact (h : False).elim | omega)) 1)
  have oM1_5_0 : (M1.1 5 0).toInt = (M.1 5 0).toInt := tl_slot (congrFun (h1.1 5 (fun h => by first | exact (h : False).elim | omega)) 0)
  have oM1_5_1 : (M1.1 5 1).toInt = (M.1 5 1).toInt := tl_slot (congrFun (h1.1 5 (fun h => by first | exact (h : False).elim | omega)) 1)
  have oM1_13_0 : (M1.1 13 0).toInt = (M.1 13 0).toInt := tl_slot (congrFun (h1.1 13 (fun h => by first | exact (h : False).elim | omega)) 0)
  have oM1_13_1 : (M1.1 13 1).toInt = (M.1 13 1).toInt := tl_slot (congrFun (h1.1 13 (fun h => by first | exact (h : False).elim | omega)) 1)
  have oM1_13_2 : (M1.1 13 2).toInt = (M.1 13 2).toInt := tl_slot (congrFun (h1.1 13 (fun h => by first | exact (h : False).elim | omega)) 2)
  have oM1_21_3 : (M1.1 21 3).toInt = (M.1 21 3).toInt := tl_slot (congrFun (h1.1 21 (fun h => by first | exact (h : False).elim | omega)) 3)
  have oM1_21_4 : (M1.1 21 4).toInt = (M.1 21 4).toInt := tl_slot (congrFun (h1.1 21 (fun h => by first | exact (h : False).elim | omega)) 4)
  have oM1_163_7 : (M1.1 163 7).toInt = (M.1 163 7).toInt := tl_slot (congrFun (h1.1 163 (fun h => by first | exact (h : False).elim | omega)) 7)
  have oM1_171_5 : (M1.1 171 5).toInt = (M.1 171 5).toInt := tl_slot (congrFun (h1.1 171 (fun h => by first | exact (h : False).elim | omega)) 5)
  have oM1_175_1 : (M1.1 175 1).toInt = (M.1 175 1).toInt := tl_slot (congrFun (h1.1 175 (fun h => by first | exact (h : False).elim | omega)) 1)
  have oM1_175_4 : (M1.1 175 4).toInt = (M.1 175 4).toInt := tl_slot (congrFun (h1.1 175 (fun h => by first | exact (h : False).elim | omega)) 4)
  have oM1_175_7 : (M1.1 175 7).toInt = (M.1 175 7).toInt := tl_slot (congrFun (h1.1 175 (fun h => by first | exact (h : False).elim | omega)) 7)
  have oM1_175_9 : (M1.1 175 9).toInt = (M.1 175 9).toInt := tl_slot (congrFun (h1.1 175 (fun h => by first | exact (h : False).elim | omega)) 9)
  have oM1_175_23 : (M1.1 175 23).toInt = (M.1 175 23).toInt := tl_slot (congrFun (h1.1 175 (fun h => by first | exact (h : False).elim | omega)) 23)
  have oM1_175_38 : (M1.1 175 38).toInt = (M.1 175 38).toInt := tl_slot (congrFun (h1.1 175 (fun h => by first | exact (h : False).elim | omega)) 38)
  have oM1_175_43 : (M1.1 175 43).toInt = (M.1 175 43).toInt := tl_slot (congrFun (h1.1 175 (fun h => by first | exact (h : False).elim | omega)) 43)
  have oM1_176_18 : (M1.1 176 18).toInt = (M.1 176 18).toInt := tl_slot (congrFun (h1.1 176 (fun h => by first | exact (h : False).elim | omega)) 18)
  have oM1_176_19 : (M1.1 176 19).toInt = (M.1 176 19).toInt := tl_slot (congrFun (h1.1 176 (fun h => by first | exact (h : False).elim | omega)) 19)
  have oM1_176_20 : (M1.1 176 20).toInt = (M.1 176 20).toInt := tl_slot (congrFun (h1.1 176 (fun h => by first | exact (h : False).elim | omega)) 20)
  have Pwq_M1 : li_wq (M1.1 192) ((M1.1 175 35).toInt) (121) (0) (0) := li_wq_mv (h1.1 192 (fun h => by first | exact (h : False).elim | omega)) (tl_slot (congrFun (h1.1 175 (fun h => by first | exact (h : False).elim | omega)) 35)) Pwq_M
  have Pkz_M1 : ∀ i : Nat, (M1.1 202 i).toInt = 0 := fun i => (tl_slot (congrFun (h1.1 202 (fun h => by first | exact (h : False).elim | omega)) i)).trans (Pkz_M i)
  refine l3_aload_n 3 dL_law_873 rfl ?_
  refine l3_aload_n 1 dL_law_874 rfl ?_
  refine l3_iload 0 dL_law_875 rfl ?_
  refine l3_iconst 1 dL_law_877 (by decide) ?_
  refine l3_iadd dL_law_878 ?_
  refine l3_sld dL_law_879 v1 ?_
  refine l3_callV (n := 1) (As := [.int (xs (x4 + 1 : Int32).toNatClampNeg)]) (by omega) dL_law_880 (k15_X12_lacks 1000 (by omega) (xs (x4 + 1 : Int32).toNatClampNeg) M1 hJ (by omega) ) (Nat.le_of_ble_eq_true rfl) (Nat.le_of_ble_eq_true rfl) w_1839 w_1840 w_1841 w_112 w_1842 (by decide +kernel) rfl (by decide) sh_175 rfl rfl (Nat.le_of_ble_eq_true rfl) (fun r M2 h2 => ?_)
  have jh2 := h2
  obtain ⟨⟨y2, rfl, ky2⟩, h2⟩ := h2
  have hJ := h2.2
  refine l3_icmp_eq 1456 dL_law_883 (by decide) (fun c => ?_) (fun c => absurd (Int32.toInt_inj.mp (show (y1 : Int32).toInt = (y2 : Int32).toInt by omega)) c)
  exact KK _ M2 hJ (by omega)
set_option maxRecDepth 100000 in
set_option maxHeartbeats 4000000 in
theorem lc_19 {l : Launch} {Z : li_Z} {b L kc : Nat} {xs : Nat → Int32} {x4 : Int32} {M : li_M} {Q : Option Value → li_M → Prop} (htr : l.stackTraces = false) (hk : kc ≤ 512) (hJ : li_J M) (v1 : vp_in (x4 + 1) L) (v2 : vp_in (x4 + 2) L) (v3 : vp_in (x4 + 3) L) (v4 : vp_in (x4 + 4) L) (hR0 : (M.1 1 1).toInt = 0) (hR1 : (M.1 3 1).toInt = 0) (hR2 : (M.1 5 0).toInt = 0) (hR3 : (M.1 5 1).toInt = 0) (hR4 : (M.1 13 0).toInt = 0) (hR5 : (M.1 13 1).toInt = 0) (hR6 : (M.1 13 2).toInt = 0) (hR7 : (M.1 21 3).toInt = 0) (hR8 : (M.1 21 4).toInt = 0) (hR9 : (M.1 163 7).toInt = 0) (hR10 : (M.1 171 5).toInt = 0) (hR11 : (M.1 175 1).toInt = 0) (hR12 : (M.1 175 4).toInt = 0) (hR13 : (M.1 175 7).toInt = 0) (hR14 : (M.1 175 9).toInt = 0) (hR15 : (M.1 175 23).toInt = 0) (hR16 : (M.1 175 38).toInt = 0) (hR17 : (M.1 175 43).toInt = 0) (hR18 : (M.1 176 18).toInt = 0) (hR19 : (M.1 176 19).toInt = 0) (hR20 : (M.1 176 20).toInt = 0) (Pwq_M : li_wq (M.1 192) ((M.1 175 35).toInt) (121) (0) (0)) (Pkz_M : ∀ i : Nat, (M.1 202 i).toInt = 0) (KK : ∀ (k : Nat) (M : li_M), li_J M → k ≤ kc + 1 → l3_T l Z b L xs k 1456 [(4, .int x4), (0, .ref b), (1, .ref (Z.2.2 0)), (2, .ref (Z.2.2 175)), (3, .ref (Z.2.2 204))] [] M Q) : l3_T l Z b L xs kc 888 [(4, .int x4), (0, .ref b), (1, .ref (Z.2.2 0)), (2, .ref (Z.2.2 175)), (3, .ref (Z.2.2 204))] [] M Q := by
  have rJ1 := J_sl1 (M := M) hJ
  have rJ4 := J_sl4 (M := M) hJ
  have rJ7 := J_sl7 (M := M) hJ
  have rJ9 := J_sl9 (M := M) hJ
  have rJ23 := J_sl23 (M := M) hJ
  have rJ38 := J_sl38 (M := M) hJ
  refine l3_aload_n 2 dL_law_888 rfl ?_
  refine l3_callV (n := 0) (As := []) (by omega) dL_law_889 (k15_X11_pool 1000 (by omega)  M (by first | omega | decide) (by first | omega | decide)) (Nat.le_of_ble_eq_true rfl) (Nat.le_of_ble_eq_true rfl) w_1031 w_1032 w_1033 w_101 w_1034 (by decide +kernel) rfl (by decide) sh_0 rfl rfl (Nat.le_of_ble_eq_true rfl) (fun r M1 h1 => ?_)
  obtain ⟨⟨y1, rfl, ky1⟩, h1⟩ := h1
  have hJ := l3_J hJ h1 (fun i h => by first | exact (h : False).elim | omega)
  have oM1_1_1 : (M1.1 1 1).toInt = (M.1 1 1).toInt := tl_slot (congrFun (h1.1 1 (fun h => by first | exact (h : False).elim | omega)) 1)
  have oM1_5_0 : (M1.1 5 0).toInt = (M.1 5 0).toInt := tl_slot (congrFun (h1.1 5 (fun h => by first | exact (h : False).elim | omega)) 0)
  have oM1_5_1 : (M1.1 5 1).toInt = (M.1 5 1).toInt := tl_slot (congrFun (h1.1 5 (fun h => by first | exact (h : False).elim | omega)) 1)
  have oM1_13_0 : (M1.1 13 0).toInt = (M.1 13 0).toInt := tl_slot (congrFun (h1.1 13 (fun h => by first | exact (h : False).elim | omega)) 0)
  have oM1_13_1 : (M1.1 13 1).toInt = (M.1 13 1).toInt := tl_slot (congrFun (h1.1 13 (fun h => by first | exact (h : False).elim | omega)) 1)
  have oM1_13_2 : (M1.1 13 2).toInt = (M.1 13 2).toInt := tl_slot (congrFun (h1.1 13 (fun h => by first | exact (h : False).elim | omega)) 2)
  have oM1_21_3 : (M1.1 21 3).toInt = (M.1 21 3).toInt := tl_slot (congrFun (h1.1 21 (fun h => by first | exact (h : False).elim | omega)) 3)
  have oM1_21_4 : (M1.1 21 4).toInt = (M.1 21 4).toInt := tl_slot (congrFun (h1.1 21 (fun h => by first | exact (h : False).elim | omega)) 4)
  have oM1_163_7 : (M1.1 163 7).toInt = (M.1 163 7).toInt := tl_slot (congrFun (h1.1 163 (fun h => by first | exact (h : False).elim | omega)) 7)
  have oM1_171_5 : (M1.1 171 5).toInt = (M.1 171 5).toInt := tl_slot (congrFun (h1.1 171 (fun h => by first | exact (h : False).elim | omega)) 5)
  have oM1_175_1 : (M1.1 175 1).toInt = (M.1 175 1).toInt := tl_slot (congrFun (h1.1 175 (fun h => by first | exact (h : False).elim | omega)) 1)
  have oM1_175_4 : (M1.1 175 4).toInt = (M.1 175 4).toInt := tl_slot (congrFun (h1.1 175 (fun h => by first | exact (h : False).elim | omega)) 4)
  have oM1_175_7 : (M1.1 175 7).toInt = (M.1 175 7).toInt := tl_slot (congrFun (h1.1 175 (fun h => by first | exact (h : False).elim | omega)) 7)
  have oM1_175_9 : (M1.1 175 9).toInt = (M.1 175 9).toInt := tl_slot (congrFun (h1.1 175 (fun h => by first | exact (h : False).elim | omega)) 9)
  have oM1_175_23 : (M1.1 175 23).toInt = (M.1 175 23).toInt := tl_slot (congrFun (h1.1 175 (fun h => by first | exact (h : False).elim | omega)) 23)
  have oM1_175_38 : (M1.1 175 38).toInt = (M.1 175 38).toInt := tl_slot (congrFun (h1.1 175 (fun h => by first | exact (h : False).elim | omega)) 38)
  have oM1_175_43 : (M1.1 175 43).toInt = (M.1 175 43).toInt := tl_slot (congrFun (h1.1 175 (fun h => by first | exact (h : False).elim | omega)) 43)
  have oM1_176_18 : (M1.1 176 18).toInt = (M.1 176 18).toInt := tl_slot (congrFun (h1.1 176 (fun h => by first | exact (h : False).elim | omega)) 18)
  have oM1_176_19 : (M1.1 176 19).toInt = (M.1 176 19).toInt := tl_slot (congrFun (h1.1 176 (fun h => by first | exact (h : False).elim | omega)) 19)
  have oM1_176_20 : (M1.1 176 20).toInt = (M.1 176 20).toInt := tl_slot (congrFun (h1.1 176 (fun h => by first | exact (h : False).elim | omega)) 20)
  have Pwq_M1 : li_wq (M1.1 192) ((M1.1 175 35).toInt) (121) (0) (0) := li_wq_mv (h1.1 192 (fun h => by first | exact (h : False).elim | omega)) (tl_slot (congrFun (h1.1 175 (fun h => by first | exact (h : False).elim | omega)) 35)) Pwq_M
  have Pkz_M1 : ∀ i : Nat, (M1.1 202 i).toInt = 0 := fun i => (tl_slot (congrFun (h1.1 202 (fun h => by first | exact (h : False).elim | omega)) i)).trans (Pkz_M i)
  refine l3_aload_n 3 dL_law_892 rfl ?_
  refine l3_callV (n := 0) (As := []) (by omega) dL_law_893 (k15_X12_pool 1000 (by omega)  M1 hJ (by omega) (by omega) ) (Nat.le_of_ble_eq_true rfl) (Nat.le_of_ble_eq_true rfl) w_1843 w_1844 w_1845 w_112 w_1846 (by decide +kernel) rfl (by decide) sh_175 rfl rfl (Nat.le_of_ble_eq_true rfl) (fun r M2 h2 => ?_)
  have jh2 := h2
  obtain ⟨⟨y2, rfl, ky2⟩, h2⟩ := h2
  have hJ := h2.2
  refine l3_icmp_eq 1456 dL_law_896 (by decide) (fun c => ?_) (fun c => absurd (Int32.toInt_inj.mp (show (y1 : Int32).toInt = (y2 : Int32).toInt by omega)) c)
  exact KK _ M2 hJ (by omega)
set_option maxRecDepth 100000 in
set_option maxHeartbeats 4000000 in
theorem lc_20 {l : Launch} {Z : li_Z} {b L kc : Nat} {xs : Nat → Int32} {x4 : Int32} {M : li_M} {Q : Option Value → li_M → Prop} (htr : l.stackTraces = false) (hk : kc ≤ 512) (hJ : li_J M) (v1 : vp_in (x4 + 1) L) (v2 : vp_in (x4 + 2) L) (v3 : vp_in (x4 + 3) L) (v4 : vp_in (x4 + 4) L) (hR0 : (M.1 1 1).toInt = 0) (hR1 : (M.1 3 1).toInt = 0) (hR2 : (M.1 5 0).toInt = 0) (hR3 : (M.1 5 1).toInt = 0) (hR4 : (M.1 13 0).toInt = 0) (hR5 : (M.1 13 1).toInt = 0) (hR6 : (M.1 13 2).toInt = 0) (hR7 : (M.1 21 3).toInt = 0) (hR8 : (M.1 21 4).toInt = 0) (hR9 : (M.1 163 7).toInt = 0) (hR10 : (M.1 171 5).toInt = 0) (hR11 : (M.1 175 1).toInt = 0) (hR12 : (M.1 175 4).toInt = 0) (hR13 : (M.1 175 7).toInt = 0) (hR14 : (M.1 175 9).toInt = 0) (hR15 : (M.1 175 23).toInt = 0) (hR16 : (M.1 175 38).toInt = 0) (hR17 : (M.1 175 43).toInt = 0) (hR18 : (M.1 176 18).toInt = 0) (hR19 : (M.1 176 19).toInt = 0) (hR20 : (M.1 176 20).toInt = 0) (Pwq_M : li_wq (M.1 192) ((M.1 175 35).toInt) (121) (0) (0)) (Pkz_M : ∀ i : Nat, (M.1 202 i).toInt = 0) (KK : ∀ (k : Nat) (M : li_M), li_J M → k ≤ kc + 1 → l3_T l Z b L xs k 1456 [(4, .int x4), (0, .ref b), (1, .ref (Z.2.2 0)), (2, .ref (Z.2.2 175)), (3, .ref (Z.2.2 204))] [] M Q) : l3_T l Z b L xs kc 901 [(4, .int x4), (0, .ref b), (1, .ref (Z.2.2 0)), (2, .ref (Z.2.2 175)), (3, .ref (Z.2.2 204))] [] M Q := by
  have rJ1 := J_sl1 (M := M) hJ
  have rJ4 := J_sl4 (M := M) hJ
  have rJ7 := J_sl7 (M := M) hJ
  have rJ9 := J_sl9 (M := M) hJ
  have rJ23 := J_sl23 (M := M) hJ
  have rJ38 := J_sl38 (M := M) hJ
  refine l3_aload_n 2 dL_law_901 rfl ?_
  refine l3_aload_n 1 dL_law_902 rfl ?_
  refine l3_iload 0 dL_law_903 rfl ?_
  refine l3_iconst 1 dL_law_905 (by decide) ?_
  refine l3_iadd dL_law_906 ?_
  refine l3_sld dL_law_907 v1 ?_
  refine l3_callV (n := 1) (As := [.int (xs (x4 + 1 : Int32).toNatClampNeg)]) (by omega) dL_law_908 (k15_X11_gifts 1000 (by omega) (xs (x4 + 1 : Int32).toNatClampNeg) M (by first | omega | decide) (by first | omega | decide)) (Nat.le_of_ble_eq_true rfl) (Nat.le_of_ble_eq_true rfl) w_1037 w_1038 w_1039 w_101 w_1040 (by decide +kernel) rfl (by decide) sh_0 rfl rfl (Nat.le_of_ble_eq_true rfl) (fun r M1 h1 => ?_)
  obtain ⟨⟨y1, rfl, ky1⟩, h1⟩ := h1
  have hJ := l3_J hJ h1 (fun i h => by first | exact (h : False).elim | omega)
  have oM1_1_1 : (M1.1 1 1).toInt = (M.1 1 1).toInt := tl_slot (congrFun (h1.1 1 (fun h => by first | exact (h : False).elim | omega)) 1)
  have oM1_5_0 : (M1.1 5 0).toInt = (M.1 5 0).toInt := tl_slot (congrFun (h1.1 5 (fun h => by first | exact (h : False).elim | omega)) 0)
  have oM1_5_1 : (M1.1 5 1).toInt = (M.1 5 1).toInt := tl_slot (congrFun (h1.1 5 (fun h => by first | exact (h : False).elim | omega)) 1)
  have oM1_13_0 : (M1.1 13 0).toInt = (M.1 13 0).toInt := tl_slot (congrFun (h1.1 13 (fun h => by first | exact (h : False).elim | omega)) 0)
  have oM1_13_1 : (M1.1 13 1).toInt = (M.1 13 1).toInt := tl_slot (congrFun (h1.1 13 (fun h => by first | exact (h : False).elim | omega)) 1)
  have oM1_13_2 : (M1.1 13 2).toInt = (M.1 13 2).toInt := tl_slot (congrFun (h1.1 13 (fun h => by first | exact (h : False).elim | omega)) 2)
  have oM1_21_3 : (M1.1 21 3).toInt = (M.1 21 3).toInt := tl_slot (congrFun (h1.1 21 (fun h => by first | exact (h : False).elim | omega)) 3)
  have oM1_21_4 : (M1.1 21 4).toInt = (M.1 21 4).toInt := tl_slot (congrFun (h1.1 21 (fun h => by first | exact (h : False).elim | omega)) 4)
  have oM1_163_7 : (M1.1 163 7).toInt = (M.1 163 7).toInt := tl_slot (congrFun (h1.1 163 (fun h => by first | exact (h : False).elim | omega)) 7)
  have oM1_171_5 : (M1.1 171 5).toInt = (M.1 171 5).toInt := tl_slot (congrFun (h1.1 171 (fun h => by first | exact (h : False).elim | omega)) 5)
  have oM1_175_1 : (M1.1 175 1).toInt = (M.1 175 1).toInt := tl_slot (congrFun (h1.1 175 (fun h => by first | exact (h : False).elim | omega)) 1)
  have oM1_175_4 : (M1.1 175 4).toInt = (M.1 175 4).toInt := tl_slot (congrFun (h1.1 175 (fun h => by first | exact (h : False).elim | omega)) 4)
  have oM1_175_7 : (M1.1 175 7).toInt = (M.1 175 7).toInt := tl_slot (congrFun (h1.1 175 (fun h => by first | exact (h : False).elim | omega)) 7)
  have oM1_175_9 : (M1.1 175 9).toInt = (M.1 175 9).toInt := tl_slot (congrFun (h1.1 175 (fun h => by first | exact (h : False).elim | omega)) 9)
  have oM1_175_23 : (M1.1 175 23).toInt = (M.1 175 23).toInt := tl_slot (congrFun (h1.1 175 (fun h => by first | exact (h : False).elim | omega)) 23)
  have oM1_175_38 : (M1.1 175 38).toInt = (M.1 175 38).toInt := tl_slot (congrFun (h1.1 175 (fun h => by first | exact (h : False).elim | omega)) 38)
  have oM1_175_43 : (M1.1 175 43).toInt = (M.1 175 43).toInt := tl_slot (congrFun (h1.1 175 (fun h => by first | exact (h : False).elim | omega)) 43)
  have oM1_176_18 : (M1.1 176 18).toInt = (M.1 176 18).toInt := tl_slot (congrFun (h1.1 176 (fun h => by first | exact (h : False).elim | omega)) 18)
  have oM1_176_19 : (M1.1 176 19).toInt = (M.1 176 19).toInt := tl_slot (congrFun (h1.1 176 (fun h => by first | exact (h : False).elim | omega)) 19)
  have oM1_176_20 : (M1.1 176 20).toInt = (M.1 176 20).toInt := tl_slot (congrFun (h1.1 176 (fun h => by first | exact (h : False).elim | omega)) 20)
  have Pwq_M1 : li_wq (M1.1 192) ((M1.1 175 35).toInt) (121) (0) (0) := li_wq_mv (h1.1 192 (fun h => by first | exact (h : False).elim | omega)) (tl_slot (congrFun (h1.1 175 (fun h => by first | exact (h : False).elim | omega)) 35)) Pwq_M
  have Pkz_M1 : ∀ i : Nat, (M1.1 202 i).toInt = 0 := fun i => (tl_slot (congrFun (h1.1 202 (fun h => by first | exact (h : False).elim | omega)) i)).trans (Pkz_M i)
  refine l3_aload_n 3 dL_law_911 rfl ?_
  refine l3_aload_n 1 dL_law_912 rfl ?_
  refine l3_iload 0 dL_law_913 rfl ?_
  refine l3_iconst 1 dL_law_915 (by decide) ?_
  refine l3_iadd dL_law_916 ?_
  refine l3_sld dL_law_917 v1 ?_
  refine l3_callV (n := 1) (As := [.int (xs (x4 + 1 : Int32).toNatClampNeg)]) (by omega) dL_law_918 (k15_X12_gifts 1000 (by omega) (xs (x4 + 1 : Int32).toNatClampNeg) M1 hJ (by omega) (by omega) ) (Nat.le_of_ble_eq_true rfl) (Nat.le_of_ble_eq_true rfl) w_1851 w_1852 w_1853 w_112 w_1854 (by decide +kernel) rfl (by decide) sh_175 rfl rfl (Nat.le_of_ble_eq_true rfl) (fun r M2 h2 => ?_)
  have jh2 := h2
  obtain ⟨⟨y2, rfl, ky2⟩, h2⟩ := h2
  have hJ := h2.2
  refine l3_icmp_eq 1456 dL_law_921 (by decide) (fun c => ?_) (fun c => absurd (Int32.toInt_inj.mp (show (y1 : Int32).toInt = (y2 : Int32).toInt by omega)) c)
  exact KK _ M2 hJ (by omega)
set_option maxRecDepth 100000 in
set_option maxHeartbeats 4000000 in
theorem lc_21 {l : Launch} {Z : li_Z} {b L kc : Nat} {xs : Nat → Int32} {x4 : Int32} {M : li_M} {Q : Option Value → li_M → Prop} (htr : l.stackTraces = false) (hk : kc ≤ 512) (hJ : li_J M) (v1 : vp_in (x4 + 1) L) (v2 : vp_in (x4 + 2) L) (v3 : vp_in (x4 + 3) L) (v4 : vp_in (x4 + 4) L) (hR0 : (M.1 1 1).toInt = 0) (hR1 : (M.1 3 1).toInt = 0) (hR2 : (M.1 5 0).toInt = 0) (hR3 : (M.1 5 1).toInt = 0) (hR4 : (M.1 13 0).toInt = 0) (hR5 : (M.1 13 1).toInt = 0) (hR6 : (M.1 13 2).toInt = 0) (hR7 : (M.1 21 3).toInt = 0) (hR8 : (M.1 21 4).toInt = 0) (hR9 : (M.1 163 7).toInt = 0) (hR10 : (M.1 171 5).toInt = 0) (hR11 : (M.1 175 1).toInt = 0) (hR12 : (M.1 175 4).toInt = 0) (hR13 : (M.1 175 7).toInt = 0) (hR14 : (M.1 175 9).toInt = 0) (hR15 : (M.1 175 23).toInt = 0) (hR16 : (M.1 175 38).toInt = 0) (hR17 : (M.1 175 43).toInt = 0) (hR18 : (M.1 176 18).toInt = 0) (hR19 : (M.1 176 19).toInt = 0) (hR20 : (M.1 176 20).toInt = 0) (Pwq_M : li_wq (M.1 192) ((M.1 175 35).toInt) (121) (0) (0)) (Pkz_M : ∀ i : Nat, (M.1 202 i).toInt = 0) (KK : ∀ (k : Nat) (M : li_M), li_J M → k ≤ kc + 1 → l3_T l Z b L xs k 1456 [(4, .int x4), (0, .ref b), (1, .ref (Z.2.2 0)), (2, .ref (Z.2.2 175)), (3, .ref (Z.2.2 204))] [] M Q) : l3_T l Z b L xs kc 926 [(4, .int x4), (0, .ref b), (1, .ref (Z.2.2 0)), (2, .ref (Z.2.2 175)), (3, .ref (Z.2.2 204))] [] M Q := by
  have rJ1 := J_sl1 (M := M) hJ
  have rJ4 := J_sl4 (M := M) hJ
  have rJ7 := J_sl7 (M := M) hJ
  have rJ9 := J_sl9 (M := M) hJ
  have rJ23 := J_sl23 (M := M) hJ
  have rJ38 := J_sl38 (M := M) hJ
  refine l3_aload_n 2 dL_law_926 rfl ?_
  refine l3_callV (n := 0) (As := []) (by omega) dL_law_927 (k15_X11_mute 1000 (by omega)  M (by first | omega | decide) (by first | omega | decide)) (Nat.le_of_ble_eq_true rfl) (Nat.le_of_ble_eq_true rfl) w_1049 w_1050 w_1051 w_101 w_1052 (by decide +kernel) rfl (by decide) sh_0 rfl rfl (Nat.le_of_ble_eq_true rfl) (fun r M1 h1 => ?_)
  obtain ⟨⟨y1, rfl, ky1⟩, h1⟩ := h1
  have hJ := l3_J hJ h1 (fun i h => by first | exact (h : False).elim | omega)
  have oM1_1_1 : (M1.1 1 1).toInt = (M.1 1 1).toInt := tl_slot (congrFun (h1.1 1 (fun h => by first | exact (h : False).elim | omega)) 1)
  have oM1_3_1 : (M1.1 3 1).toInt = (M.1 3 1).toInt := tl_slot (congrFun (h1.1 3 (fun h => by first | exact (h : False).elim | omega)) 1)
  have oM1_5_0 : (M1.1 5 0).toInt = (M.1 5 0).toInt := tl_slot (congrFun (h1.1 5 (fun h => by first | exact (h : False).elim | omega)) 0)
  have oM1_5_1 : (M1.1 5 1).toInt = (M.1 5 1).toInt := tl_slot (congrFun (h1.1 5 (fun h => by first | exact (h : False).elim | omega)) 1)
  have oM1_13_0 : (M1.1 13 0).toInt = (M.1 13 0).toInt := tl_slot (congrFun (h1.1 13 (fun h => by first | exact (h : False).elim | omega)) 0)
  have oM1_13_1 : (M1.1 13 1).toInt = (M.1 13 1).toInt := tl_slot (congrFun (h1.1 13 (fun h => by first | exact (h : False).elim | omega)) 1)
  have oM1_13_2 : (M1.1 13 2).toInt = (M.1 13 2).toInt := tl_slot (congrFun (h1.1 13 (fun h => by first | exact (h : False).elim | omega)) 2)
  have oM1_21_3 : (M1.1 21 3).toInt = (M.1 21 3).toInt := tl_slot (congrFun (h1.1 21 (fun h => by first | exact (h : False).elim | omega)) 3)
  have oM1_21_4 : (M1.1 21 4).toInt = (M.1 21 4).toInt := tl_slot (congrFun (h1.1 21 (fun h => by first | exact (h : False).elim | omega)) 4)
  have oM1_163_7 : (M1.1 163 7).toInt = (M.1 163 7).toInt := tl_slot (congrFun (h1.1 163 (fun h => by first | exact (h : False).elim | omega)) 7)
  have oM1_171_5 : (M1.1 171 5).toInt = (M.1 171 5).toInt := tl_slot (congrFun (h1.1 171 (fun h => by first | exact (h : False).elim | omega)) 5)
  have oM1_175_1 : (M1.1 175 1).toInt = (M.1 175 1).toInt := tl_slot (congrFun (h1.1 175 (fun h => by first | exact (h : False).elim | omega)) 1)
  have oM1_175_4 : (M1.1 175 4).toInt = (M.1 175 4).toInt := tl_slot (congrFun (h1.1 175 (fun h => by first | exact (h : False).elim | omega)) 4)
  have oM1_175_7 : (M1.1 175 7).toInt = (M.1 175 7).toInt := tl_slot (congrFun (h1.1 175 (fun h => by first | exact (h : False).elim | omega)) 7)
  have oM1_175_9 : (M1.1 175 9).toInt = (M.1 175 9).toInt := tl_slot (congrFun (h1.1 175 (fun h => by first | exact (h : False).elim | omega)) 9)
  have oM1_175_23 : (M1.1 175 23).toInt = (M.1 175 23).toInt := tl_slot (congrFun (h1.1 175 (fun h => by first | exact (h : False).elim | omega)) 23)
  have oM1_175_38 : (M1.1 175 38).toInt = (M.1 175 38).toInt := tl_slot (congrFun (h1.1 175 (fun h => by first | exact (h : False).elim | omega)) 38)
  have oM1_175_43 : (M1.1 175 43).toInt = (M.1 175 43).toInt := tl_slot (congrFun (h1.1 175 (fun h => by first | exact (h : False).elim | omega)) 43)
  have oM1_176_18 : (M1.1 176 18).toInt = (M.1 176 18).toInt := tl_slot (congrFun (h1.1 176 (fun h => by first | exact (h : False).elim | omega)) 18)
  have oM1_176_19 : (M1.1 176 19).toInt = (M.1 176 19).toInt := tl_slot (congrFun (h1.1 176 (fun h => by first | exact (h : False).elim | omega)) 19)
  have oM1_176_20 : (M1.1 176 20).toInt = (M.1 176 20).toInt := tl_slot (congrFun (h1.1 176 (fun h => by first | exact (h : False).elim | omega)) 20)
  have Pwq_M1 : li_wq (M1.1 192) ((M1.1 175 35).toInt) (121) (0) (0) := li_wq_mv (h1.1 192 (fun h => by first | exact (h : False).elim | omega)) (tl_slot (congrFun (h1.1 175 (fun h => by first | exact (h : False).elim | omega)) 35)) Pwq_M
  have Pkz_M1 : ∀ i : Nat, (M1.1 202 i).toInt = 0 := fun i => (tl_slot (congrFun (h1.1 202 (fun h => by first | exact (h : False).elim | omega)) i)).trans (Pkz_M i)
  refine l3_aload_n 3 dL_law_930 rfl ?_
  refine l3_callV (n := 0) (As := []) (by omega) dL_law_931 (k15_X12_mute 1000 (by omega)  M1 hJ (by omega) ) (Nat.le_of_ble_eq_true rfl) (Nat.le_of_ble_eq_true rfl) w_1855 w_1856 w_1857 w_112 w_1858 (by decide +kernel) rfl (by decide) sh_175 rfl rfl (Nat.le_of_ble_eq_true rfl) (fun r M2 h2 => ?_)
  have jh2 := h2
  obtain ⟨⟨y2, rfl, ky2⟩, h2⟩ := h2
  have hJ := h2.2
  refine l3_icmp_eq 1456 dL_law_934 (by decide) (fun c => ?_) (fun c => absurd (Int32.toInt_inj.mp (show (y1 : Int32).toInt = (y2 : Int32).toInt by omega)) c)
  exact KK _ M2 hJ (by omega)
set_option maxRecDepth 100000 in
set_option maxHeartbeats 4000000 in
theorem lc_22 {l : Launch} {Z : li_Z} {b L kc : Nat} {xs : Nat → Int32} {x4 : Int32} {M : li_M} {Q : Option Value → li_M → Prop} (htr : l.stackTraces = false) (hk : kc ≤ 512) (hJ : li_J M) (v1 : vp_in (x4 + 1) L) (v2 : vp_in (x4 + 2) L) (v3 : vp_in (x4 + 3) L) (v4 : vp_in (x4 + 4) L) (hR0 : (M.1 1 1).toInt = 0) (hR1 : (M.1 3 1).toInt = 0) (hR2 : (M.1 5 0).toInt = 0) (hR3 : (M.1 5 1).toInt = 0) (hR4 : (M.1 13 0).toInt = 0) (hR5 : (M.1 13 1).toInt = 0) (hR6 : (M.1 13 2).toInt = 0) (hR7 : (M.1 21 3).toInt = 0) (hR8 : (M.1 21 4).toInt = 0) (hR9 : (M.1 163 7).toInt = 0) (hR10 : (M.1 171 5).toInt = 0) (hR11 : (M.1 175 1).toInt = 0) (hR12 : (M.1 175 4).toInt = 0) (hR13 : (M.1 175 7).toInt = 0) (hR14 : (M.1 175 9).toInt = 0) (hR15 : (M.1 175 23).toInt = 0) (hR16 : (M.1 175 38).toInt = 0) (hR17 : (M.1 175 43).toInt = 0) (hR18 : (M.1 176 18).toInt = 0) (hR19 : (M.1 176 19).toInt = 0) (hR20 : (M.1 176 20).toInt = 0) (Pwq_M : li_wq (M.1 192) ((M.1 175 35).toInt) (121) (0) (0)) (Pkz_M : ∀ i : Nat, (M.1 202 i).toInt = 0) (KK : ∀ (k : Nat) (M : li_M), li_J M → k ≤ kc + 1 → l3_T l Z b L xs k 1456 [(4, .int x4), (0, .ref b), (1, .ref (Z.2.2 0)), (2, .ref (Z.2.2 175)), (3, .ref (Z.2.2 204))] [] M Q) : l3_T l Z b L xs kc 939 [(4, .int x4), (0, .ref b), (1, .ref (Z.2.2 0)), (2, .ref (Z.2.2 175)), (3, .ref (Z.2.2 204))] [] M Q := by
  have rJ1 := J_sl1 (M := M) hJ
  have rJ4 := J_sl4 (M := M) hJ
  have rJ7 := J_sl7 (M := M) hJ
  have rJ9 := J_sl9 (M := M) hJ
  have rJ23 := J_sl23 (M := M) hJ
  have rJ38 := J_sl38 (M := M) hJ
  refine l3_aload_n 2 dL_law_939 rfl ?_
  refine l3_aload_n 1 dL_law_940 rfl ?_
  refine l3_iload 0 dL_law_941 rfl ?_
  refine l3_iconst 1 dL_law_943 (by decide) ?_
  refine l3_iadd dL_law_944 ?_
  refine l3_sld dL_law_945 v1 ?_
  refine l3_aload_n 1 dL_law_946 rfl ?_
  refine l3_iload 0 dL_law_947 rfl ?_
  refine l3_iconst 2 dL_law_949 (by decide) ?_
  refine l3_iadd dL_law_950 ?_
  refine l3_sld dL_law_951 v2 ?_
  refine l3_aload_n 1 dL_law_952 rfl ?_
  refine l3_iload 0 dL_law_953 rfl ?_
  refine l3_iconst 3 dL_law_955 (by decide) ?_
  refine l3_iadd dL_law_956 ?_
  refine l3_sld dL_law_957 v3 ?_
  refine l3_callV (n := 3) (As := [.int (xs (x4 + 1 : Int32).toNatClampNeg), .int (xs (x4 + 2 : Int32).toNatClampNeg), .int (xs (x4 + 3 : Int32).toNatClampNeg)]) (by omega) dL_law_958 (k15_X11_relay 1000 (by omega) (xs (x4 + 1 : Int32).toNatClampNeg) (xs (x4 + 2 : Int32).toNatClampNeg) (xs (x4 + 3 : Int32).toNatClampNeg) M (by first | omega | decide)) (Nat.le_of_ble_eq_true rfl) (Nat.le_of_ble_eq_true rfl) w_1057 w_1058 w_1059 w_101 w_1060 (by decide +kernel) rfl (by decide) sh_0 rfl rfl (Nat.le_of_ble_eq_true rfl) (fun r M1 h1 => ?_)
  obtain ⟨⟨y1, rfl, ky1⟩, h1⟩ := h1
  have hJ := l3_J hJ h1 (fun i h => by first | exact (h : False).elim | omega)
  have oM1_1_1 : (M1.1 1 1).toInt = (M.1 1 1).toInt := tl_slot (congrFun (h1.1 1 (fun h => by first | exact (h : False).elim | omega)) 1)
  have oM1_3_1 : (M1.1 3 1).toInt = (M.1 3 1).toInt := tl_slot (congrFun (h1.1 3 (fun h => by first | exact (h : False).elim | omega)) 1)
  have oM1_5_0 : (M1.1 5 0).toInt = (M.1 5 0).toInt := tl_slot (congrFun (h1.1 5 (fun h => by first | exact (h : False).elim | omega)) 0)
  have oM1_5_1 : (M1.1 5 1).toInt = (M.1 5 1).toInt := tl_slot (congrFun (h1.1 5 (fun h => by first | exact (h : False).elim | omega)) 1)
  have oM1_13_0 : (M1.1 13 0).toInt = (M.1 13 0).toInt := tl_slot (congrFun (h1.1 13 (fun h => by first | exact (h : False).elim | omega)) 0)
  have oM1_13_1 : (M1.1 13 1).toInt = (M.1 13 1).toInt := tl_slot (congrFun (h1.1 13 (fun h => by first | exact (h : False).elim | omega)) 1)
  have oM1_13_2 : (M1.1 13 2).toInt = (M.1 13 2).toInt := tl_slot (congrFun (h1.1 13 (fun h => by first | exact (h : False).elim | omega)) 2)
  have oM1_21_3 : (M1.1 21 3).toInt = (M.1 21 3).toInt := tl_slot (congrFun (h1.1 21 (fun h => by first | exact (h : False).elim | omega)) 3)
  have oM1_21_4 : (M1.1 21 4).toInt = (M.1 21 4).toInt := tl_slot (congrFun (h1.1 21 (fun h => by first | exact (h : False).elim | omega)) 4)
  have oM1_163_7 : (M1.1 163 7).toInt = (M.1 163 7).toInt := tl_slot (congrFun (h1.1 163 (fun h => by first | exact (h : False).elim | omega)) 7)
  have oM1_171_5 : (M1.1 171 5).toInt = (M.1 171 5).toInt := tl_slot (congrFun (h1.1 171 (fun h => by first | exact (h : False).elim | omega)) 5)
  have oM1_175_1 : (M1.1 175 1).toInt = (M.1 175 1).toInt := tl_slot (congrFun (h1.1 175 (fun h => by first | exact (h : False).elim | omega)) 1)
  have oM1_175_4 : (M1.1 175 4).toInt = (M.1 175 4).toInt := tl_slot (congrFun (h1.1 175 (fun h => by first | exact (h : False).elim | omega)) 4)
  have oM1_175_7 : (M1.1 175 7).toInt = (M.1 175 7).toInt := tl_slot (congrFun (h1.1 175 (fun h => by first | exact (h : False).elim | omega)) 7)
  have oM1_175_9 : (M1.1 175 9).toInt = (M.1 175 9).toInt := tl_slot (congrFun (h1.1 175 (fun h => by first | exact (h : False).elim | omega)) 9)
  have oM1_175_23 : (M1.1 175 23).toInt = (M.1 175 23).toInt := tl_slot (congrFun (h1.1 175 (fun h => by first | exact (h : False).elim | omega)) 23)
  have oM1_175_38 : (M1.1 175 38).toInt = (M.1 175 38).toInt := tl_slot (congrFun (h1.1 175 (fun h => by first | exact (h : False).elim | omega)) 38)
  have oM1_175_43 : (M1.1 175 43).toInt = (M.1 175 43).toInt := tl_slot (congrFun (h1.1 175 (fun h => by first | exact (h : False).elim | omega)) 43)
  have oM1_176_18 : (M1.1 176 18).toInt = (M.1 176 18).toInt := tl_slot (congrFun (h1.1 176 (fun h => by first | exact (h : False).elim | omega)) 18)
  have oM1_176_19 : (M1.1 176 19).toInt = (M.1 176 19).toInt := tl_slot (congrFun (h1.1 176 (fun h => by first | exact (h : False).elim | omega)) 19)
  have oM1_176_20 : (M1.1 176 20).toInt = (M.1 176 20).toInt := tl_slot (congrFun (h1.1 176 (fun h => by first | exact (h : False).elim | omega)) 20)
  have Pwq_M1 : li_wq (M1.1 192) ((M1.1 175 35).toInt) (121) (0) (0) := li_wq_mv (h1.1 192 (fun h => by first | exact (h : False).elim | omega)) (tl_slot (congrFun (h1.1 175 (fun h => by first | exact (h : False).elim | omega)) 35)) Pwq_M
  have Pkz_M1 : ∀ i : Nat, (M1.1 202 i).toInt = 0 := fun i => (tl_slot (congrFun (h1.1 202 (fun h => by first | exact (h : False).elim | omega)) i)).trans (Pkz_M i)
  refine l3_aload_n 3 dL_law_961 rfl ?_
  refine l3_aload_n 1 dL_law_962 rfl ?_
  refine l3_iload 0 dL_law_963 rfl ?_
  refine l3_iconst 1 dL_law_965 (by decide) ?_
  refine l3_iadd dL_law_966 ?_
  refine l3_sld dL_law_967 v1 ?_
  refine l3_aload_n 1 dL_law_968 rfl ?_
  refine l3_iload 0 dL_law_969 rfl ?_
  refine l3_iconst 2 dL_law_971 (by decide) ?_
  refine l3_iadd dL_law_972 ?_
  refine l3_sld dL_law_973 v2 ?_
  refine l3_aload_n 1 dL_law_974 rfl ?_
  refine l3_iload 0 dL_law_975 rfl ?_
  refine l3_iconst 3 dL_law_977 (by decide) ?_
  refine l3_iadd dL_law_978 ?_
  refine l3_sld dL_law_979 v3 ?_
  refine l3_callV (n := 3) (As := [.int (xs (x4 + 1 : Int32).toNatClampNeg), .int (xs (x4 + 2 : Int32).toNatClampNeg), .int (xs (x4 + 3 : Int32).toNatClampNeg)]) (by omega) dL_law_980 (k15_X12_relay 1000 (by omega) (xs (x4 + 1 : Int32).toNatClampNeg) (xs (x4 + 2 : Int32).toNatClampNeg) (xs (x4 + 3 : Int32).toNatClampNeg) M1 hJ (by omega) ) (Nat.le_of_ble_eq_true rfl) (Nat.le_of_ble_eq_true rfl) w_1859 w_1860 w_1861 w_112 w_1862 (by decide +kernel) rfl (by decide) sh_175 rfl rfl (Nat.le_of_ble_eq_true rfl) (fun r M2 h2 => ?_)
  have jh2 := h2
  obtain ⟨⟨y2, rfl, ky2⟩, h2⟩ := h2
  have hJ := h2.2
  refine l3_icmp_eq 1456 dL_law_983 (by decide) (fun c => ?_) (fun c => absurd (Int32.toInt_inj.mp (show (y1 : Int32).toInt = (y2 : Int32).toInt by omega)) c)
  exact KK _ M2 hJ (by omega)
set_option maxRecDepth 100000 in
set_option maxHeartbeats 4000000 in
theorem lc_23 {l : Launch} {Z : li_Z} {b L kc : Nat} {xs : Nat → Int32} {x4 : Int32} {M : li_M} {Q : Option Value → li_M → Prop} (htr : l.stackTraces = false) (hk : kc ≤ 512) (hJ : li_J M) (v1 : vp_in (x4 + 1) L) (v2 : vp_in (x4 + 2) L) (v3 : vp_in (x4 + 3) L) (v4 : vp_in (x4 + 4) L) (hR0 : (M.1 1 1).toInt = 0) (hR1 : (M.1 3 1).toInt = 0) (hR2 : (M.1 5 0).toInt = 0) (hR3 : (M.1 5 1).toInt = 0) (hR4 : (M.1 13 0).toInt = 0) (hR5 : (M.1 13 1).toInt = 0) (hR6 : (M.1 13 2).toInt = 0) (hR7 : (M.1 21 3).toInt = 0) (hR8 : (M.1 21 4).toInt = 0) (hR9 : (M.1 163 7).toInt = 0) (hR10 : (M.1 171 5).toInt = 0) (hR11 : (M.1 175 1).toInt = 0) (hR12 : (M.1 175 4).toInt = 0) (hR13 : (M.1 175 7).toInt = 0) (hR14 : (M.1 175 9).toInt = 0) (hR15 : (M.1 175 23).toInt = 0) (hR16 : (M.1 175 38).toInt = 0) (hR17 : (M.1 175 43).toInt = 0) (hR18 : (M.1 176 18).toInt = 0) (hR19 : (M.1 176 19).toInt = 0) (hR20 : (M.1 176 20).toInt = 0) (Pwq_M : li_wq (M.1 192) ((M.1 175 35).toInt) (121) (0) (0)) (Pkz_M : ∀ i : Nat, (M.1 202 i).toInt = 0) (KK : ∀ (k : Nat) (M : li_M), li_J M → k ≤ kc + 1 → l3_T l Z b L xs k 1456 [(4, .int x4), (0, .ref b), (1, .ref (Z.2.2 0)), (2, .ref (Z.2.2 175)), (3, .ref (Z.2.2 204))] [] M Q) : l3_T l Z b L xs kc 988 [(4, .int x4), (0, .ref b), (1, .ref (Z.2.2 0)), (2, .ref (Z.2.2 175)), (3, .ref (Z.2.2 204))] [] M Q := by
  have rJ1 := J_sl1 (M := M) hJ
  have rJ4 := J_sl4 (M := M) hJ
  have rJ7 := J_sl7 (M := M) hJ
  have rJ9 := J_sl9 (M := M) hJ
  have rJ23 := J_sl23 (M := M) hJ
  have rJ38 := J_sl38 (M := M) hJ
  refine l3_aload_n 2 dL_law_988 rfl ?_
  refine l3_aload_n 1 dL_law_989 rfl ?_
  refine l3_iload 0 dL_law_990 rfl ?_
  refine l3_iconst 1 dL_law_992 (by decide) ?_
  refine l3_iadd dL_law_993 ?_
  refine l3_sld dL_law_994 v1 ?_
  refine l3_aload_n 1 dL_law_995 rfl ?_
  refine l3_iload 0 dL_law_996 rfl ?_
  refine l3_iconst 2 dL_law_998 (by decide) ?_
  refine l3_iadd dL_law_999 ?_
  refine l3_sld dL_law_1000 v2 ?_
  refine l3_aload_n 1 dL_law_1001 rfl ?_
  refine l3_iload 0 dL_law_1002 rfl ?_
  refine l3_iconst 3 dL_law_1004 (by decide) ?_
  refine l3_iadd dL_law_1005 ?_
  refine l3_sld dL_law_1006 v3 ?_
  refine l3_callV (n := 3) (As := [.int (xs (x4 + 1 : Int32).toNatClampNeg), .int (xs (x4 + 2 : Int32).toNatClampNeg), .int (xs (x4 + 3 : Int32).toNatClampNeg)]) (by omega) dL_law_1007 (k15_X11_criers 1000 (by omega) (xs (x4 + 1 : Int32).toNatClampNeg) (xs (x4 + 2 : Int32).toNatClampNeg) (xs (x4 + 3 : Int32).toNatClampNeg) M (by first | omega | decide)) (Nat.le_of_ble_eq_true rfl) (Nat.le_of_ble_eq_true rfl) w_1086 w_1087 w_1088 w_101 w_1089 (by decide +kernel) rfl (by decide) sh_0 rfl rfl (Nat.le_of_ble_eq_true rfl) (fun r M1 h1 => ?_)
  obtain ⟨⟨y1, rfl, ky1⟩, h1⟩ := h1
  have hJ := l3_J hJ h1 (fun i h => by first | exact (h : False).elim | omega)
  have oM1_1_1 : (M1.1 1 1).toInt = (M.1 1 1).toInt := tl_slot (congrFun (h1.1 1 (fun h => by first | exact (h : False).elim | omega)) 1)
  have oM1_3_1 : (M1.1 3 1).toInt = (M.1 3 1).toInt := tl_slot (congrFun (h1.1 3 (fun h => by first | exact (h : False).elim | omega)) 1)
  have oM1_5_0 : (M1.1 5 0).toInt = (M.1 5 0).toInt := tl_slot (congrFun (h1.1 5 (fun h => by first | exact (h : False).elim | omega)) 0)
  have oM1_5_1 : (M1.1 5 1).toInt = (M.1 5 1).toInt := tl_slot (congrFun (h1.1 5 (fun h => by first | exact (h : False).elim | omega)) 1)
  have oM1_13_0 : (M1.1 13 0).toInt = (M.1 13 0).toInt := tl_slot (congrFun (h1.1 13 (fun h => by first | exact (h : False).elim | omega)) 0)
  have oM1_13_1 : (M1.1 13 1).toInt = (M.1 13 1).toInt := tl_slot (congrFun (h1.1 13 (fun h => by first | exact (h : False).elim | omega)) 1)
  have oM1_13_2 : (M1.1 13 2).toInt = (M.1 13 2).toInt := tl_slot (congrFun (h1.1 13 (fun h => by first | exact (h : False).elim | omega)) 2)
  have oM1_21_3 : (M1.1 21 3).toInt = (M.1 21 3).toInt := tl_slot (congrFun (h1.1 21 (fun h => by first | exact (h : False).elim | omega)) 3)
  have oM1_21_4 : (M1.1 21 4).toInt = (M.1 21 4).toInt := tl_slot (congrFun (h1.1 21 (fun h => by first | exact (h : False).elim | omega)) 4)
  have oM1_163_7 : (M1.1 163 7).toInt = (M.1 163 7).toInt := tl_slot (congrFun (h1.1 163 (fun h => by first | exact (h : False).elim | omega)) 7)
  have oM1_171_5 : (M1.1 171 5).toInt = (M.1 171 5).toInt := tl_slot (congrFun (h1.1 171 (fun h => by first | exact (h : False).elim | omega)) 5)
  have oM1_175_1 : (M1.1 175 1).toInt = (M.1 175 1).toInt := tl_slot (congrFun (h1.1 175 (fun h => by first | exact (h : False).elim | omega)) 1)
  have oM1_175_4 : (M1.1 175 4).toInt = (M.1 175 4).toInt := tl_slot (congrFun (h1.1 175 (fun h => by first | exact (h : False).elim | omega)) 4)
  have oM1_175_7 : (M1.1 175 7).toInt = (M.1 175 7).toInt := tl_slot (congrFun (h1.1 175 (fun h => by first | exact (h : False).elim | omega)) 7)
  have oM1_175_9 : (M1.1 175 9).toInt = (M.1 175 9).toInt := tl_slot (congrFun (h1.1 175 (fun h => by first | exact (h : False).elim | omega)) 9)
  have oM1_175_23 : (M1.1 175 23).toInt = (M.1 175 23).toInt := tl_slot (congrFun (h1.1 175 (fun h => by first | exact (h : False).elim | omega)) 23)
  have oM1_175_38 : (M1.1 175 38).toInt = (M.1 175 38).toInt := tl_slot (congrFun (h1.1 175 (fun h => by first | exact (h : False).elim | omega)) 38)
  have oM1_175_43 : (M1.1 175 43).toInt = (M.1 175 43).toInt := tl_slot (congrFun (h1.1 175 (fun h => by first | exact (h : False).elim | omega)) 43)
  have oM1_176_18 : (M1.1 176 18).toInt = (M.1 176 18).toInt := tl_slot (congrFun (h1.1 176 (fun h => by first | exact (h : False).elim | omega)) 18)
  have oM1_176_19 : (M1.1 176 19).toInt = (M.1 176 19).toInt := tl_slot (congrFun (h1.1 176 (fun h => by first | exact (h : False).elim | omega)) 19)
  have oM1_176_20 : (M1.1 176 20).toInt = (M.1 176 20).toInt := tl_slot (congrFun (h1.1 176 (fun h => by first | exact (h : False).elim | omega)) 20)
  have Pwq_M1 : li_wq (M1.1 192) ((M1.1 175 35).toInt) (121) (0) (0) := li_wq_mv (h1.1 192 (fun h => by first | exact (h : False).elim | omega)) (tl_slot (congrFun (h1.1 175 (fun h => by first | exact (h : False).elim | omega)) 35)) Pwq_M
  have Pkz_M1 : ∀ i : Nat, (M1.1 202 i).toInt = 0 := fun i => (tl_slot (congrFun (h1.1 202 (fun h => by first | exact (h : False).elim | omega)) i)).trans (Pkz_M i)
  refine l3_aload_n 3 dL_law_1010 rfl ?_
  refine l3_aload_n 1 dL_law_1011 rfl ?_
  refine l3_iload 0 dL_law_1012 rfl ?_
  refine l3_iconst 1 dL_law_1014 (by decide) ?_
  refine l3_iadd dL_law_1015 ?_
  refine l3_sld dL_law_1016 v1 ?_
  refine l3_aload_n 1 dL_law_1017 rfl ?_
  refine l3_iload 0 dL_law_1018 rfl ?_
  refine l3_iconst 2 dL_law_1020 (by decide) ?_
  refine l3_iadd dL_law_1021 ?_
  refine l3_sld dL_law_1022 v2 ?_
  refine l3_aload_n 1 dL_law_1023 rfl ?_
  refine l3_iload 0 dL_law_1024 rfl ?_
  refine l3_iconst 3 dL_law_1026 (by decide) ?_
  refine l3_iadd dL_law_1027 ?_
  refine l3_sld dL_law_1028 v3 ?_
  refine l3_callV (n := 3) (As := [.int (xs (x4 + 1 : Int32).toNatClampNeg), .int (xs (x4 + 2 : Int32).toNatClampNeg), .int (xs (x4 + 3 : Int32).toNatClampNeg)]) (by omega) dL_law_1029 (k15_X12_criers 1000 (by omega) (xs (x4 + 1 : Int32).toNatClampNeg) (xs (x4 + 2 : Int32).toNatClampNeg) (xs (x4 + 3 : Int32).toNatClampNeg) M1 hJ (by omega) ) (Nat.le_of_ble_eq_true rfl) (Nat.le_of_ble_eq_true rfl) w_1872 w_1873 w_1874 w_112 w_1875 (by decide +kernel) rfl (by decide) sh_175 rfl rfl (Nat.le_of_ble_eq_true rfl) (fun r M2 h2 => ?_)
  have jh2 := h2
  obtain ⟨⟨y2, rfl, ky2⟩, h2⟩ := h2
  have hJ := h2.2
  refine l3_icmp_eq 1456 dL_law_1032 (by decide) (fun c => ?_) (fun c => absurd (Int32.toInt_inj.mp (show (y1 : Int32).toInt = (y2 : Int32).toInt by omega)) c)
  exact KK _ M2 hJ (by omega)
set_option maxRecDepth 100000 in
set_option maxHeartbeats 4000000 in
theorem lc_24 {l : Launch} {Z : li_Z} {b L kc : Nat} {xs : Nat → Int32} {x4 : Int32} {M : li_M} {Q : Option Value → li_M → Prop} (htr : l.stackTraces = false) (hk : kc ≤ 512) (hJ : li_J M) (v1 : vp_in (x4 + 1) L) (v2 : vp_in (x4 + 2) L) (v3 : vp_in (x4 + 3) L) (v4 : vp_in (x4 + 4) L) (hR0 : (M.1 1 1).toInt = 0) (hR1 : (M.1 3 1).toInt = 0) (hR2 : (M.1 5 0).toInt = 0) (hR3 : (M.1 5 1).toInt = 0) (hR4 : (M.1 13 0).toInt = 0) (hR5 : (M.1 13 1).toInt = 0) (hR6 : (M.1 13 2).toInt = 0) (hR7 : (M.1 21 3).toInt = 0) (hR8 : (M.1 21 4).toInt = 0) (hR9 : (M.1 163 7).toInt = 0) (hR10 : (M.1 171 5).toInt = 0) (hR11 : (M.1 175 1).toInt = 0) (hR12 : (M.1 175 4).toInt = 0) (hR13 : (M.1 175 7).toInt = 0) (hR14 : (M.1 175 9).toInt = 0) (hR15 : (M.1 175 23).toInt = 0) (hR16 : (M.1 175 38).toInt = 0) (hR17 : (M.1 175 43).toInt = 0) (hR18 : (M.1 176 18).toInt = 0) (hR19 : (M.1 176 19).toInt = 0) (hR20 : (M.1 176 20).toInt = 0) (Pwq_M : li_wq (M.1 192) ((M.1 175 35).toInt) (121) (0) (0)) (Pkz_M : ∀ i : Nat, (M.1 202 i).toInt = 0) (KK : ∀ (k : Nat) (M : li_M), li_J M → k ≤ kc + 1 → l3_T l Z b L xs k 1456 [(4, .int x4), (0, .ref b), (1, .ref (Z.2.2 0)), (2, .ref (Z.2.2 175)), (3, .ref (Z.2.2 204))] [] M Q) : l3_T l Z b L xs kc 1037 [(4, .int x4), (0, .ref b), (1, .ref (Z.2.2 0)), (2, .ref (Z.2.2 175)), (3, .ref (Z.2.2 204))] [] M Q := by
  have rJ1 := J_sl1 (M := M) hJ
  have rJ4 := J_sl4 (M := M) hJ
  have rJ7 := J_sl7 (M := M) hJ
  have rJ9 := J_sl9 (M := M) hJ
  have rJ23 := J_sl23 (M := M) hJ
  have rJ38 := J_sl38 (M := M) hJ
  refine l3_aload_n 2 dL_law_1037 rfl ?_
  refine l3_aload_n 1 dL_law_1038 rfl ?_
  refine l3_iload 0 dL_law_1039 rfl ?_
  refine l3_iconst 1 dL_law_1041 (by decide) ?_
  refine l3_iadd dL_law_1042 ?_
  refine l3_sld dL_law_1043 v1 ?_
  refine l3_aload_n 1 dL_law_1044 rfl ?_
  refine l3_iload 0 dL_law_1045 rfl ?_
  refine l3_iconst 2 dL_law_1047 (by decide) ?_
  refine l3_iadd dL_law_1048 ?_
  refine l3_sld dL_law_1049 v2 ?_
  refine l3_aload_n 1 dL_law_1050 rfl ?_
  refine l3_iload 0 dL_law_1051 rfl ?_
  refine l3_iconst 3 dL_law_1053 (by decide) ?_
  refine l3_iadd dL_law_1054 ?_
  refine l3_sld dL_law_1055 v3 ?_
  refine l3_callV (n := 3) (As := [.int (xs (x4 + 1 : Int32).toNatClampNeg), .int (xs (x4 + 2 : Int32).toNatClampNeg), .int (xs (x4 + 3 : Int32).toNatClampNeg)]) (by omega) dL_law_1056 (k4_X11_debate 1000 (by omega) (xs (x4 + 1 : Int32).toNatClampNeg) (xs (x4 + 2 : Int32).toNatClampNeg) (xs (x4 + 3 : Int32).toNatClampNeg) M) (Nat.le_of_ble_eq_true rfl) (Nat.le_of_ble_eq_true rfl) w_1104 w_1105 w_1106 w_101 w_1107 (by decide +kernel) rfl (by decide) sh_0 rfl rfl (Nat.le_of_ble_eq_true rfl) (fun r M1 h1 => ?_)
  obtain ⟨⟨y1, rfl, ky1⟩, h1⟩ := h1
  have hJ := l3_J hJ h1 (fun i h => by first | exact (h : False).elim | omega)
  have oM1_1_1 : (M1.1 1 1).toInt = (M.1 1 1).toInt := tl_slot (congrFun (h1.1 1 (fun h => by first | exact (h : False).elim | omega)) 1)
  have oM1_5_0 : (M1.1 5 0).toInt = (M.1 5 0).toInt := tl_slot (congrFun (h1.1 5 (fun h => by first | exact (h : False).elim | omega)) 0)
  have oM1_5_1 : (M1.1 5 1).toInt = (M.1 5 1).toInt := tl_slot (congrFun (h1.1 5 (fun h => by first | exact (h : False).elim | omega)) 1)
  have oM1_13_0 : (M1.1 13 0).toInt = (M.1 13 0).toInt := tl_slot (congrFun (h1.1 13 (fun h => by first | exact (h : False).elim | omega)) 0)
  have oM1_13_1 : (M1.1 13 1).toInt = (M.1 13 1).toInt := tl_slot (congrFun (h1.1 13 (fun h => by first | exact (h : False).elim | omega)) 1)
  have oM1_13_2 : (M1.1 13 2).toInt = (M.1 13 2).toInt := tl_slot (congrFun (h1.1 13 (fun h => by first | exact (h : False).elim | omega)) 2)
  have oM1_21_3 : (M1.1 21 3).toInt = (M.1 21 3).toInt := tl_slot (congrFun (h1.1 21 (fun h => by first | exact (h : False).elim | omega)) 3)
  have oM1_21_4 : (M1.1 21 4).toInt = (M.1 21 4).toInt := tl_slot (congrFun (h1.1 21 (fun h => by first | exact (h : False).elim | omega)) 4)
  have oM1_163_7 : (M1.1 163 7).toInt = (M.1 163 7).toInt := tl_slot (congrFun (h1.1 163 (fun h => by first | exact (h : False).elim | omega)) 7)
  have oM1_171_5 : (M1.1 171 5).toInt = (M.1 171 5).toInt := tl_slot (congrFun (h1.1 171 (fun h => by first | exact (h : False).elim | omega)) 5)
  have oM1_175_1 : (M1.1 175 1).toInt = (M.1 175 1).toInt := tl_slot (congrFun (h1.1 175 (fun h => by first | exact (h : False).elim | omega)) 1)
  have oM1_175_4 : (M1.1 175 4).toInt = (M.1 175 4).toInt := tl_slot (congrFun (h1.1 175 (fun h => by first | exact (h : False).elim | omega)) 4)
  have oM1_175_7 : (M1.1 175 7).toInt = (M.1 175 7).toInt := tl_slot (congrFun (h1.1 175 (fun h => by first | exact (h : False).elim | omega)) 7)
  have oM1_175_9 : (M1.1 175 9).toInt = (M.1 175 9).toInt := tl_slot (congrFun (h1.1 175 (fun h => by first | exact (h : False).elim | omega)) 9)
  have oM1_175_23 : (M1.1 175 23).toInt = (M.1 175 23).toInt := tl_slot (congrFun (h1.1 175 (fun h => by first | exact (h : False).elim | omega)) 23)
  have oM1_175_38 : (M1.1 175 38).toInt = (M.1 175 38).toInt := tl_slot (congrFun (h1.1 175 (fun h => by first | exact (h : False).elim | omega)) 38)
  have oM1_175_43 : (M1.1 175 43).toInt = (M.1 175 43).toInt := tl_slot (congrFun (h1.1 175 (fun h => by first | exact (h : False).elim | omega)) 43)
  have oM1_176_18 : (M1.1 176 18).toInt = (M.1 176 18).toInt := tl_slot (congrFun (h1.1 176 (fun h => by first | exact (h : False).elim | omega)) 18)
  have oM1_176_19 : (M1.1 176 19).toInt = (M.1 176 19).toInt := tl_slot (congrFun (h1.1 176 (fun h => by first | exact (h : False).elim | omega)) 19)
  have oM1_176_20 : (M1.1 176 20).toInt = (M.1 176 20).toInt := tl_slot (congrFun (h1.1 176 (fun h => by first | exact (h : False).elim | omega)) 20)
  have Pwq_M1 : li_wq (M1.1 192) ((M1.1 175 35).toInt) (121) (0) (0) := li_wq_mv (h1.1 192 (fun h => by first | exact (h : False).elim | omega)) (tl_slot (congrFun (h1.1 175 (fun h => by first | exact (h : False).elim | omega)) 35)) Pwq_M
  have Pkz_M1 : ∀ i : Nat, (M1.1 202 i).toInt = 0 := fun i => (tl_slot (congrFun (h1.1 202 (fun h => by first | exact (h : False).elim | omega)) i)).trans (Pkz_M i)
  refine l3_aload_n 3 dL_law_1059 rfl ?_
  refine l3_aload_n 1 dL_law_1060 rfl ?_
  refine l3_iload 0 dL_law_1061 rfl ?_
  refine l3_iconst 1 dL_law_1063 (by decide) ?_
  refine l3_iadd dL_law_1064 ?_
  refine l3_sld dL_law_1065 v1 ?_
  refine l3_aload_n 1 dL_law_1066 rfl ?_
  refine l3_iload 0 dL_law_1067 rfl ?_
  refine l3_iconst 2 dL_law_1069 (by decide) ?_
  refine l3_iadd dL_law_1070 ?_
  refine l3_sld dL_law_1071 v2 ?_
  refine l3_aload_n 1 dL_law_1072 rfl ?_
  refine l3_iload 0 dL_law_1073 rfl ?_
  refine l3_iconst 3 dL_law_1075 (by decide) ?_
  refine l3_iadd dL_law_1076 ?_
  refine l3_sld dL_law_1077 v3 ?_
  refine l3_callV (n := 3) (As := [.int (xs (x4 + 1 : Int32).toNatClampNeg), .int (xs (x4 + 2 : Int32).toNatClampNeg), .int (xs (x4 + 3 : Int32).toNatClampNeg)]) (by omega) dL_law_1078 (k4_X12_debate 1000 (by omega) (xs (x4 + 1 : Int32).toNatClampNeg) (xs (x4 + 2 : Int32).toNatClampNeg) (xs (x4 + 3 : Int32).toNatClampNeg) M1 hJ Pwq_M1) (Nat.le_of_ble_eq_true rfl) (Nat.le_of_ble_eq_true rfl) w_1884 w_1885 w_1886 w_112 w_1887 (by decide +kernel) rfl (by decide) sh_175 rfl rfl (Nat.le_of_ble_eq_true rfl) (fun r M2 h2 => ?_)
  have jh2 := h2
  obtain ⟨⟨y2, rfl, ky2⟩, h2⟩ := h2
  have hJ := h2.2.1
  have nh2 := h2.2.2
  refine l3_icmp_eq 1456 dL_law_1081 (by decide) (fun c => ?_) (fun c => absurd (Int32.toInt_inj.mp (show (y1 : Int32).toInt = (y2 : Int32).toInt by omega)) c)
  exact KK _ M2 hJ (by omega)
set_option maxRecDepth 100000 in
set_option maxHeartbeats 4000000 in
theorem lc_25 {l : Launch} {Z : li_Z} {b L kc : Nat} {xs : Nat → Int32} {x4 : Int32} {M : li_M} {Q : Option Value → li_M → Prop} (htr : l.stackTraces = false) (hk : kc ≤ 512) (hJ : li_J M) (v1 : vp_in (x4 + 1) L) (v2 : vp_in (x4 + 2) L) (v3 : vp_in (x4 + 3) L) (v4 : vp_in (x4 + 4) L) (hR0 : (M.1 1 1).toInt = 0) (hR1 : (M.1 3 1).toInt = 0) (hR2 : (M.1 5 0).toInt = 0) (hR3 : (M.1 5 1).toInt = 0) (hR4 : (M.1 13 0).toInt = 0) (hR5 : (M.1 13 1).toInt = 0) (hR6 : (M.1 13 2).toInt = 0) (hR7 : (M.1 21 3).toInt = 0) (hR8 : (M.1 21 4).toInt = 0) (hR9 : (M.1 163 7).toInt = 0) (hR10 : (M.1 171 5).toInt = 0) (hR11 : (M.1 175 1).toInt = 0) (hR12 : (M.1 175 4).toInt = 0) (hR13 : (M.1 175 7).toInt = 0) (hR14 : (M.1 175 9).toInt = 0) (hR15 : (M.1 175 23).toInt = 0) (hR16 : (M.1 175 38).toInt = 0) (hR17 : (M.1 175 43).toInt = 0) (hR18 : (M.1 176 18).toInt = 0) (hR19 : (M.1 176 19).toInt = 0) (hR20 : (M.1 176 20).toInt = 0) (Pwq_M : li_wq (M.1 192) ((M.1 175 35).toInt) (121) (0) (0)) (Pkz_M : ∀ i : Nat, (M.1 202 i).toInt = 0) (KK : ∀ (k : Nat) (M : li_M), li_J M → k ≤ kc + 1 → l3_T l Z b L xs k 1456 [(4, .int x4), (0, .ref b), (1, .ref (Z.2.2 0)), (2, .ref (Z.2.2 175)), (3, .ref (Z.2.2 204))] [] M Q) : l3_T l Z b L xs kc 1086 [(4, .int x4), (0, .ref b), (1, .ref (Z.2.2 0)), (2, .ref (Z.2.2 175)), (3, .ref (Z.2.2 204))] [] M Q := by
  have rJ1 := J_sl1 (M := M) hJ
  have rJ4 := J_sl4 (M := M) hJ
  have rJ7 := J_sl7 (M := M) hJ
  have rJ9 := J_sl9 (M := M) hJ
  have rJ23 := J_sl23 (M := M) hJ
  have rJ38 := J_sl38 (M := M) hJ
  refine l3_aload_n 2 dL_law_1086 rfl ?_
  refine l3_aload_n 1 dL_law_1087 rfl ?_
  refine l3_iload 0 dL_law_1088 rfl ?_
  refine l3_iconst 1 dL_law_1090 (by decide) ?_
  refine l3_iadd dL_law_1091 ?_
  refine l3_sld dL_law_1092 v1 ?_
  refine l3_aload_n 1 dL_law_1093 rfl ?_
  refine l3_iload 0 dL_law_1094 rfl ?_
  refine l3_iconst 2 dL_law_1096 (by decide) ?_
  refine l3_iadd dL_law_1097 ?_
  refine l3_sld dL_law_1098 v2 ?_
  refine l3_callV (n := 2) (As := [.int (xs (x4 + 1 : Int32).toNatClampNeg), .int (xs (x4 + 2 : Int32).toNatClampNeg)]) (by omega) dL_law_1099 (k4_X11_enough 1000 (by omega) (xs (x4 + 1 : Int32).toNatClampNeg) (xs (x4 + 2 : Int32).toNatClampNeg) M) (Nat.le_of_ble_eq_true rfl) (Nat.le_of_ble_eq_true rfl) w_1108 w_1109 w_1110 w_101 w_1111 (by decide +kernel) rfl (by decide) sh_0 rfl rfl (Nat.le_of_ble_eq_true rfl) (fun r M1 h1 => ?_)
  obtain ⟨⟨y1, rfl, ky1⟩, h1⟩ := h1
  have hJ := l3_J hJ h1 (fun i h => by first | exact (h : False).elim | omega)
  have oM1_1_1 : (M1.1 1 1).toInt = (M.1 1 1).toInt := tl_slot (congrFun (h1.1 1 (fun h => by first | exact (h : False).elim | omega)) 1)
  have oM1_3_1 : (M1.1 3 1).toInt = (M.1 3 1).toInt := tl_slot (congrFun (h1.1 3 (fun h => by first | exact (h : False).elim | omega)) 1)
  have oM1_5_0 : (M1.1 5 0).toInt = (M.1 5 0).toInt := tl_slot (congrFun (h1.1 5 (fun h => by first | exact (h : False).elim | omega)) 0)
  have oM1_5_1 : (M1.1 5 1).toInt = (M.1 5 1).toInt := tl_slot (congrFun (h1.1 5 (fun h => by first | exact (h : False).elim | omega)) 1)
  have oM1_13_0 : (M1.1 13 0).toInt = (M.1 13 0).toInt := tl_slot (congrFun (h1.1 13 (fun h => by first | exact (h : False).elim | omega)) 0)
  have oM1_13_1 : (M1.1 13 1).toInt = (M.1 13 1).toInt := tl_slot (congrFun (h1.1 13 (fun h => by first | exact (h : False).elim | omega)) 1)
  have oM1_13_2 : (M1.1 13 2).toInt = (M.1 13 2).toInt := tl_slot (congrFun (h1.1 13 (fun h => by first | exact (h : False).elim | omega)) 2)
  have oM1_21_3 : (M1.1 21 3).toInt = (M.1 21 3).toInt := tl_slot (congrFun (h1.1 21 (fun h => by first | exact (h : False).elim | omega)) 3)
  have oM1_21_4 : (M1.1 21 4).toInt = (M.1 21 4).toInt := tl_slot (congrFun (h1.1 21 (fun h => by first | exact (h : False).elim | omega)) 4)
  have oM1_163_7 : (M1.1 163 7).toInt = (M.1 163 7).toInt := tl_slot (congrFun (h1.1 163 (fun h => by first | exact (h : False).elim | omega)) 7)
  have oM1_171_5 : (M1.1 171 5).toInt = (M.1 171 5).toInt := tl_slot (congrFun (h1.1 171 (fun h => by first | exact (h : False).elim | omega)) 5)
  have oM1_175_1 : (M1.1 175 1).toInt = (M.1 175 1).toInt := tl_slot (congrFun (h1.1 175 (fun h => by first | exact (h : False).elim | omega)) 1)
  have oM1_175_4 : (M1.1 175 4).toInt = (M.1 175 4).toInt := tl_slot (congrFun (h1.1 175 (fun h => by first | exact (h : False).elim | omega)) 4)
  have oM1_175_7 : (M1.1 175 7).toInt = (M.1 175 7).toInt := tl_slot (congrFun (h1.1 175 (fun h => by first | exact (h : False).elim | omega)) 7)
  have oM1_175_9 : (M1.1 175 9).toInt = (M.1 175 9).toInt := tl_slot (congrFun (h1.1 175 (fun h => by first | exact (h : False).elim | omega)) 9)
  have oM1_175_23 : (M1.1 175 23).toInt = (M.1 175 23).toInt := tl_slot (congrFun (h1.1 175 (fun h => by first | exact (h : False).elim | omega)) 23)
  have oM1_175_38 : (M1.1 175 38).toInt = (M.1 175 38).toInt := tl_slot (congrFun (h1.1 175 (fun h => by first | exact (h : False).elim | omega)) 38)
  have oM1_175_43 : (M1.1 175 43).toInt = (M.1 175 43).toInt := tl_slot (congrFun (h1.1 175 (fun h => by first | exact (h : False).elim | omega)) 43)
  have oM1_176_18 : (M1.1 176 18).toInt = (M.1 176 18).toInt := tl_slot (congrFun (h1.1 176 (fun h => by first | exact (h : False).elim | omega)) 18)
  have oM1_176_19 : (M1.1 176 19).toInt = (M.1 176 19).toInt := tl_slot (congrFun (h1.1 176 (fun h => by first | exact (h : False).elim | omega)) 19)
  have oM1_176_20 : (M1.1 176 20).toInt = (M.1 176 20).toInt := tl_slot (congrFun (h1.1 176 (fun h => by first | exact (h : False).elim | omega)) 20)
  have Pwq_M1 : li_wq (M1.1 192) ((M1.1 175 35).toInt) (121) (0) (0) := li_wq_mv (h1.1 192 (fun h => by first | exact (h : False).elim | omega)) (tl_slot (congrFun (h1.1 175 (fun h => by first | exact (h : False).elim | omega)) 35)) Pwq_M
  have Pkz_M1 : ∀ i : Nat, (M1.1 202 i).toInt = 0 := fun i => (tl_slot (congrFun (h1.1 202 (fun h => by first | exact (h : False).elim | omega)) i)).trans (Pkz_M i)
  refine l3_aload_n 3 dL_law_1102 rfl ?_
  refine l3_aload_n 1 dL_law_1103 rfl ?_
  refine l3_iload 0 dL_law_1104 rfl ?_
  refine l3_iconst 1 dL_law_1106 (by decide) ?_
  refine l3_iadd dL_law_1107 ?_
  refine l3_sld dL_law_1108 v1 ?_
  refine l3_aload_n 1 dL_law_1109 rfl ?_
  refine l3_iload 0 dL_law_1110 rfl ?_
  refine l3_iconst 2 dL_law_1112 (by decide) ?_
  refine l3_iadd dL_law_1113 ?_
  refine l3_sld dL_law_1114 v2 ?_
  refine l3_callV (n := 2) (As := [.int (xs (x4 + 1 : Int32).toNatClampNeg), .int (xs (x4 + 2 : Int32).toNatClampNeg)]) (by omega) dL_law_1115 (k4_X12_enough 1000 (by omega) (xs (x4 + 1 : Int32).toNatClampNeg) (xs (x4 + 2 : Int32).toNatClampNeg) M1 hJ Pwq_M1) (Nat.le_of_ble_eq_true rfl) (Nat.le_of_ble_eq_true rfl) w_1898 w_1899 w_1900 w_112 w_1901 (by decide +kernel) rfl (by decide) sh_175 rfl rfl (Nat.le_of_ble_eq_true rfl) (fun r M2 h2 => ?_)
  have jh2 := h2
  obtain ⟨⟨y2, rfl, ky2⟩, h2⟩ := h2
  have hJ := h2.2.1
  have nh2 := h2.2.2
  refine l3_icmp_eq 1456 dL_law_1118 (by decide) (fun c => ?_) (fun c => absurd (Int32.toInt_inj.mp (show (y1 : Int32).toInt = (y2 : Int32).toInt by omega)) c)
  exact KK _ M2 hJ (by omega)
set_option maxRecDepth 100000 in
set_option maxHeartbeats 4000000 in
theorem lc_26 {l : Launch} {Z : li_Z} {b L kc : Nat} {xs : Nat → Int32} {x4 : Int32} {M : li_M} {Q : Option Value → li_M → Prop} (htr : l.stackTraces = false) (hk : kc ≤ 512) (hJ : li_J M) (v1 : vp_in (x4 + 1) L) (v2 : vp_in (x4 + 2) L) (v3 : vp_in (x4 + 3) L) (v4 : vp_in (x4 + 4) L) (hR0 : (M.1 1 1).toInt = 0) (hR1 : (M.1 3 1).toInt = 0) (hR2 : (M.1 5 0).toInt = 0) (hR3 : (M.1 5 1).toInt = 0) (hR4 : (M.1 13 0).toInt = 0) (hR5 : (M.1 13 1).toInt = 0) (hR6 : (M.1 13 2).toInt = 0) (hR7 : (M.1 21 3).toInt = 0) (hR8 : (M.1 21 4).toInt = 0) (hR9 : (M.1 163 7).toInt = 0) (hR10 : (M.1 171 5).toInt = 0) (hR11 : (M.1 175 1).toInt = 0) (hR12 : (M.1 175 4).toInt = 0) (hR13 : (M.1 175 7).toInt = 0) (hR14 : (M.1 175 9).toInt = 0) (hR15 : (M.1 175 23).toInt = 0) (hR16 : (M.1 175 38).toInt = 0) (hR17 : (M.1 175 43).toInt = 0) (hR18 : (M.1 176 18).toInt = 0) (hR19 : (M.1 176 19).toInt = 0) (hR20 : (M.1 176 20).toInt = 0) (Pwq_M : li_wq (M.1 192) ((M.1 175 35).toInt) (121) (0) (0)) (Pkz_M : ∀ i : Nat, (M.1 202 i).toInt = 0) (KK : ∀ (k : Nat) (M : li_M), li_J M → k ≤ kc + 1 → l3_T l Z b L xs k 1456 [(4, .int x4), (0, .ref b), (1, .ref (Z.2.2 0)), (2, .ref (Z.2.2 175)), (3, .ref (Z.2.2 204))] [] M Q) : l3_T l Z b L xs kc 1123 [(4, .int x4), (0, .ref b), (1, .ref (Z.2.2 0)), (2, .ref (Z.2.2 175)), (3, .ref (Z.2.2 204))] [] M Q := by
  have rJ1 := J_sl1 (M := M) hJ
  have rJ4 := J_sl4 (M := M) hJ
  have rJ7 := J_sl7 (M := M) hJ
  have rJ9 := J_sl9 (M := M) hJ
  have rJ23 := J_sl23 (M := M) hJ
  have rJ38 := J_sl38 (M := M) hJ
  refine l3_aload_n 2 dL_law_1123 rfl ?_
  refine l3_callV (n := 0) (As := []) (by omega) dL_law_1124 (k15_X11_grammar 1000 (by omega)  M (by first | omega | decide)) (Nat.le_of_ble_eq_true rfl) (Nat.le_of_ble_eq_true rfl) w_1112 w_1113 w_1114 w_101 w_1115 (by decide +kernel) rfl (by decide) sh_0 rfl rfl (Nat.le_of_ble_eq_true rfl) (fun r M1 h1 => ?_)
  obtain ⟨⟨y1, rfl, ky1⟩, h1⟩ := h1
  have hJ := l3_J hJ h1 (fun i h => by first | exact (h : False).elim | omega)
  have oM1_3_1 : (M1.1 3 1).toInt = (M.1 3 1).toInt := tl_slot (congrFun (h1.1 3 (fun h => by first | exact (h : False).elim | omega)) 1)
  have oM1_5_0 : (M1.1 5 0).toInt = (M.1 5 0).toInt := tl_slot (congrFun (h1.1 5 (fun h => by first | exact (h : False).elim | omega)) 0)
  have oM1_5_1 : (M1.1 5 1).toInt = (M.1 5 1).toInt := tl_slot (congrFun (h1.1 5 (fun h => by first | exact (h : False).elim | omega)) 1)
  have oM1_13_0 : (M1.1 13 0).toInt = (M.1 13 0).toInt := tl_slot (congrFun (h1.1 13 (fun h => by first | exact (h : False).elim | omega)) 0)
  have oM1_13_1 : (M1.1 13 1).toInt = (M.1 13 1).toInt := tl_slot (congrFun (h1.1 13 (fun h => by first | exact (h : False).elim | omega)) 1)
  have oM1_13_2 : (M1.1 13 2).toInt = (M.1 13 2).toInt := tl_slot (congrFun (h1.1 13 (fun h => by first | exact (h : False).elim | omega)) 2)
  have oM1_21_3 : (M1.1 21 3).toInt = (M.1 21 3).toInt := tl_slot (congrFun (h1.1 21 (fun h => by first | exact (h : False).elim | omega)) 3)
  have oM1_21_4 : (M1.1 21 4).toInt = (M.1 21 4).toInt := tl_slot (congrFun (h1.1 21 (fun h => by first | exact (h : False).elim | omega)) 4)
  have oM1_171_5 : (M1.1 171 5).toInt = (M.1 171 5).toInt := tl_slot (congrFun (h1.1 171 (fun h => by first | exact (h : False).elim | omega)) 5)
  have oM1_175_1 : (M1.1 175 1).toInt = (M.1 175 1).toInt := tl_slot (congrFun (h1.1 175 (fun h => by first | exact (h : False).elim | omega)) 1)
  have oM1_175_4 : (M1.1 175 4).toInt = (M.1 175 4).toInt := tl_slot (congrFun (h1.1 175 (fun h => by first | exact (h : False).elim | omega)) 4)
  have oM1_175_7 : (M1.1 175 7).toInt = (M.1 175 7).toInt := tl_slot (congrFun (h1.1 175 (fun h => by first | exact (h : False).elim | omega)) 7)
  have oM1_175_9 : (M1.1 175 9).toInt = (M.1 175 9).toInt := tl_slot (congrFun (h1.1 175 (fun h => by first | exact (h : False).elim | omega)) 9)
  have oM1_175_23 : (M1.1 175 23).toInt = (M.1 175 23).toInt := tl_slot (congrFun (h1.1 175 (fun h => by first | exact (h : False).elim | omega)) 23)
  have oM1_175_38 : (M1.1 175 38).toInt = (M.1 175 38).toInt := tl_slot (congrFun (h1.1 175 (fun h => by first | exact (h : False).elim | omega)) 38)
  have oM1_175_43 : (M1.1 175 43).toInt = (M.1 175 43).toInt := tl_slot (congrFun (h1.1 175 (fun h => by first | exact (h : False).elim | omega)) 43)
  have oM1_176_18 : (M1.1 176 18).toInt = (M.1 176 18).toInt := tl_slot (congrFun (h1.1 176 (fun h => by first | exact (h : False).elim | omega)) 18)
  have oM1_176_19 : (M1.1 176 19).toInt = (M.1 176 19).toInt := tl_slot (congrFun (h1.1 176 (fun h => by first | exact (h : False).elim | omega)) 19)
  have oM1_176_20 : (M1.1 176 20).toInt = (M.1 176 20).toInt := tl_slot (congrFun (h1.1 176 (fun h => by first | exact (h : False).elim | omega)) 20)
  have Pwq_M1 : li_wq (M1.1 192) ((M1.1 175 35).toInt) (121) (0) (0) := li_wq_mv (h1.1 192 (fun h => by first | exact (h : False).elim | omega)) (tl_slot (congrFun (h1.1 175 (fun h => by first | exact (h : False).elim | omega)) 35)) Pwq_M
  have Pkz_M1 : ∀ i : Nat, (M1.1 202 i).toInt = 0 := fun i => (tl_slot (congrFun (h1.1 202 (fun h => by first | exact (h : False).elim | omega)) i)).trans (Pkz_M i)
  refine l3_aload_n 3 dL_law_1127 rfl ?_
  refine l3_callV (n := 0) (As := []) (by omega) dL_law_1128 (k15_X12_grammar 1000 (by omega)  M1 hJ (by omega) ) (Nat.le_of_ble_eq_true rfl) (Nat.le_of_ble_eq_true rfl) w_1902 w_1903 w_1904 w_112 w_1905 (by decide +kernel) rfl (by decide) sh_175 rfl rfl (Nat.le_of_ble_eq_true rfl) (fun r M2 h2 => ?_)
  have jh2 := h2
  obtain ⟨⟨y2, rfl, ky2⟩, h2⟩ := h2
  have hJ := h2.2
  refine l3_icmp_eq 1456 dL_law_1131 (by decide) (fun c => ?_) (fun c => absurd (Int32.toInt_inj.mp (show (y1 : Int32).toInt = (y2 : Int32).toInt by omega)) c)
  exact KK _ M2 hJ (by omega)
set_option maxRecDepth 100000 in
set_option maxHeartbeats 4000000 in
theorem lc_27 {l : Launch} {Z : li_Z} {b L kc : Nat} {xs : Nat → Int32} {x4 : Int32} {M : li_M} {Q : Option Value → li_M → Prop} (htr : l.stackTraces = false) (hk : kc ≤ 512) (hJ : li_J M) (v1 : vp_in (x4 + 1) L) (v2 : vp_in (x4 + 2) L) (v3 : vp_in (x4 + 3) L) (v4 : vp_in (x4 + 4) L) (hR0 : (M.1 1 1).toInt = 0) (hR1 : (M.1 3 1).toInt = 0) (hR2 : (M.1 5 0).toInt = 0) (hR3 : (M.1 5 1).toInt = 0) (hR4 : (M.1 13 0).toInt = 0) (hR5 : (M.1 13 1).toInt = 0) (hR6 : (M.1 13 2).toInt = 0) (hR7 : (M.1 21 3).toInt = 0) (hR8 : (M.1 21 4).toInt = 0) (hR9 : (M.1 163 7).toInt = 0) (hR10 : (M.1 171 5).toInt = 0) (hR11 : (M.1 175 1).toInt = 0) (hR12 : (M.1 175 4).toInt = 0) (hR13 : (M.1 175 7).toInt = 0) (hR14 : (M.1 175 9).toInt = 0) (hR15 : (M.1 175 23).toInt = 0) (hR16 : (M.1 175 38).toInt = 0) (hR17 : (M.1 175 43).toInt = 0) (hR18 : (M.1 176 18).toInt = 0) (hR19 : (M.1 176 19).toInt = 0) (hR20 : (M.1 176 20).toInt = 0) (Pwq_M : li_wq (M.1 192) ((M.1 175 35).toInt) (121) (0) (0)) (Pkz_M : ∀ i : Nat, (M.1 202 i).toInt = 0) (KK : ∀ (k : Nat) (M : li_M), li_J M → k ≤ kc + 1 → l3_T l Z b L xs k 1456 [(4, .int x4), (0, .ref b), (1, .ref (Z.2.2 0)), (2, .ref (Z.2.2 175)), (3, .ref (Z.2.2 204))] [] M Q) : l3_T l Z b L xs kc 1136 [(4, .int x4), (0, .ref b), (1, .ref (Z.2.2 0)), (2, .ref (Z.2.2 175)), (3, .ref (Z.2.2 204))] [] M Q := by
  have rJ1 := J_sl1 (M := M) hJ
  have rJ4 := J_sl4 (M := M) hJ
  have rJ7 := J_sl7 (M := M) hJ
  have rJ9 := J_sl9 (M := M) hJ
  have rJ23 := J_sl23 (M := M) hJ
  have rJ38 := J_sl38 (M := M) hJ
  refine l3_aload_n 2 dL_law_1136 rfl ?_
  refine l3_callV (n := 0) (As := []) (by omega) dL_law_1137 (k15_X11_shorter 1000 (by omega)  M (by first | omega | decide)) (Nat.le_of_ble_eq_true rfl) (Nat.le_of_ble_eq_true rfl) w_1121 w_1122 w_1123 w_101 w_1124 (by decide +kernel) rfl (by decide) sh_0 rfl rfl (Nat.le_of_ble_eq_true rfl) (fun r M1 h1 => ?_)
  obtain ⟨⟨y1, rfl, ky1⟩, h1⟩ := h1
  have hJ := l3_J hJ h1 (fun i h => by first | exact (h : False).elim | omega)
  have oM1_3_1 : (M1.1 3 1).toInt = (M.1 3 1).toInt := tl_slot (congrFun (h1.1 3 (fun h => by first | exact (h : False).elim | omega)) 1)
  have oM1_5_0 : (M1.1 5 0).toInt = (M.1 5 0).toInt := tl_slot (congrFun (h1.1 5 (fun h => by first | exact (h : False).elim | omega)) 0)
  have oM1_5_1 : (M1.1 5 1).toInt = (M.1 5 1).toInt := tl_slot (congrFun (h1.1 5 (fun h => by first | exact (h : False).elim | omega)) 1)
  have oM1_13_0 : (M1.1 13 0).toInt = (M.1 13 0).toInt := tl_slot (congrFun (h1.1 13 (fun h => by first | exact (h : False).elim | omega)) 0)
  have oM1_13_1 : (M1.1 13 1).toInt = (M.1 13 1).toInt := tl_slot (congrFun (h1.1 13 (fun h => by first | exact (h : False).elim | omega)) 1)
  have oM1_13_2 : (M1.1 13 2).toInt = (M.1 13 2).toInt := tl_slot (congrFun (h1.1 13 (fun h => by first | exact (h : False).elim | omega)) 2)
  have oM1_21_3 : (M1.1 21 3).toInt = (M.1 21 3).toInt := tl_slot (congrFun (h1.1 21 (fun h => by first | exact (h : False).elim | omega)) 3)
  have oM1_21_4 : (M1.1 21 4).toInt = (M.1 21 4).toInt := tl_slot (congrFun (h1.1 21 (fun h => by first | exact (h : False).elim | omega)) 4)
  have oM1_163_7 : (M1.1 163 7).toInt = (M.1 163 7).toInt := tl_slot (congrFun (h1.1 163 (fun h => by first | exact (h : False).elim | omega)) 7)
  have oM1_171_5 : (M1.1 171 5).toInt = (M.1 171 5).toInt := tl_slot (congrFun (h1.1 171 (fun h => by first | exact (h : False).elim | omega)) 5)
  have oM1_175_1 : (M1.1 175 1).toInt = (M.1 175 1).toInt := tl_slot (congrFun (h1.1 175 (fun h => by first | exact (h : False).elim | omega)) 1)
  have oM1_175_4 : (M1.1 175 4).toInt = (M.1 175 4).toInt := tl_slot (congrFun (h1.1 175 (fun h => by first | exact (h : False).elim | omega)) 4)
  have oM1_175_7 : (M1.1 175 7).toInt = (M.1 175 7).toInt := tl_slot (congrFun (h1.1 175 (fun h => by first | exact (h : False).elim | omega)) 7)
  have oM1_175_9 : (M1.1 175 9).toInt = (M.1 175 9).toInt := tl_slot (congrFun (h1.1 175 (fun h => by first | exact (h : False).elim | omega)) 9)
  have oM1_175_23 : (M1.1 175 23).toInt = (M.1 175 23).toInt := tl_slot (congrFun (h1.1 175 (fun h => by first | exact (h : False).elim | omega)) 23)
  have oM1_175_38 : (M1.1 175 38).toInt = (M.1 175 38).toInt := tl_slot (congrFun (h1.1 175 (fun h => by first | exact (h : False).elim | omega)) 38)
  have oM1_175_43 : (M1.1 175 43).toInt = (M.1 175 43).toInt := tl_slot (congrFun (h1.1 175 (fun h => by first | exact (h : False).elim | omega)) 43)
  have oM1_176_18 : (M1.1 176 18).toInt = (M.1 176 18).toInt := tl_slot (congrFun (h1.1 176 (fun h => by first | exact (h : False).elim | omega)) 18)
  have oM1_176_19 : (M1.1 176 19).toInt = (M.1 176 19).toInt := tl_slot (congrFun (h1.1 176 (fun h => by first | exact (h : False).elim | omega)) 19)
  have oM1_176_20 : (M1.1 176 20).toInt = (M.1 176 20).toInt := tl_slot (congrFun (h1.1 176 (fun h => by first | exact (h : False).elim | omega)) 20)
  have Pwq_M1 : li_wq (M1.1 192) ((M1.1 175 35).toInt) (121) (0) (0) := li_wq_mv (h1.1 192 (fun h => by first | exact (h : False).elim | omega)) (tl_slot (congrFun (h1.1 175 (fun h => by first | exact (h : False).elim | omega)) 35)) Pwq_M
  have Pkz_M1 : ∀ i : Nat, (M1.1 202 i).toInt = 0 := fun i => (tl_slot (congrFun (h1.1 202 (fun h => by first | exact (h : False).elim | omega)) i)).trans (Pkz_M i)
  refine l3_aload_n 3 dL_law_1140 rfl ?_
  refine l3_callV (n := 0) (As := []) (by omega) dL_law_1141 (k15_X12_shorter 1000 (by omega)  M1 hJ (by omega) ) (Nat.le_of_ble_eq_true rfl) (Nat.le_of_ble_eq_true rfl) w_1906 w_1907 w_1908 w_112 w_1909 (by decide +kernel) rfl (by decide) sh_175 rfl rfl (Nat.le_of_ble_eq_true rfl) (fun r M2 h2 => ?_)
  have jh2 := h2
  obtain ⟨⟨y2, rfl, ky2⟩, h2⟩ := h2
  have hJ := h2.2
  refine l3_icmp_eq 1456 dL_law_1144 (by decide) (fun c => ?_) (fun c => absurd (Int32.toInt_inj.mp (show (y1 : Int32).toInt = (y2 : Int32).toInt by omega)) c)
  exact KK _ M2 hJ (by omega)
set_option maxRecDepth 100000 in
set_option maxHeartbeats 4000000 in
theorem lc_28 {l : Launch} {Z : li_Z} {b L kc : Nat} {xs : Nat → Int32} {x4 : Int32} {M : li_M} {Q : Option Value → li_M → Prop} (htr : l.stackTraces = false) (hk : kc ≤ 512) (hJ : li_J M) (v1 : vp_in (x4 + 1) L) (v2 : vp_in (x4 + 2) L) (v3 : vp_in (x4 + 3) L) (v4 : vp_in (x4 + 4) L) (hR0 : (M.1 1 1).toInt = 0) (hR1 : (M.1 3 1).toInt = 0) (hR2 : (M.1 5 0).toInt = 0) (hR3 : (M.1 5 1).toInt = 0) (hR4 : (M.1 13 0).toInt = 0) (hR5 : (M.1 13 1).toInt = 0) (hR6 : (M.1 13 2).toInt = 0) (hR7 : (M.1 21 3).toInt = 0) (hR8 : (M.1 21 4).toInt = 0) (hR9 : (M.1 163 7).toInt = 0) (hR10 : (M.1 171 5).toInt = 0) (hR11 : (M.1 175 1).toInt = 0) (hR12 : (M.1 175 4).toInt = 0) (hR13 : (M.1 175 7).toInt = 0) (hR14 : (M.1 175 9).toInt = 0) (hR15 : (M.1 175 23).toInt = 0) (hR16 : (M.1 175 38).toInt = 0) (hR17 : (M.1 175 43).toInt = 0) (hR18 : (M.1 176 18).toInt = 0) (hR19 : (M.1 176 19).toInt = 0) (hR20 : (M.1 176 20).toInt = 0) (Pwq_M : li_wq (M.1 192) ((M.1 175 35).toInt) (121) (0) (0)) (Pkz_M : ∀ i : Nat, (M.1 202 i).toInt = 0) (KK : ∀ (k : Nat) (M : li_M), li_J M → k ≤ kc + 1 → l3_T l Z b L xs k 1456 [(4, .int x4), (0, .ref b), (1, .ref (Z.2.2 0)), (2, .ref (Z.2.2 175)), (3, .ref (Z.2.2 204))] [] M Q) : l3_T l Z b L xs kc 1149 [(4, .int x4), (0, .ref b), (1, .ref (Z.2.2 0)), (2, .ref (Z.2.2 175)), (3, .ref (Z.2.2 204))] [] M Q := by
  have rJ1 := J_sl1 (M := M) hJ
  have rJ4 := J_sl4 (M := M) hJ
  have rJ7 := J_sl7 (M := M) hJ
  have rJ9 := J_sl9 (M := M) hJ
  have rJ23 := J_sl23 (M := M) hJ
  have rJ38 := J_sl38 (M := M) hJ
  refine l3_aload_n 2 dL_law_1149 rfl ?_
  refine l3_callV (n := 0) (As := []) (by omega) dL_law_1150 (k15_X11_becomes 1000 (by omega)  M (by first | omega | decide)) (Nat.le_of_ble_eq_true rfl) (Nat.le_of_ble_eq_true rfl) w_1155 w_1156 w_1157 w_101 w_1158 (by decide +kernel) rfl (by decide) sh_0 rfl rfl (Nat.le_of_ble_eq_true rfl) (fun r M1 h1 => ?_)
  obtain ⟨⟨y1, rfl, ky1⟩, h1⟩ := h1
  have hJ := l3_J hJ h1 (fun i h => by first | exact (h : False).elim | omega)
  have oM1_3_1 : (M1.1 3 1).toInt = (M.1 3 1).toInt := tl_slot (congrFun (h1.1 3 (fun h => by first | exact (h : False).elim | omega)) 1)
  have oM1_5_0 : (M1.1 5 0).toInt = (M.1 5 0).toInt := tl_slot (congrFun (h1.1 5 (fun h => by first | exact (h : False).elim | omega)) 0)
  have oM1_5_1 : (M1.1 5 1).toInt = (M.1 5 1).toInt := tl_slot (congrFun (h1.1 5 (fun h => by first | exact (h : False).elim | omega)) 1)
  have oM1_13_0 : (M1.1 13 0).toInt = (M.1 13 0).toInt := tl_slot (congrFun (h1.1 13 (fun h => by first | exact (h : False).elim | omega)) 0)
  have oM1_13_1 : (M1.1 13 1).toInt = (M.1 13 1).toInt := tl_slot (congrFun (h1.1 13 (fun h => by first | exact (h : False).elim | omega)) 1)
  have oM1_13_2 : (M1.1 13 2).toInt = (M.1 13 2).toInt := tl_slot (congrFun (h1.1 13 (fun h => by first | exact (h : False).elim | omega)) 2)
  have oM1_21_3 : (M1.1 21 3).toInt = (M.1 21 3).toInt := tl_slot (congrFun (h1.1 21 (fun h => by first | exact (h : False).elim | omega)) 3)
  have oM1_21_4 : (M1.1 21 4).toInt = (M.1 21 4).toInt := tl_slot (congrFun (h1.1 21 (fun h => by first | exact (h : False).elim | omega)) 4)
  have oM1_163_7 : (M1.1 163 7).toInt = (M.1 163 7).toInt := tl_slot (congrFun (h1.1 163 (fun h => by first | exact (h : False).elim | omega)) 7)
  have oM1_171_5 : (M1.1 171 5).toInt = (M.1 171 5).toInt := tl_slot (congrFun (h1.1 171 (fun h => by first | exact (h : False).elim | omega)) 5)
  have oM1_175_1 : (M1.1 175 1).toInt = (M.1 175 1).toInt := tl_slot (congrFun (h1.1 175 (fun h => by first | exact (h : False).elim | omega)) 1)
  have oM1_175_4 : (M1.1 175 4).toInt = (M.1 175 4).toInt := tl_slot (congrFun (h1.1 175 (fun h => by first | exact (h : False).elim | omega)) 4)
  have oM1_175_7 : (M1.1 175 7).toInt = (M.1 175 7).toInt := tl_slot (congrFun (h1.1 175 (fun h => by first | exact (h : False).elim | omega)) 7)
  have oM1_175_9 : (M1.1 175 9).toInt = (M.1 175 9).toInt := tl_slot (congrFun (h1.1 175 (fun h => by first | exact (h : False).elim | omega)) 9)
  have oM1_175_23 : (M1.1 175 23).toInt = (M.1 175 23).toInt := tl_slot (congrFun (h1.1 175 (fun h => by first | exact (h : False).elim | omega)) 23)
  have oM1_175_38 : (M1.1 175 38).toInt = (M.1 175 38).toInt := tl_slot (congrFun (h1.1 175 (fun h => by first | exact (h : False).elim | omega)) 38)
  have oM1_175_43 : (M1.1 175 43).toInt = (M.1 175 43).toInt := tl_slot (congrFun (h1.1 175 (fun h => by first | exact (h : False).elim | omega)) 43)
  have oM1_176_18 : (M1.1 176 18).toInt = (M.1 176 18).toInt := tl_slot (congrFun (h1.1 176 (fun h => by first | exact (h : False).elim | omega)) 18)
  have oM1_176_19 : (M1.1 176 19).toInt = (M.1 176 19).toInt := tl_slot (congrFun (h1.1 176 (fun h => by first | exact (h : False).elim | omega)) 19)
  have oM1_176_20 : (M1.1 176 20).toInt = (M.1 176 20).toInt := tl_slot (congrFun (h1.1 176 (fun h => by first | exact (h : False).elim | omega)) 20)
  have Pwq_M1 : li_wq (M1.1 192) ((M1.1 175 35).toInt) (121) (0) (0) := li_wq_mv (h1.1 192 (fun h => by first | exact (h : False).elim | omega)) (tl_slot (congrFun (h1.1 175 (fun h => by first | exact (h : False).elim | omega)) 35)) Pwq_M
  have Pkz_M1 : ∀ i : Nat, (M1.1 202 i).toInt = 0 := fun i => (tl_slot (congrFun (h1.1 202 (fun h => by first | exact (h : False).elim | omega)) i)).trans (Pkz_M i)
  refine l3_aload_n 3 dL_law_1153 rfl ?_
  refine l3_callV (n := 0) (As := []) (by omega) dL_law_1154 (k15_X12_becomes 1000 (by omega)  M1 hJ (by omega) ) (Nat.le_of_ble_eq_true rfl) (Nat.le_of_ble_eq_true rfl) w_1919 w_1920 w_1921 w_112 w_1922 (by decide +kernel) rfl (by decide) sh_175 rfl rfl (Nat.le_of_ble_eq_true rfl) (fun r M2 h2 => ?_)
  have jh2 := h2
  obtain ⟨⟨y2, rfl, ky2⟩, h2⟩ := h2
  have hJ := h2.2
  refine l3_icmp_eq 1456 dL_law_1157 (by decide) (fun c => ?_) (fun c => absurd (Int32.toInt_inj.mp (show (y1 : Int32).toInt = (y2 : Int32).toInt by omega)) c)
  exact KK _ M2 hJ (by omega)
set_option maxRecDepth 100000 in
set_option maxHeartbeats 4000000 in
theorem lc_29 {l : Launch} {Z : li_Z} {b L kc : Nat} {xs : Nat → Int32} {x4 : Int32} {M : li_M} {Q : Option Value → li_M → Prop} (htr : l.stackTraces = false) (hk : kc ≤ 512) (hJ : li_J M) (v1 : vp_in (x4 + 1) L) (v2 : vp_in (x4 + 2) L) (v3 : vp_in (x4 + 3) L) (v4 : vp_in (x4 + 4) L) (hR0 : (M.1 1 1).toInt = 0) (hR1 : (M.1 3 1).toInt = 0) (hR2 : (M.1 5 0).toInt = 0) (hR3 : (M.1 5 1).toInt = 0) (hR4 : (M.1 13 0).toInt = 0) (hR5 : (M.1 13 1).toInt = 0) (hR6 : (M.1 13 2).toInt = 0) (hR7 : (M.1 21 3).toInt = 0) (hR8 : (M.1 21 4).toInt = 0) (hR9 : (M.1 163 7).toInt = 0) (hR10 : (M.1 171 5).toInt = 0) (hR11 : (M.1 175 1).toInt = 0) (hR12 : (M.1 175 4).toInt = 0) (hR13 : (M.1 175 7).toInt = 0) (hR14 : (M.1 175 9).toInt = 0) (hR15 : (M.1 175 23).toInt = 0) (hR16 : (M.1 175 38).toInt = 0) (hR17 : (M.1 175 43).toInt = 0) (hR18 : (M.1 176 18).toInt = 0) (hR19 : (M.1 176 19).toInt = 0) (hR20 : (M.1 176 20).toInt = 0) (Pwq_M : li_wq (M.1 192) ((M.1 175 35).toInt) (121) (0) (0)) (Pkz_M : ∀ i : Nat, (M.1 202 i).toInt = 0) (KK : ∀ (k : Nat) (M : li_M), li_J M → k ≤ kc + 1 → l3_T l Z b L xs k 1456 [(4, .int x4), (0, .ref b), (1, .ref (Z.2.2 0)), (2, .ref (Z.2.2 175)), (3, .ref (Z.2.2 204))] [] M Q) : l3_T l Z b L xs kc 1162 [(4, .int x4), (0, .ref b), (1, .ref (Z.2.2 0)), (2, .ref (Z.2.2 175)), (3, .ref (Z.2.2 204))] [] M Q := by
  have rJ1 := J_sl1 (M := M) hJ
  have rJ4 := J_sl4 (M := M) hJ
  have rJ7 := J_sl7 (M := M) hJ
  have rJ9 := J_sl9 (M := M) hJ
  have rJ23 := J_sl23 (M := M) hJ
  have rJ38 := J_sl38 (M := M) hJ
  refine l3_aload_n 2 dL_law_1162 rfl ?_
  refine l3_aload_n 1 dL_law_1163 rfl ?_
  refine l3_iload 0 dL_law_1164 rfl ?_
  refine l3_iconst 1 dL_law_1166 (by decide) ?_
  refine l3_iadd dL_law_1167 ?_
  refine l3_sld dL_law_1168 v1 ?_
  refine l3_aload_n 1 dL_law_1169 rfl ?_
  refine l3_iload 0 dL_law_1170 rfl ?_
  refine l3_iconst 2 dL_law_1172 (by decide) ?_
  refine l3_iadd dL_law_1173 ?_
  refine l3_sld dL_law_1174 v2 ?_
  refine l3_callV (n := 2) (As := [.int (xs (x4 + 1 : Int32).toNatClampNeg), .int (xs (x4 + 2 : Int32).toNatClampNeg)]) (by omega) dL_law_1175 (k15_X11_read 1000 (by omega) (xs (x4 + 1 : Int32).toNatClampNeg) (xs (x4 + 2 : Int32).toNatClampNeg) M (by first | omega | decide)) (Nat.le_of_ble_eq_true rfl) (Nat.le_of_ble_eq_true rfl) w_1160 w_1161 w_1162 w_101 w_1163 (by decide +kernel) rfl (by decide) sh_0 rfl rfl (Nat.le_of_ble_eq_true rfl) (fun r M1 h1 => ?_)
  obtain ⟨⟨y1, rfl, ky1⟩, h1⟩ := h1
  have hJ := l3_J hJ h1 (fun i h => by first | exact (h : False).elim | omega)
  have oM1_1_1 : (M1.1 1 1).toInt = (M.1 1 1).toInt := tl_slot (congrFun (h1.1 1 (fun h => by first | exact (h : False).elim | omega)) 1)
  have oM1_3_1 : (M1.1 3 1).toInt = (M.1 3 1).toInt := tl_slot (congrFun (h1.1 3 (fun h => by first | exact (h : False).elim | omega)) 1)
  have oM1_5_0 : (M1.1 5 0).toInt = (M.1 5 0).toInt := tl_slot (congrFun (h1.1 5 (fun h => by first | exact (h : False).elim | omega)) 0)
  have oM1_5_1 : (M1.1 5 1).toInt = (M.1 5 1).toInt := tl_slot (congrFun (h1.1 5 (fun h => by first | exact (h : False).elim | omega)) 1)
  have oM1_13_0 : (M1.1 13 0).toInt = (M.1 13 0).toInt := tl_slot (congrFun (h1.1 13 (fun h => by first | exact (h : False).elim | omega)) 0)
  have oM1_13_1 : (M1.1 13 1).toInt = (M.1 13 1).toInt := tl_slot (congrFun (h1.1 13 (fun h => by first | exact (h : False).elim | omega)) 1)
  have oM1_13_2 : (M1.1 13 2).toInt = (M.1 13 2).toInt := tl_slot (congrFun (h1.1 13 (fun h => by first | exact (h : False).elim | omega)) 2)
  have oM1_21_3 : (M1.1 21 3).toInt = (M.1 21 3).toInt := tl_slot (congrFun (h1.1 21 (fun h => by first | exact (h : False).elim | omega)) 3)
  have oM1_21_4 : (M1.1 21 4).toInt = (M.1 21 4).toInt := tl_slot (congrFun (h1.1 21 (fun h => by first | exact (h : False).elim | omega)) 4)
  have oM1_163_7 : (M1.1 163 7).toInt = (M.1 163 7).toInt := tl_slot (congrFun (h1.1 163 (fun h => by first | exact (h : False).elim | omega)) 7)
  have oM1_171_5 : (M1.1 171 5).toInt = (M.1 171 5).toInt := tl_slot (congrFun (h1.1 171 (fun h => by first | exact (h : False).elim | omega)) 5)
  have oM1_175_1 : (M1.1 175 1).toInt = (M.1 175 1).toInt := tl_slot (congrFun (h1.1 175 (fun h => by first | exact (h : False).elim | omega)) 1)
  have oM1_175_4 : (M1.1 175 4).toInt = (M.1 175 4).toInt := tl_slot (congrFun (h1.1 175 (fun h => by first | exact (h : False).elim | omega)) 4)
  have oM1_175_7 : (M1.1 175 7).toInt = (M.1 175 7).toInt := tl_slot (congrFun (h1.1 175 (fun h => by first | exact (h : False).elim | omega)) 7)
  have oM1_175_9 : (M1.1 175 9).toInt = (M.1 175 9).toInt := tl_slot (congrFun (h1.1 175 (fun h => by first | exact (h : False).elim | omega)) 9)
  have oM1_175_23 : (M1.1 175 23).toInt = (M.1 175 23).toInt := tl_slot (congrFun (h1.1 175 (fun h => by first | exact (h : False).elim | omega)) 23)
  have oM1_175_38 : (M1.1 175 38).toInt = (M.1 175 38).toInt := tl_slot (congrFun (h1.1 175 (fun h => by first | exact (h : False).elim | omega)) 38)
  have oM1_175_43 : (M1.1 175 43).toInt = (M.1 175 43).toInt := tl_slot (congrFun (h1.1 175 (fun h => by first | exact (h : False).elim | omega)) 43)
  have oM1_176_18 : (M1.1 176 18).toInt = (M.1 176 18).toInt := tl_slot (congrFun (h1.1 176 (fun h => by first | exact (h : False).elim | omega)) 18)
  have oM1_176_19 : (M1.1 176 19).toInt = (M.1 176 19).toInt := tl_slot (congrFun (h1.1 176 (fun h => by first | exact (h : False).elim | omega)) 19)
  have oM1_176_20 : (M1.1 176 20).toInt = (M.1 176 20).toInt := tl_slot (congrFun (h1.1 176 (fun h => by first | exact (h : False).elim | omega)) 20)
  have Pwq_M1 : li_wq (M1.1 192) ((M1.1 175 35).toInt) (121) (0) (0) := li_wq_mv (h1.1 192 (fun h => by first | exact (h : False).elim | omega)) (tl_slot (congrFun (h1.1 175 (fun h => by first | exact (h : False).elim | omega)) 35)) Pwq_M
  have Pkz_M1 : ∀ i : Nat, (M1.1 202 i).toInt = 0 := fun i => (tl_slot (congrFun (h1.1 202 (fun h => by first | exact (h : False).elim | omega)) i)).trans (Pkz_M i)
  refine l3_aload_n 3 dL_law_1178 rfl ?_
  refine l3_aload_n 1 dL_law_1179 rfl ?_
  refine l3_iload 0 dL_law_1180 rfl ?_
  refine l3_iconst 1 dL_law_1182 (by decide) ?_
  refine l3_iadd dL_law_1183 ?_
  refine l3_sld dL_law_1184 v1 ?_
  refine l3_aload_n 1 dL_law_1185 rfl ?_
  refine l3_iload 0 dL_law_1186 rfl ?_
  refine l3_iconst 2 dL_law_1188 (by decide) ?_
  refine l3_iadd dL_law_1189 ?_
  refine l3_sld dL_law_1190 v2 ?_
  refine l3_callV (n := 2) (As := [.int (xs (x4 + 1 : Int32).toNatClampNeg), .int (xs (x4 + 2 : Int32).toNatClampNeg)]) (by omega) dL_law_1191 (k15_X12_read 1000 (by omega) (xs (x4 + 1 : Int32).toNatClampNeg) (xs (x4 + 2 : Int32).toNatClampNeg) M1 hJ (by omega) ) (Nat.le_of_ble_eq_true rfl) (Nat.le_of_ble_eq_true rfl) w_1923 w_1924 w_1925 w_112 w_1926 (by decide +kernel) rfl (by decide) sh_175 rfl rfl (Nat.le_of_ble_eq_true rfl) (fun r M2 h2 => ?_)
  have jh2 := h2
  obtain ⟨⟨y2, rfl, ky2⟩, h2⟩ := h2
  have hJ := h2.2
  refine l3_icmp_eq 1456 dL_law_1194 (by decide) (fun c => ?_) (fun c => absurd (Int32.toInt_inj.mp (show (y1 : Int32).toInt = (y2 : Int32).toInt by omega)) c)
  exact KK _ M2 hJ (by omega)
set_option maxRecDepth 100000 in
set_option maxHeartbeats 4000000 in
theorem lc_30 {l : Launch} {Z : li_Z} {b L kc : Nat} {xs : Nat → Int32} {x4 : Int32} {M : li_M} {Q : Option Value → li_M → Prop} (htr : l.stackTraces = false) (hk : kc ≤ 512) (hJ : li_J M) (v1 : vp_in (x4 + 1) L) (v2 : vp_in (x4 + 2) L) (v3 : vp_in (x4 + 3) L) (v4 : vp_in (x4 + 4) L) (hR0 : (M.1 1 1).toInt = 0) (hR1 : (M.1 3 1).toInt = 0) (hR2 : (M.1 5 0).toInt = 0) (hR3 : (M.1 5 1).toInt = 0) (hR4 : (M.1 13 0).toInt = 0) (hR5 : (M.1 13 1).toInt = 0) (hR6 : (M.1 13 2).toInt = 0) (hR7 : (M.1 21 3).toInt = 0) (hR8 : (M.1 21 4).toInt = 0) (hR9 : (M.1 163 7).toInt = 0) (hR10 : (M.1 171 5).toInt = 0) (hR11 : (M.1 175 1).toInt = 0) (hR12 : (M.1 175 4).toInt = 0) (hR13 : (M.1 175 7).toInt = 0) (hR14 : (M.1 175 9).toInt = 0) (hR15 : (M.1 175 23).toInt = 0) (hR16 : (M.1 175 38).toInt = 0) (hR17 : (M.1 175 43).toInt = 0) (hR18 : (M.1 176 18).toInt = 0) (hR19 : (M.1 176 19).toInt = 0) (hR20 : (M.1 176 20).toInt = 0) (Pwq_M : li_wq (M.1 192) ((M.1 175 35).toInt) (121) (0) (0)) (Pkz_M : ∀ i : Nat, (M.1 202 i).toInt = 0) (KK : ∀ (k : Nat) (M : li_M), li_J M → k ≤ kc + 1 → l3_T l Z b L xs k 1456 [(4, .int x4), (0, .ref b), (1, .ref (Z.2.2 0)), (2, .ref (Z.2.2 175)), (3, .ref (Z.2.2 204))] [] M Q) : l3_T l Z b L xs kc 1199 [(4, .int x4), (0, .ref b), (1, .ref (Z.2.2 0)), (2, .ref (Z.2.2 175)), (3, .ref (Z.2.2 204))] [] M Q := by
  have rJ1 := J_sl1 (M := M) hJ
  have rJ4 := J_sl4 (M := M) hJ
  have rJ7 := J_sl7 (M := M) hJ
  have rJ9 := J_sl9 (M := M) hJ
  have rJ23 := J_sl23 (M := M) hJ
  have rJ38 := J_sl38 (M := M) hJ
  refine l3_aload_n 2 dL_law_1199 rfl ?_
  refine l3_callV (n := 0) (As := []) (by omega) dL_law_1200 (k6_X11_forget 1000 (by omega)  M) (Nat.le_of_ble_eq_true rfl) (Nat.le_of_ble_eq_true rfl) w_1169 w_1170 w_1171 w_101 w_1172 (by decide +kernel) rfl (by decide) sh_0 rfl rfl (Nat.le_of_ble_eq_true rfl) (fun r M1 h1 => ?_)
  obtain ⟨⟨y1, rfl, ky1⟩, h1⟩ := h1
  have hJ := l3_J hJ h1 (fun i h => by first | exact (h : False).elim | omega)
  have oM1_1_1 : (M1.1 1 1).toInt = (M.1 1 1).toInt := tl_slot (congrFun (h1.1 1 (fun h => by first | exact (h : False).elim | omega)) 1)
  have oM1_3_1 : (M1.1 3 1).toInt = (M.1 3 1).toInt := tl_slot (congrFun (h1.1 3 (fun h => by first | exact (h : False).elim | omega)) 1)
  have oM1_5_0 : (M1.1 5 0).toInt = (M.1 5 0).toInt := tl_slot (congrFun (h1.1 5 (fun h => by first | exact (h : False).elim | omega)) 0)
  have oM1_5_1 : (M1.1 5 1).toInt = (M.1 5 1).toInt := tl_slot (congrFun (h1.1 5 (fun h => by first | exact (h : False).elim | omega)) 1)
  have oM1_13_0 : (M1.1 13 0).toInt = (M.1 13 0).toInt := tl_slot (congrFun (h1.1 13 (fun h => by first | exact (h : False).elim | omega)) 0)
  have oM1_13_1 : (M1.1 13 1).toInt = (M.1 13 1).toInt := tl_slot (congrFun (h1.1 13 (fun h => by first | exact (h : False).elim | omega)) 1)
  have oM1_13_2 : (M1.1 13 2).toInt = (M.1 13 2).toInt := tl_slot (congrFun (h1.1 13 (fun h => by first | exact (h : False).elim | omega)) 2)
  have oM1_21_3 : (M1.1 21 3).toInt = (M.1 21 3).toInt := tl_slot (congrFun (h1.1 21 (fun h => by first | exact (h : False).elim | omega)) 3)
  have oM1_21_4 : (M1.1 21 4).toInt = (M.1 21 4).toInt := tl_slot (congrFun (h1.1 21 (fun h => by first | exact (h : False).elim | omega)) 4)
  have oM1_163_7 : (M1.1 163 7).toInt = (M.1 163 7).toInt := tl_slot (congrFun (h1.1 163 (fun h => by first | exact (h : False).elim | omega)) 7)
  have oM1_175_1 : (M1.1 175 1).toInt = (M.1 175 1).toInt := tl_slot (congrFun (h1.1 175 (fun h => by first | exact (h : False).elim | omega)) 1)
  have oM1_175_4 : (M1.1 175 4).toInt = (M.1 175 4).toInt := tl_slot (congrFun (h1.1 175 (fun h => by first | exact (h : False).elim | omega)) 4)
  have oM1_175_7 : (M1.1 175 7).toInt = (M.1 175 7).toInt := tl_slot (congrFun (h1.1 175 (fun h => by first | exact (h : False).elim | omega)) 7)
  have oM1_175_9 : (M1.1 175 9).toInt = (M.1 175 9).toInt := tl_slot (congrFun (h1.1 175 (fun h => by first | exact (h : False).elim | omega)) 9)
  have oM1_175_23 : (M1.1 175 23).toInt = (M.1 175 23).toInt := tl_slot (congrFun (h1.1 175 (fun h => by first | exact (h : False).elim | omega)) 23)
  have oM1_175_38 : (M1.1 175 38).toInt = (M.1 175 38).toInt := tl_slot (congrFun (h1.1 175 (fun h => by first | exact (h : False).elim | omega)) 38)
  have oM1_175_43 : (M1.1 175 43).toInt = (M.1 175 43).toInt := tl_slot (congrFun (h1.1 175 (fun h => by first | exact (h : False).elim | omega)) 43)
  have oM1_176_18 : (M1.1 176 18).toInt = (M.1 176 18).toInt := tl_slot (congrFun (h1.1 176 (fun h => by first | exact (h : False).elim | omega)) 18)
  have oM1_176_19 : (M1.1 176 19).toInt = (M.1 176 19).toInt := tl_slot (congrFun (h1.1 176 (fun h => by first | exact (h : False).elim | omega)) 19)
  have oM1_176_20 : (M1.1 176 20).toInt = (M.1 176 20).toInt := tl_slot (congrFun (h1.1 176 (fun h => by first | exact (h : False).elim | omega)) 20)
  have Pwq_M1 : li_wq (M1.1 192) ((M1.1 175 35).toInt) (121) (0) (0) := li_wq_mv (h1.1 192 (fun h => by first | exact (h : False).elim | omega)) (tl_slot (congrFun (h1.1 175 (fun h => by first | exact (h : False).elim | omega)) 35)) Pwq_M
  have Pkz_M1 : ∀ i : Nat, (M1.1 202 i).toInt = 0 := fun i => (tl_slot (congrFun (h1.1 202 (fun h => by first | exact (h : False).elim | omega)) i)).trans (Pkz_M i)
  have i1 : M1.1 175 43 = M.1 171 5 := (congrFun (h1.1 175 (fun h => by first | exact (h : False).elim | omega)) 43).trans (Int32.toInt_inj.mp (by omega))
  refine l3_aload_n 3 dL_law_1203 rfl ?_
  refine l3_callV (n := 0) (As := []) (by omega) dL_law_1204 (k6_X12_forget 1000 (by omega)  M1 hJ ) (Nat.le_of_ble_eq_true rfl) (Nat.le_of_ble_eq_true rfl) w_1927 w_1928 w_1929 w_112 w_1930 (by decide +kernel) rfl (by decide) sh_175 rfl rfl (Nat.le_of_ble_eq_true rfl) (fun r M2 h2 => ?_)
  have jh2 := h2
  obtain ⟨⟨y2, rfl, ky2⟩, h2⟩ := h2
  have hJ := h2.2
  rw [i1] at ky2
  refine l3_icmp_eq 1456 dL_law_1207 (by decide) (fun c => ?_) (fun c => absurd (Int32.toInt_inj.mp (show (y1 : Int32).toInt = (y2 : Int32).toInt by omega)) c)
  exact KK _ M2 hJ (by omega)
set_option maxRecDepth 100000 in
set_option maxHeartbeats 4000000 in
theorem lc_31 {l : Launch} {Z : li_Z} {b L kc : Nat} {xs : Nat → Int32} {x4 : Int32} {M : li_M} {Q : Option Value → li_M → Prop} (htr : l.stackTraces = false) (hk : kc ≤ 512) (hJ : li_J M) (v1 : vp_in (x4 + 1) L) (v2 : vp_in (x4 + 2) L) (v3 : vp_in (x4 + 3) L) (v4 : vp_in (x4 + 4) L) (hR0 : (M.1 1 1).toInt = 0) (hR1 : (M.1 3 1).toInt = 0) (hR2 : (M.1 5 0).toInt = 0) (hR3 : (M.1 5 1).toInt = 0) (hR4 : (M.1 13 0).toInt = 0) (hR5 : (M.1 13 1).toInt = 0) (hR6 : (M.1 13 2).toInt = 0) (hR7 : (M.1 21 3).toInt = 0) (hR8 : (M.1 21 4).toInt = 0) (hR9 : (M.1 163 7).toInt = 0) (hR10 : (M.1 171 5).toInt = 0) (hR11 : (M.1 175 1).toInt = 0) (hR12 : (M.1 175 4).toInt = 0) (hR13 : (M.1 175 7).toInt = 0) (hR14 : (M.1 175 9).toInt = 0) (hR15 : (M.1 175 23).toInt = 0) (hR16 : (M.1 175 38).toInt = 0) (hR17 : (M.1 175 43).toInt = 0) (hR18 : (M.1 176 18).toInt = 0) (hR19 : (M.1 176 19).toInt = 0) (hR20 : (M.1 176 20).toInt = 0) (Pwq_M : li_wq (M.1 192) ((M.1 175 35).toInt) (121) (0) (0)) (Pkz_M : ∀ i : Nat, (M.1 202 i).toInt = 0) (KK : ∀ (k : Nat) (M : li_M), li_J M → k ≤ kc + 1 → l3_T l Z b L xs k 1456 [(4, .int x4), (0, .ref b), (1, .ref (Z.2.2 0)), (2, .ref (Z.2.2 175)), (3, .ref (Z.2.2 204))] [] M Q) : l3_T l Z b L xs kc 1212 [(4, .int x4), (0, .ref b), (1, .ref (Z.2.2 0)), (2, .ref (Z.2.2 175)), (3, .ref (Z.2.2 204))] [] M Q := by
  have rJ1 := J_sl1 (M := M) hJ
  have rJ4 := J_sl4 (M := M) hJ
  have rJ7 := J_sl7 (M := M) hJ
  have rJ9 := J_sl9 (M := M) hJ
  have rJ23 := J_sl23 (M := M) hJ
  have rJ38 := J_sl38 (M := M) hJ
  refine l3_aload_n 2 dL_law_1212 rfl ?_
  refine l3_aload_n 1 dL_law_1213 rfl ?_
  refine l3_iload 0 dL_law_1214 rfl ?_
  refine l3_iconst 1 dL_law_1216 (by decide) ?_
  refine l3_iadd dL_law_1217 ?_
  refine l3_sld dL_law_1218 v1 ?_
  refine l3_callV (n := 1) (As := [.int (xs (x4 + 1 : Int32).toNatClampNeg)]) (by omega) dL_law_1219 (k15_X11_spoke 1000 (by omega) (xs (x4 + 1 : Int32).toNatClampNeg) M (by first | omega | decide)) (Nat.le_of_ble_eq_true rfl) (Nat.le_of_ble_eq_true rfl) w_1173 w_1174 w_1175 w_101 w_1176 (by decide +kernel) rfl (by decide) sh_0 rfl rfl (Nat.le_of_ble_eq_true rfl) (fun r M1 h1 => ?_)
  obtain ⟨⟨y1, rfl, ky1⟩, h1⟩ := h1
  have hJ := l3_J hJ h1 (fun i h => by first | exact (h : False).elim | omega)
  have oM1_1_1 : (M1.1 1 1).toInt = (M.1 1 1).toInt := tl_slot (congrFun (h1.1 1 (fun h => by first | exact (h : False).elim | omega)) 1)
  have oM1_3_1 : (M1.1 3 1).toInt = (M.1 3 1).toInt := tl_slot (congrFun (h1.1 3 (fun h => by first | exact (h : False).elim | omega)) 1)
  have oM1_5_0 : (M1.1 5 0).toInt = (M.1 5 0).toInt := tl_slot (congrFun (h1.1 5 (fun h => by first | exact (h : False).elim | omega)) 0)
  have oM1_5_1 : (M1.1 5 1).toInt = (M.1 5 1).toInt := tl_slot (congrFun (h1.1 5 (fun h => by first | exact (h : False).elim | omega)) 1)
  have oM1_13_0 : (M1.1 13 0).toInt = (M.1 13 0).toInt := tl_slot (congrFun (h1.1 13 (fun h => by first | exact (h : False).elim | omega)) 0)
  have oM1_13_1 : (M1.1 13 1).toInt = (M.1 13 1).toInt := tl_slot (congrFun (h1.1 13 (fun h => by first | exact (h : False).elim | omega)) 1)
  have oM1_13_2 : (M1.1 13 2).toInt = (M.1 13 2).toInt := tl_slot (congrFun (h1.1 13 (fun h => by first | exact (h : False).elim | omega)) 2)
  have oM1_21_3 : (M1.1 21 3).toInt = (M.1 21 3).toInt := tl_slot (congrFun (h1.1 21 (fun h => by first | exact (h : False).elim | omega)) 3)
  have oM1_21_4 : (M1.1 21 4).toInt = (M.1 21 4).toInt := tl_slot (congrFun (h1.1 21 (fun h => by first | exact (h : False).elim | omega)) 4)
  have oM1_163_7 : (M1.1 163 7).toInt = (M.1 163 7).toInt := tl_slot (congrFun (h1.1 163 (fun h => by first | exact (h : False).elim | omega)) 7)
  have oM1_171_5 : (M1.1 171 5).toInt = (M.1 171 5).toInt := tl_slot (congrFun (h1.1 171 (fun h => by first | exact (h : False).elim | omega)) 5)
  have oM1_175_1 : (M1.1 175 1).toInt = (M.1 175 1).toInt := tl_slot (congrFun (h1.1 175 (fun h => by first | exact (h : False).elim | omega)) 1)
  have oM1_175_4 : (M1.1 175 4).toInt = (M.1 175 4).toInt := tl_slot (congrFun (h1.1 175 (fun h => by first | exact (h : False).elim | omega)) 4)
  have oM1_175_7 : (M1.1 175 7).toInt = (M.1 175 7).toInt := tl_slot (congrFun (h1.1 175 (fun h => by first | exact (h : False).elim | omega)) 7)
  have oM1_175_9 : (M1.1 175 9).toInt = (M.1 175 9).toInt := tl_slot (congrFun (h1.1 175 (fun h => by first | exact (h : False).elim | omega)) 9)
  have oM1_175_23 : (M1.1 175 23).toInt = (M.1 175 23).toInt := tl_slot (congrFun (h1.1 175 (fun h => by first | exact (h : False).elim | omega)) 23)
  have oM1_175_38 : (M1.1 175 38).toInt = (M.1 175 38).toInt := tl_slot (congrFun (h1.1 175 (fun h => by first | exact (h : False).elim | omega)) 38)
  have oM1_175_43 : (M1.1 175 43).toInt = (M.1 175 43).toInt := tl_slot (congrFun (h1.1 175 (fun h => by first | exact (h : False).elim | omega)) 43)
  have oM1_176_18 : (M1.1 176 18).toInt = (M.1 176 18).toInt := tl_slot (congrFun (h1.1 176 (fun h => by first | exact (h : False).elim | omega)) 18)
  have oM1_176_19 : (M1.1 176 19).toInt = (M.1 176 19).toInt := tl_slot (congrFun (h1.1 176 (fun h => by first | exact (h : False).elim | omega)) 19)
  have oM1_176_20 : (M1.1 176 20).toInt = (M.1 176 20).toInt := tl_slot (congrFun (h1.1 176 (fun h => by first | exact (h : False).elim | omega)) 20)
  have Pwq_M1 : li_wq (M1.1 192) ((M1.1 175 35).toInt) (121) (0) (0) := li_wq_mv (h1.1 192 (fun h => by first | exact (h : False).elim | omega)) (tl_slot (congrFun (h1.1 175 (fun h => by first | exact (h : False).elim | omega)) 35)) Pwq_M
  have Pkz_M1 : ∀ i : Nat, (M1.1 202 i).toInt = 0 := fun i => (tl_slot (congrFun (h1.1 202 (fun h => by first | exact (h : False).elim | omega)) i)).trans (Pkz_M i)
  refine l3_aload_n 3 dL_law_1222 rfl ?_
  refine l3_aload_n 1 dL_law_1223 rfl ?_
  refine l3_iload 0 dL_law_1224 rfl ?_
  refine l3_iconst 1 dL_law_1226 (by decide) ?_
  refine l3_iadd dL_law_1227 ?_
  refine l3_sld dL_law_1228 v1 ?_
  refine l3_callV (n := 1) (As := [.int (xs (x4 + 1 : Int32).toNatClampNeg)]) (by omega) dL_law_1229 (k15_X12_spoke 1000 (by omega) (xs (x4 + 1 : Int32).toNatClampNeg) M1 hJ (by omega) ) (Nat.le_of_ble_eq_true rfl) (Nat.le_of_ble_eq_true rfl) w_1931 w_1932 w_1933 w_112 w_1934 (by decide +kernel) rfl (by decide) sh_175 rfl rfl (Nat.le_of_ble_eq_true rfl) (fun r M2 h2 => ?_)
  have jh2 := h2
  obtain ⟨⟨y2, rfl, ky2⟩, h2⟩ := h2
  have hJ := h2.2
  refine l3_icmp_eq 1456 dL_law_1232 (by decide) (fun c => ?_) (fun c => absurd (Int32.toInt_inj.mp (show (y1 : Int32).toInt = (y2 : Int32).toInt by omega)) c)
  exact KK _ M2 hJ (by omega)
set_option maxRecDepth 100000 in
set_option maxHeartbeats 4000000 in
theorem lc_32 {l : Launch} {Z : li_Z} {b L kc : Nat} {xs : Nat → Int32} {x4 : Int32} {M : li_M} {Q : Option Value → li_M → Prop} (htr : l.stackTraces = false) (hk : kc ≤ 512) (hJ : li_J M) (v1 : vp_in (x4 + 1) L) (v2 : vp_in (x4 + 2) L) (v3 : vp_in (x4 + 3) L) (v4 : vp_in (x4 + 4) L) (hR0 : (M.1 1 1).toInt = 0) (hR1 : (M.1 3 1).toInt = 0) (hR2 : (M.1 5 0).toInt = 0) (hR3 : (M.1 5 1).toInt = 0) (hR4 : (M.1 13 0).toInt = 0) (hR5 : (M.1 13 1).toInt = 0) (hR6 : (M.1 13 2).toInt = 0) (hR7 : (M.1 21 3).toInt = 0) (hR8 : (M.1 21 4).toInt = 0) (hR9 : (M.1 163 7).toInt = 0) (hR10 : (M.1 171 5).toInt = 0) (hR11 : (M.1 175 1).toInt = 0) (hR12 : (M.1 175 4).toInt = 0) (hR13 : (M.1 175 7).toInt = 0) (hR14 : (M.1 175 9).toInt = 0) (hR15 : (M.1 175 23).toInt = 0) (hR16 : (M.1 175 38).toInt = 0) (hR17 : (M.1 175 43).toInt = 0) (hR18 : (M.1 176 18).toInt = 0) (hR19 : (M.1 176 19).toInt = 0) (hR20 : (M.1 176 20).toInt = 0) (Pwq_M : li_wq (M.1 192) ((M.1 175 35).toInt) (121) (0) (0)) (Pkz_M : ∀ i : Nat, (M.1 202 i).toInt = 0) (KK : ∀ (k : Nat) (M : li_M), li_J M → k ≤ kc + 1 → l3_T l Z b L xs k 1456 [(4, .int x4), (0, .ref b), (1, .ref (Z.2.2 0)), (2, .ref (Z.2.2 175)), (3, .ref (Z.2.2 204))] [] M Q) : l3_T l Z b L xs kc 1237 [(4, .int x4), (0, .ref b), (1, .ref (Z.2.2 0)), (2, .ref (Z.2.2 175)), (3, .ref (Z.2.2 204))] [] M Q := by
  have rJ1 := J_sl1 (M := M) hJ
  have rJ4 := J_sl4 (M := M) hJ
  have rJ7 := J_sl7 (M := M) hJ
  have rJ9 := J_sl9 (M := M) hJ
  have rJ23 := J_sl23 (M := M) hJ
  have rJ38 := J_sl38 (M := M) hJ
  refine l3_aload_n 2 dL_law_1237 rfl ?_
  refine l3_callV (n := 0) (As := []) (by omega) dL_law_1238 (k15_X11_look 1000 (by omega)  M (by first | omega | decide) (by first | omega | decide)) (Nat.le_of_ble_eq_true rfl) (Nat.le_of_ble_eq_true rfl) w_1214 w_1215 w_1216 w_101 w_1217 (by decide +kernel) rfl (by decide) sh_0 rfl rfl (Nat.le_of_ble_eq_true rfl) (fun r M1 h1 => ?_)
  obtain ⟨⟨y1, rfl, ky1⟩, h1⟩ := h1
  have hJ := l3_J hJ h1 (fun i h => by first | exact (h : False).elim | omega)
  have oM1_1_1 : (M1.1 1 1).toInt = (M.1 1 1).toInt := tl_slot (congrFun (h1.1 1 (fun h => by first | exact (h : False).elim | omega)) 1)
  have oM1_3_1 : (M1.1 3 1).toInt = (M.1 3 1).toInt := tl_slot (congrFun (h1.1 3 (fun h => by first | exact (h : False).elim | omega)) 1)
  have oM1_5_0 : (M1.1 5 0).toInt = (M.1 5 0).toInt := tl_slot (congrFun (h1.1 5 (fun h => by first | exact (h : False).elim | omega)) 0)
  have oM1_5_1 : (M1.1 5 1).toInt = (M.1 5 1).toInt := tl_slot (congrFun (h1.1 5 (fun h => by first | exact (h : False).elim | omega)) 1)
  have oM1_13_0 : (M1.1 13 0).toInt = (M.1 13 0).toInt := tl_slot (congrFun (h1.1 13 (fun h => by first | exact (h : False).elim | omega)) 0)
  have oM1_13_1 : (M1.1 13 1).toInt = (M.1 13 1).toInt := tl_slot (congrFun (h1.1 13 (fun h => by first | exact (h : False).elim | omega)) 1)
  have oM1_13_2 : (M1.1 13 2).toInt = (M.1 13 2).toInt := tl_slot (congrFun (h1.1 13 (fun h => by first | exact (h : False).elim | omega)) 2)
  have oM1_21_3 : (M1.1 21 3).toInt = (M.1 21 3).toInt := tl_slot (congrFun (h1.1 21 (fun h => by first | exact (h : False).elim | omega)) 3)
  have oM1_21_4 : (M1.1 21 4).toInt = (M.1 21 4).toInt := tl_slot (congrFun (h1.1 21 (fun h => by first | exact (h : False).elim | omega)) 4)
  have oM1_163_7 : (M1.1 163 7).toInt = (M.1 163 7).toInt := tl_slot (congrFun (h1.1 163 (fun h => by first | exact (h : False).elim | omega)) 7)
  have oM1_171_5 : (M1.1 171 5).toInt = (M.1 171 5).toInt := tl_slot (congrFun (h1.1 171 (fun h => by first | exact (h : False).elim | omega)) 5)
  have oM1_175_1 : (M1.1 175 1).toInt = (M.1 175 1).toInt := tl_slot (congrFun (h1.1 175 (fun h => by first | exact (h : False).elim | omega)) 1)
  have oM1_175_4 : (M1.1 175 4).toInt = (M.1 175 4).toInt := tl_slot (congrFun (h1.1 175 (fun h => by first | exact (h : False).elim | omega)) 4)
  have oM1_175_7 : (M1.1 175 7).toInt = (M.1 175 7).toInt := tl_slot (congrFun (h1.1 175 (fun h => by first | exact (h : False).elim | omega)) 7)
  have oM1_175_9 : (M1.1 175 9).toInt = (M.1 175 9).toInt := tl_slot (congrFun (h1.1 175 (fun h => by first | exact (h : False).elim | omega)) 9)
  have oM1_175_23 : (M1.1 175 23).toInt = (M.1 175 23).toInt := tl_slot (congrFun (h1.1 175 (fun h => by first | exact (h : False).elim | omega)) 23)
  have oM1_175_38 : (M1.1 175 38).toInt = (M.1 175 38).toInt := tl_slot (congrFun (h1.1 175 (fun h => by first | exact (h : False).elim | omega)) 38)
  have oM1_175_43 : (M1.1 175 43).toInt = (M.1 175 43).toInt := tl_slot (congrFun (h1.1 175 (fun h => by first | exact (h : False).elim | omega)) 43)
  have oM1_176_18 : (M1.1 176 18).toInt = (M.1 176 18).toInt := tl_slot (congrFun (h1.1 176 (fun h => by first | exact (h : False).elim | omega)) 18)
  have oM1_176_19 : (M1.1 176 19).toInt = (M.1 176 19).toInt := tl_slot (congrFun (h1.1 176 (fun h => by first | exact (h : False).elim | omega)) 19)
  have oM1_176_20 : (M1.1 176 20).toInt = (M.1 176 20).toInt := tl_slot (congrFun (h1.1 176 (fun h => by first | exact (h : False).elim | omega)) 20)
  have Pwq_M1 : li_wq (M1.1 192) ((M1.1 175 35).toInt) (121) (0) (0) := li_wq_mv (h1.1 192 (fun h => by first | exact (h : False).elim | omega)) (tl_slot (congrFun (h1.1 175 (fun h => by first | exact (h : False).elim | omega)) 35)) Pwq_M
  have Pkz_M1 : ∀ i : Nat, (M1.1 202 i).toInt = 0 := fun i => (tl_slot (congrFun (h1.1 202 (fun h => by first | exact (h : False).elim | omega)) i)).trans (Pkz_M i)
  refine l3_aload_n 3 dL_law_1241 rfl ?_
  refine l3_callV (n := 0) (As := []) (by omega) dL_law_1242 (k15_X12_look 1000 (by omega)  M1 hJ (by omega) ) (Nat.le_of_ble_eq_true rfl) (Nat.le_of_ble_eq_true rfl) w_1947 w_1948 w_1949 w_112 w_1950 (by decide +kernel) rfl (by decide) sh_175 rfl rfl (Nat.le_of_ble_eq_true rfl) (fun r M2 h2 => ?_)
  have jh2 := h2
  obtain ⟨⟨y2, rfl, ky2⟩, h2⟩ := h2
  have hJ := h2.2
  refine l3_icmp_eq 1456 dL_law_1245 (by decide) (fun c => ?_) (fun c => absurd (Int32.toInt_inj.mp (show (y1 : Int32).toInt = (y2 : Int32).toInt by omega)) c)
  exact KK _ M2 hJ (by omega)
set_option maxRecDepth 100000 in
set_option maxHeartbeats 4000000 in
theorem lc_33 {l : Launch} {Z : li_Z} {b L kc : Nat} {xs : Nat → Int32} {x4 : Int32} {M : li_M} {Q : Option Value → li_M → Prop} (htr : l.stackTraces = false) (hk : kc ≤ 512) (hJ : li_J M) (v1 : vp_in (x4 + 1) L) (v2 : vp_in (x4 + 2) L) (v3 : vp_in (x4 + 3) L) (v4 : vp_in (x4 + 4) L) (hR0 : (M.1 1 1).toInt = 0) (hR1 : (M.1 3 1).toInt = 0) (hR2 : (M.1 5 0).toInt = 0) (hR3 : (M.1 5 1).toInt = 0) (hR4 : (M.1 13 0).toInt = 0) (hR5 : (M.1 13 1).toInt = 0) (hR6 : (M.1 13 2).toInt = 0) (hR7 : (M.1 21 3).toInt = 0) (hR8 : (M.1 21 4).toInt = 0) (hR9 : (M.1 163 7).toInt = 0) (hR10 : (M.1 171 5).toInt = 0) (hR11 : (M.1 175 1).toInt = 0) (hR12 : (M.1 175 4).toInt = 0) (hR13 : (M.1 175 7).toInt = 0) (hR14 : (M.1 175 9).toInt = 0) (hR15 : (M.1 175 23).toInt = 0) (hR16 : (M.1 175 38).toInt = 0) (hR17 : (M.1 175 43).toInt = 0) (hR18 : (M.1 176 18).toInt = 0) (hR19 : (M.1 176 19).toInt = 0) (hR20 : (M.1 176 20).toInt = 0) (Pwq_M : li_wq (M.1 192) ((M.1 175 35).toInt) (121) (0) (0)) (Pkz_M : ∀ i : Nat, (M.1 202 i).toInt = 0) (KK : ∀ (k : Nat) (M : li_M), li_J M → k ≤ kc + 1 → l3_T l Z b L xs k 1456 [(4, .int x4), (0, .ref b), (1, .ref (Z.2.2 0)), (2, .ref (Z.2.2 175)), (3, .ref (Z.2.2 204))] [] M Q) : l3_T l Z b L xs kc 1250 [(4, .int x4), (0, .ref b), (1, .ref (Z.2.2 0)), (2, .ref (Z.2.2 175)), (3, .ref (Z.2.2 204))] [] M Q := by
  have rJ1 := J_sl1 (M := M) hJ
  have rJ4 := J_sl4 (M := M) hJ
  have rJ7 := J_sl7 (M := M) hJ
  have rJ9 := J_sl9 (M := M) hJ
  have rJ23 := J_sl23 (M := M) hJ
  have rJ38 := J_sl38 (M := M) hJ
  refine l3_aload_n 2 dL_law_1250 rfl ?_
  refine l3_callV (n := 0) (As := []) (by omega) dL_law_1251 (k15_X11_rate 1000 (by omega)  M (by first | omega | decide) (by first | omega | decide) (by first | omega | decide)) (Nat.le_of_ble_eq_true rfl) (Nat.le_of_ble_eq_true rfl) w_1228 w_1229 w_1230 w_101 w_1231 (by decide +kernel) rfl (by decide) sh_0 rfl rfl (Nat.le_of_ble_eq_true rfl) (fun r M1 h1 => ?_)
  obtain ⟨⟨y1, rfl, ky1⟩, h1⟩ := h1
  have hJ := l3_J hJ h1 (fun i h => by first | exact (h : False).elim | omega)
  have oM1_5_0 : (M1.1 5 0).toInt = (M.1 5 0).toInt := tl_slot (congrFun (h1.1 5 (fun h => by first | exact (h : False).elim | omega)) 0)
  have oM1_5_1 : (M1.1 5 1).toInt = (M.1 5 1).toInt := tl_slot (congrFun (h1.1 5 (fun h => by first | exact (h : False).elim | omega)) 1)
  have oM1_13_0 : (M1.1 13 0).toInt = (M.1 13 0).toInt := tl_slot (congrFun (h1.1 13 (fun h => by first | exact (h : False).elim | omega)) 0)
  have oM1_13_1 : (M1.1 13 1).toInt = (M.1 13 1).toInt := tl_slot (congrFun (h1.1 13 (fun h => by first | exact (h : False).elim | omega)) 1)
  have oM1_13_2 : (M1.1 13 2).toInt = (M.1 13 2).toInt := tl_slot (congrFun (h1.1 13 (fun h => by first | exact (h : False).elim | omega)) 2)
  have oM1_21_3 : (M1.1 21 3).toInt = (M.1 21 3).toInt := tl_slot (congrFun (h1.1 21 (fun h => by first | exact (h : False).elim | omega)) 3)
  have oM1_21_4 : (M1.1 21 4).toInt = (M.1 21 4).toInt := tl_slot (congrFun (h1.1 21 (fun h => by first | exact (h : False).elim | omega)) 4)
  have oM1_163_7 : (M1.1 163 7).toInt = (M.1 163 7).toInt := tl_slot (congrFun (h1.1 163 (fun h => by first | exact (h : False).elim | omega)) 7)
  have oM1_171_5 : (M1.1 171 5).toInt = (M.1 171 5).toInt := tl_slot (congrFun (h1.1 171 (fun h => by first | exact (h : False).elim | omega)) 5)
  have oM1_175_1 : (M1.1 175 1).toInt = (M.1 175 1).toInt := tl_slot (congrFun (h1.1 175 (fun h => by first | exact (h : False).elim | omega)) 1)
  have oM1_175_4 : (M1.1 175 4).toInt = (M.1 175 4).toInt := tl_slot (congrFun (h1.1 175 (fun h => by first | exact (h : False).elim | omega)) 4)
  have oM1_175_7 : (M1.1 175 7).toInt = (M.1 175 7).toInt := tl_slot (congrFun (h1.1 175 (fun h => by first | exact (h : False).elim | omega)) 7)
  have oM1_175_9 : (M1.1 175 9).toInt = (M.1 175 9).toInt := tl_slot (congrFun (h1.1 175 (fun h => by first | exact (h : False).elim | omega)) 9)
  have oM1_175_23 : (M1.1 175 23).toInt = (M.1 175 23).toInt := tl_slot (congrFun (h1.1 175 (fun h => by first | exact (h : False).elim | omega)) 23)
  have oM1_175_38 : (M1.1 175 38).toInt = (M.1 175 38).toInt := tl_slot (congrFun (h1.1 175 (fun h => by first | exact (h : False).elim | omega)) 38)
  have oM1_175_43 : (M1.1 175 43).toInt = (M.1 175 43).toInt := tl_slot (congrFun (h1.1 175 (fun h => by first | exact (h : False).elim | omega)) 43)
  have oM1_176_18 : (M1.1 176 18).toInt = (M.1 176 18).toInt := tl_slot (congrFun (h1.1 176 (fun h => by first | exact (h : False).elim | omega)) 18)
  have oM1_176_19 : (M1.1 176 19).toInt = (M.1 176 19).toInt := tl_slot (congrFun (h1.1 176 (fun h => by first | exact (h : False).elim | omega)) 19)
  have oM1_176_20 : (M1.1 176 20).toInt = (M.1 176 20).toInt := tl_slot (congrFun (h1.1 176 (fun h => by first | exact (h : False).elim | omega)) 20)
  have Pwq_M1 : li_wq (M1.1 192) ((M1.1 175 35).toInt) (121) (0) (0) := li_wq_mv (h1.1 192 (fun h => by first | exact (h : False).elim | omega)) (tl_slot (congrFun (h1.1 175 (fun h => by first | exact (h : False).elim | omega)) 35)) Pwq_M
  have Pkz_M1 : ∀ i : Nat, (M1.1 202 i).toInt = 0 := fun i => (tl_slot (congrFun (h1.1 202 (fun h => by first | exact (h : False).elim | omega)) i)).trans (Pkz_M i)
  refine l3_aload_n 3 dL_law_1254 rfl ?_
  refine l3_callV (n := 0) (As := []) (by omega) dL_law_1255 (k15_X12_rate 1000 (by omega)  M1 hJ (by omega) (by omega) (by omega) ) (Nat.le_of_ble_eq_true rfl) (Nat.le_of_ble_eq_true rfl) w_1951 w_1952 w_1953 w_112 w_1954 (by decide +kernel) rfl (by decide) sh_175 rfl rfl (Nat.le_of_ble_eq_true rfl) (fun r M2 h2 => ?_)
  have jh2 := h2
  obtain ⟨⟨y2, rfl, ky2⟩, h2⟩ := h2
  have hJ := h2.2
  refine l3_icmp_eq 1456 dL_law_1258 (by decide) (fun c => ?_) (fun c => absurd (Int32.toInt_inj.mp (show (y1 : Int32).toInt = (y2 : Int32).toInt by omega)) c)
  exact KK _ M2 hJ (by omega)
set_option maxRecDepth 100000 in
set_option maxHeartbeats 4000000 in
theorem lc_34 {l : Launch} {Z : li_Z} {b L kc : Nat} {xs : Nat → Int32} {x4 : Int32} {M : li_M} {Q : Option Value → li_M → Prop} (htr : l.stackTraces = false) (hk : kc ≤ 512) (hJ : li_J M) (v1 : vp_in (x4 + 1) L) (v2 : vp_in (x4 + 2) L) (v3 : vp_in (x4 + 3) L) (v4 : vp_in (x4 + 4) L) (hR0 : (M.1 1 1).toInt = 0) (hR1 : (M.1 3 1).toInt = 0) (hR2 : (M.1 5 0).toInt = 0) (hR3 : (M.1 5 1).toInt = 0) (hR4 : (M.1 13 0).toInt = 0) (hR5 : (M.1 13 1).toInt = 0) (hR6 : (M.1 13 2).toInt = 0) (hR7 : (M.1 21 3).toInt = 0) (hR8 : (M.1 21 4).toInt = 0) (hR9 : (M.1 163 7).toInt = 0) (hR10 : (M.1 171 5).toInt = 0) (hR11 : (M.1 175 1).toInt = 0) (hR12 : (M.1 175 4).toInt = 0) (hR13 : (M.1 175 7).toInt = 0) (hR14 : (M.1 175 9).toInt = 0) (hR15 : (M.1 175 23).toInt = 0) (hR16 : (M.1 175 38).toInt = 0) (hR17 : (M.1 175 43).toInt = 0) (hR18 : (M.1 176 18).toInt = 0) (hR19 : (M.1 176 19).toInt = 0) (hR20 : (M.1 176 20).toInt = 0) (Pwq_M : li_wq (M.1 192) ((M.1 175 35).toInt) (121) (0) (0)) (Pkz_M : ∀ i : Nat, (M.1 202 i).toInt = 0) (KK : ∀ (k : Nat) (M : li_M), li_J M → k ≤ kc + 1 → l3_T l Z b L xs k 1456 [(4, .int x4), (0, .ref b), (1, .ref (Z.2.2 0)), (2, .ref (Z.2.2 175)), (3, .ref (Z.2.2 204))] [] M Q) : l3_T l Z b L xs kc 1263 [(4, .int x4), (0, .ref b), (1, .ref (Z.2.2 0)), (2, .ref (Z.2.2 175)), (3, .ref (Z.2.2 204))] [] M Q := by
  have rJ1 := J_sl1 (M := M) hJ
  have rJ4 := J_sl4 (M := M) hJ
  have rJ7 := J_sl7 (M := M) hJ
  have rJ9 := J_sl9 (M := M) hJ
  have rJ23 := J_sl23 (M := M) hJ
  have rJ38 := J_sl38 (M := M) hJ
  refine l3_aload_n 2 dL_law_1263 rfl ?_
  refine l3_aload_n 1 dL_law_1264 rfl ?_
  refine l3_iload 0 dL_law_1265 rfl ?_
  refine l3_iconst 1 dL_law_1267 (by decide) ?_
  refine l3_iadd dL_law_1268 ?_
  refine l3_sld dL_law_1269 v1 ?_
  refine l3_callV (n := 1) (As := [.int (xs (x4 + 1 : Int32).toNatClampNeg)]) (by omega) dL_law_1270 (k15_X11_run 1000 (by omega) (xs (x4 + 1 : Int32).toNatClampNeg) M (by first | omega | decide)) (Nat.le_of_ble_eq_true rfl) (Nat.le_of_ble_eq_true rfl) w_1236 w_1237 w_1238 w_101 w_1239 (by decide +kernel) rfl (by decide) sh_0 rfl rfl (Nat.le_of_ble_eq_true rfl) (fun r M1 h1 => ?_)
  obtain ⟨⟨y1, rfl, ky1⟩, h1⟩ := h1
  have hJ := l3_J hJ h1 (fun i h => by first | exact (h : False).elim | omega)
  have oM1_1_1 : (M1.1 1 1).toInt = (M.1 1 1).toInt := tl_slot (congrFun (h1.1 1 (fun h => by first | exact (h : False).elim | omega)) 1)
  have oM1_3_1 : (M1.1 3 1).toInt = (M.1 3 1).toInt := tl_slot (congrFun (h1.1 3 (fun h => by first | exact (h : False).elim | omega)) 1)
  have oM1_5_0 : (M1.1 5 0).toInt = (M.1 5 0).toInt := tl_slot (congrFun (h1.1 5 (fun h => by first | exact (h : False).elim | omega)) 0)
  have oM1_5_1 : (M1.1 5 1).toInt = (M.1 5 1).toInt := tl_slot (congrFun (h1.1 5 (fun h => by first | exact (h : False).elim | omega)) 1)
  have oM1_13_0 : (M1.1 13 0).toInt = (M.1 13 0).toInt := tl_slot (congrFun (h1.1 13 (fun h => by first | exact (h : False).elim | omega)) 0)
  have oM1_13_1 : (M1.1 13 1).toInt = (M.1 13 1).toInt := tl_slot (congrFun (h1.1 13 (fun h => by first | exact (h : False).elim | omega)) 1)
  have oM1_13_2 : (M1.1 13 2).toInt = (M.1 13 2).toInt := tl_slot (congrFun (h1.1 13 (fun h => by first | exact (h : False).elim | omega)) 2)
  have oM1_21_3 : (M1.1 21 3).toInt = (M.1 21 3).toInt := tl_slot (congrFun (h1.1 21 (fun h => by first | exact (h : False).elim | omega)) 3)
  have oM1_21_4 : (M1.1 21 4).toInt = (M.1 21 4).toInt := tl_slot (congrFun (h1.1 21 (fun h => by first | exact (h : False).elim | omega)) 4)
  have oM1_163_7 : (M1.1 163 7).toInt = (M.1 163 7).toInt := tl_slot (congrFun (h1.1 163 (fun h => by first | exact (h : False).elim | omega)) 7)
  have oM1_171_5 : (M1.1 171 5).toInt = (M.1 171 5).toInt := tl_slot (congrFun (h1.1 171 (fun h => by first | exact (h : False).elim | omega)) 5)
  have oM1_175_1 : (M1.1 175 1).toInt = (M.1 175 1).toInt := tl_slot (congrFun (h1.1 175 (fun h => by first | exact (h : False).elim | omega)) 1)
  have oM1_175_4 : (M1.1 175 4).toInt = (M.1 175 4).toInt := tl_slot (congrFun (h1.1 175 (fun h => by first | exact (h : False).elim | omega)) 4)
  have oM1_175_7 : (M1.1 175 7).toInt = (M.1 175 7).toInt := tl_slot (congrFun (h1.1 175 (fun h => by first | exact (h : False).elim | omega)) 7)
  have oM1_175_9 : (M1.1 175 9).toInt = (M.1 175 9).toInt := tl_slot (congrFun (h1.1 175 (fun h => by first | exact (h : False).elim | omega)) 9)
  have oM1_175_23 : (M1.1 175 23).toInt = (M.1 175 23).toInt := tl_slot (congrFun (h1.1 175 (fun h => by first | exact (h : False).elim | omega)) 23)
  have oM1_175_38 : (M1.1 175 38).toInt = (M.1 175 38).toInt := tl_slot (congrFun (h1.1 175 (fun h => by first | exact (h : False).elim | omega)) 38)
  have oM1_175_43 : (M1.1 175 43).toInt = (M.1 175 43).toInt := tl_slot (congrFun (h1.1 175 (fun h => by first | exact (h : False).elim | omega)) 43)
  have oM1_176_18 : (M1.1 176 18).toInt = (M.1 176 18).toInt := tl_slot (congrFun (h1.1 176 (fun h => by first | exact (h : False).elim | omega)) 18)
  have oM1_176_19 : (M1.1 176 19).toInt = (M.1 176 19).toInt := tl_slot (congrFun (h1.1 176 (fun h => by first | exact (h : False).elim | omega)) 19)
  have oM1_176_20 : (M1.1 176 20).toInt = (M.1 176 20).toInt := tl_slot (congrFun (h1.1 176 (fun h => by first | exact (h : False).elim | omega)) 20)
  have Pwq_M1 : li_wq (M1.1 192) ((M1.1 175 35).toInt) (121) (0) (0) := li_wq_mv (h1.1 192 (fun h => by first | exact (h : False).elim | omega)) (tl_slot (congrFun (h1.1 175 (fun h => by first | exact (h : False).elim | omega)) 35)) Pwq_M
  have Pkz_M1 : ∀ i : Nat, (M1.1 202 i).toInt = 0 := fun i => (tl_slot (congrFun (h1.1 202 (fun h => by first | exact (h : False).elim | omega)) i)).trans (Pkz_M i)
  refine l3_aload_n 3 dL_law_1273 rfl ?_
  refine l3_aload_n 1 dL_law_1274 rfl ?_
  refine l3_iload 0 dL_law_1275 rfl ?_
  refine l3_iconst 1 dL_law_1277 (by decide) ?_
  refine l3_iadd dL_law_1278 ?_
  refine l3_sld dL_law_1279 v1 ?_
  refine l3_callV (n := 1) (As := [.int (xs (x4 + 1 : Int32).toNatClampNeg)]) (by omega) dL_law_1280 (k15_X12_run 1000 (by omega) (xs (x4 + 1 : Int32).toNatClampNeg) M1 hJ (by omega) ) (Nat.le_of_ble_eq_true rfl) (Nat.le_of_ble_eq_true rfl) w_1959 w_1960 w_1961 w_112 w_1962 (by decide +kernel) rfl (by decide) sh_175 rfl rfl (Nat.le_of_ble_eq_true rfl) (fun r M2 h2 => ?_)
  have jh2 := h2
  obtain ⟨⟨y2, rfl, ky2⟩, h2⟩ := h2
  have hJ := h2.2
  refine l3_icmp_eq 1456 dL_law_1283 (by decide) (fun c => ?_) (fun c => absurd (Int32.toInt_inj.mp (show (y1 : Int32).toInt = (y2 : Int32).toInt by omega)) c)
  exact KK _ M2 hJ (by omega)
set_option maxRecDepth 100000 in
set_option maxHeartbeats 4000000 in
theorem lc_35 {l : Launch} {Z : li_Z} {b L kc : Nat} {xs : Nat → Int32} {x4 : Int32} {M : li_M} {Q : Option Value → li_M → Prop} (htr : l.stackTraces = false) (hk : kc ≤ 512) (hJ : li_J M) (v1 : vp_in (x4 + 1) L) (v2 : vp_in (x4 + 2) L) (v3 : vp_in (x4 + 3) L) (v4 : vp_in (x4 + 4) L) (hR0 : (M.1 1 1).toInt = 0) (hR1 : (M.1 3 1).toInt = 0) (hR2 : (M.1 5 0).toInt = 0) (hR3 : (M.1 5 1).toInt = 0) (hR4 : (M.1 13 0).toInt = 0) (hR5 : (M.1 13 1).toInt = 0) (hR6 : (M.1 13 2).toInt = 0) (hR7 : (M.1 21 3).toInt = 0) (hR8 : (M.1 21 4).toInt = 0) (hR9 : (M.1 163 7).toInt = 0) (hR10 : (M.1 171 5).toInt = 0) (hR11 : (M.1 175 1).toInt = 0) (hR12 : (M.1 175 4).toInt = 0) (hR13 : (M.1 175 7).toInt = 0) (hR14 : (M.1 175 9).toInt = 0) (hR15 : (M.1 175 23).toInt = 0) (hR16 : (M.1 175 38).toInt = 0) (hR17 : (M.1 175 43).toInt = 0) (hR18 : (M.1 176 18).toInt = 0) (hR19 : (M.1 176 19).toInt = 0) (hR20 : (M.1 176 20).toInt = 0) (Pwq_M : li_wq (M.1 192) ((M.1 175 35).toInt) (121) (0) (0)) (Pkz_M : ∀ i : Nat, (M.1 202 i).toInt = 0) (KK : ∀ (k : Nat) (M : li_M), li_J M → k ≤ kc + 1 → l3_T l Z b L xs k 1456 [(4, .int x4), (0, .ref b), (1, .ref (Z.2.2 0)), (2, .ref (Z.2.2 175)), (3, .ref (Z.2.2 204))] [] M Q) : l3_T l Z b L xs kc 1288 [(4, .int x4), (0, .ref b), (1, .ref (Z.2.2 0)), (2, .ref (Z.2.2 175)), (3, .ref (Z.2.2 204))] [] M Q := by
  have rJ1 := J_sl1 (M := M) hJ
  have rJ4 := J_sl4 (M := M) hJ
  have rJ7 := J_sl7 (M := M) hJ
  have rJ9 := J_sl9 (M := M) hJ
  have rJ23 := J_sl23 (M := M) hJ
  have rJ38 := J_sl38 (M := M) hJ
  refine l3_aload_n 2 dL_law_1288 rfl ?_
  refine l3_aload_n 1 dL_law_1289 rfl ?_
  refine l3_iload 0 dL_law_1290 rfl ?_
  refine l3_iconst 1 dL_law_1292 (by decide) ?_
  refine l3_iadd dL_law_1293 ?_
  refine l3_sld dL_law_1294 v1 ?_
  refine l3_aload_n 1 dL_law_1295 rfl ?_
  refine l3_iload 0 dL_law_1296 rfl ?_
  refine l3_iconst 2 dL_law_1298 (by decide) ?_
  refine l3_iadd dL_law_1299 ?_
  refine l3_sld dL_law_1300 v2 ?_
  refine l3_callV (n := 2) (As := [.int (xs (x4 + 1 : Int32).toNatClampNeg), .int (xs (x4 + 2 : Int32).toNatClampNeg)]) (by omega) dL_law_1301 (k15_X11_years 1000 (by omega) (xs (x4 + 1 : Int32).toNatClampNeg) (xs (x4 + 2 : Int32).toNatClampNeg) M (by first | omega | decide) (by first | omega | decide) (by first | omega | decide)) (Nat.le_of_ble_eq_true rfl) (Nat.le_of_ble_eq_true rfl) w_1265 w_1266 w_1267 w_101 w_1268 (by decide +kernel) rfl (by decide) sh_0 rfl rfl (Nat.le_of_ble_eq_true rfl) (fun r M1 h1 => ?_)
  obtain ⟨⟨y1, rfl, ky1⟩, h1⟩ := h1
  have hJ := l3_J hJ h1 (fun i h => by first | exact (h : False).elim | omega)
  have oM1_1_1 : (M1.1 1 1).toInt = (M.1 1 1).toInt := tl_slot (congrFun (h1.1 1 (fun h => by first | exact (h : False).elim | omega)) 1)
  have oM1_5_0 : (M1.1 5 0).toInt = (M.1 5 0).toInt := tl_slot (congrFun (h1.1 5 (fun h => by first | exact (h : False).elim | omega)) 0)
  have oM1_5_1 : (M1.1 5 1).toInt = (M.1 5 1).toInt := tl_slot (congrFun (h1.1 5 (fun h => by first | exact (h : False).elim | omega)) 1)
  have oM1_21_3 : (M1.1 21 3).toInt = (M.1 21 3).toInt := tl_slot (congrFun (h1.1 21 (fun h => by first | exact (h : False).elim | omega)) 3)
  have oM1_21_4 : (M1.1 21 4).toInt = (M.1 21 4).toInt := tl_slot (congrFun (h1.1 21 (fun h => by first | exact (h : False).elim | omega)) 4)
  have oM1_163_7 : (M1.1 163 7).toInt = (M.1 163 7).toInt := tl_slot (congrFun (h1.1 163 (fun h => by first | exact (h : False).elim | omega)) 7)
  have oM1_171_5 : (M1.1 171 5).toInt = (M.1 171 5).toInt := tl_slot (congrFun (h1.1 171 (fun h => by first | exact (h : False).elim | omega)) 5)
  have oM1_175_1 : (M1.1 175 1).toInt = (M.1 175 1).toInt := tl_slot (congrFun (h1.1 175 (fun h => by first | exact (h : False).elim | omega)) 1)
  have oM1_175_4 : (M1.1 175 4).toInt = (M.1 175 4).toInt := tl_slot (congrFun (h1.1 175 (fun h => by first | exact (h : False).elim | omega)) 4)
  have oM1_175_7 : (M1.1 175 7).toInt = (M.1 175 7).toInt := tl_slot (congrFun (h1.1 175 (fun h => by first | exact (h : False).elim | omega)) 7)
  have oM1_175_9 : (M1.1 175 9).toInt = (M.1 175 9).toInt := tl_slot (congrFun (h1.1 175 (fun h => by first | exact (h : False).elim | omega)) 9)
  have oM1_175_23 : (M1.1 175 23).toInt = (M.1 175 23).toInt := tl_slot (congrFun (h1.1 175 (fun h => by first | exact (h : False).elim | omega)) 23)
  have oM1_175_38 : (M1.1 175 38).toInt = (M.1 175 38).toInt := tl_slot (congrFun (h1.1 175 (fun h => by first | exact (h : False).elim | omega)) 38)
  have oM1_175_43 : (M1.1 175 43).toInt = (M.1 175 43).toInt := tl_slot (congrFun (h1.1 175 (fun h => by first | exact (h : False).elim | omega)) 43)
  have oM1_176_18 : (M1.1 176 18).toInt = (M.1 176 18).toInt := tl_slot (congrFun (h1.1 176 (fun h => by first | exact (h : False).elim | omega)) 18)
  have oM1_176_19 : (M1.1 176 19).toInt = (M.1 176 19).toInt := tl_slot (congrFun (h1.1 176 (fun h => by first | exact (h : False).elim | omega)) 19)
  have oM1_176_20 : (M1.1 176 20).toInt = (M.1 176 20).toInt := tl_slot (congrFun (h1.1 176 (fun h => by first | exact (h : False).elim | omega)) 20)
  have Pwq_M1 : li_wq (M1.1 192) ((M1.1 175 35).toInt) (121) (0) (0) := li_wq_mv (h1.1 192 (fun h => by first | exact (h : False).elim | omega)) (tl_slot (congrFun (h1.1 175 (fun h => by first | exact (h : False).elim | omega)) 35)) Pwq_M
  have Pkz_M1 : ∀ i : Nat, (M1.1 202 i).toInt = 0 := fun i => (tl_slot (congrFun (h1.1 202 (fun h => by first | exact (h : False).elim | omega)) i)).trans (Pkz_M i)
  refine l3_aload_n 3 dL_law_1304 rfl ?_
  refine l3_aload_n 1 dL_law_1305 rfl ?_
  refine l3_iload 0 dL_law_1306 rfl ?_
  refine l3_iconst 1 dL_law_1308 (by decide) ?_
  refine l3_iadd dL_law_1309 ?_
  refine l3_sld dL_law_1310 v1 ?_
  refine l3_aload_n 1 dL_law_1311 rfl ?_
  refine l3_iload 0 dL_law_1312 rfl ?_
  refine l3_iconst 2 dL_law_1314 (by decide) ?_
  refine l3_iadd dL_law_1315 ?_
  refine l3_sld dL_law_1316 v2 ?_
  refine l3_callV (n := 2) (As := [.int (xs (x4 + 1 : Int32).toNatClampNeg), .int (xs (x4 + 2 : Int32).toNatClampNeg)]) (by omega) dL_law_1317 (k15_X12_years 1000 (by omega) (xs (x4 + 1 : Int32).toNatClampNeg) (xs (x4 + 2 : Int32).toNatClampNeg) M1 hJ (by omega) ) (Nat.le_of_ble_eq_true rfl) (Nat.le_of_ble_eq_true rfl) w_1967 w_1968 w_1969 w_112 w_1970 (by decide +kernel) rfl (by decide) sh_175 rfl rfl (Nat.le_of_ble_eq_true rfl) (fun r M2 h2 => ?_)
  have jh2 := h2
  obtain ⟨⟨y2, rfl, ky2⟩, h2⟩ := h2
  have hJ := h2.2
  refine l3_icmp_eq 1456 dL_law_1320 (by decide) (fun c => ?_) (fun c => absurd (Int32.toInt_inj.mp (show (y1 : Int32).toInt = (y2 : Int32).toInt by omega)) c)
  exact KK _ M2 hJ (by omega)
set_option maxRecDepth 100000 in
set_option maxHeartbeats 4000000 in
theorem lc_36 {l : Launch} {Z : li_Z} {b L kc : Nat} {xs : Nat → Int32} {x4 : Int32} {M : li_M} {Q : Option Value → li_M → Prop} (htr : l.stackTraces = false) (hk : kc ≤ 512) (hJ : li_J M) (v1 : vp_in (x4 + 1) L) (v2 : vp_in (x4 + 2) L) (v3 : vp_in (x4 + 3) L) (v4 : vp_in (x4 + 4) L) (hR0 : (M.1 1 1).toInt = 0) (hR1 : (M.1 3 1).toInt = 0) (hR2 : (M.1 5 0).toInt = 0) (hR3 : (M.1 5 1).toInt = 0) (hR4 : (M.1 13 0).toInt = 0) (hR5 : (M.1 13 1).toInt = 0) (hR6 : (M.1 13 2).toInt = 0) (hR7 : (M.1 21 3).toInt = 0) (hR8 : (M.1 21 4).toInt = 0) (hR9 : (M.1 163 7).toInt = 0) (hR10 : (M.1 171 5).toInt = 0) (hR11 : (M.1 175 1).toInt = 0) (hR12 : (M.1 175 4).toInt = 0) (hR13 : (M.1 175 7).toInt = 0) (hR14 : (M.1 175 9).toInt = 0) (hR15 : (M.1 175 23).toInt = 0) (hR16 : (M.1 175 38).toInt = 0) (hR17 : (M.1 175 43).toInt = 0) (hR18 : (M.1 176 18).toInt = 0) (hR19 : (M.1 176 19).toInt = 0) (hR20 : (M.1 176 20).toInt = 0) (Pwq_M : li_wq (M.1 192) ((M.1 175 35).toInt) (121) (0) (0)) (Pkz_M : ∀ i : Nat, (M.1 202 i).toInt = 0) (KK : ∀ (k : Nat) (M : li_M), li_J M → k ≤ kc + 1 → l3_T l Z b L xs k 1456 [(4, .int x4), (0, .ref b), (1, .ref (Z.2.2 0)), (2, .ref (Z.2.2 175)), (3, .ref (Z.2.2 204))] [] M Q) : l3_T l Z b L xs kc 1325 [(4, .int x4), (0, .ref b), (1, .ref (Z.2.2 0)), (2, .ref (Z.2.2 175)), (3, .ref (Z.2.2 204))] [] M Q := by
  have rJ1 := J_sl1 (M := M) hJ
  have rJ4 := J_sl4 (M := M) hJ
  have rJ7 := J_sl7 (M := M) hJ
  have rJ9 := J_sl9 (M := M) hJ
  have rJ23 := J_sl23 (M := M) hJ
  have rJ38 := J_sl38 (M := M) hJ
  refine l3_aload_n 2 dL_law_1325 rfl ?_
  refine l3_aload_n 1 dL_law_1326 rfl ?_
  refine l3_iload 0 dL_law_1327 rfl ?_
  refine l3_iconst 1 dL_law_1329 (by decide) ?_
  refine l3_iadd dL_law_1330 ?_
  refine l3_sld dL_law_1331 v1 ?_
  refine l3_callV (n := 1) (As := [.int (xs (x4 + 1 : Int32).toNatClampNeg)]) (by omega) dL_law_1332 (k2_X11_keep 1000 (by omega) (xs (x4 + 1 : Int32).toNatClampNeg) M) (Nat.le_of_ble_eq_true rfl) (Nat.le_of_ble_eq_true rfl) w_1274 w_1275 w_1276 w_101 w_1277 (by decide +kernel) rfl (by decide) sh_0 rfl rfl (Nat.le_of_ble_eq_true rfl) (fun r M1 h1 => ?_)
  obtain ⟨⟨y1, rfl, -, ky1⟩, h1⟩ := h1
  have hJ := l3_J hJ h1 (fun i h => by first | exact (h : False).elim | omega)
  have oM1_1_1 : (M1.1 1 1).toInt = (M.1 1 1).toInt := tl_slot (congrFun (h1.1 1 (fun h => by first | exact (h : False).elim | omega)) 1)
  have oM1_3_1 : (M1.1 3 1).toInt = (M.1 3 1).toInt := tl_slot (congrFun (h1.1 3 (fun h => by first | exact (h : False).elim | omega)) 1)
  have oM1_5_0 : (M1.1 5 0).toInt = (M.1 5 0).toInt := tl_slot (congrFun (h1.1 5 (fun h => by first | exact (h : False).elim | omega)) 0)
  have oM1_5_1 : (M1.1 5 1).toInt = (M.1 5 1).toInt := tl_slot (congrFun (h1.1 5 (fun h => by first | exact (h : False).elim | omega)) 1)
  have oM1_13_0 : (M1.1 13 0).toInt = (M.1 13 0).toInt := tl_slot (congrFun (h1.1 13 (fun h => by first | exact (h : False).elim | omega)) 0)
  have oM1_13_1 : (M1.1 13 1).toInt = (M.1 13 1).toInt := tl_slot (congrFun (h1.1 13 (fun h => by first | exact (h : False).elim | omega)) 1)
  have oM1_13_2 : (M1.1 13 2).toInt = (M.1 13 2).toInt := tl_slot (congrFun (h1.1 13 (fun h => by first | exact (h : False).elim | omega)) 2)
  have oM1_163_7 : (M1.1 163 7).toInt = (M.1 163 7).toInt := tl_slot (congrFun (h1.1 163 (fun h => by first | exact (h : False).elim | omega)) 7)
  have oM1_171_5 : (M1.1 171 5).toInt = (M.1 171 5).toInt := tl_slot (congrFun (h1.1 171 (fun h => by first | exact (h : False).elim | omega)) 5)
  have oM1_175_1 : (M1.1 175 1).toInt = (M.1 175 1).toInt := tl_slot (congrFun (h1.1 175 (fun h => by first | exact (h : False).elim | omega)) 1)
  have oM1_175_4 : (M1.1 175 4).toInt = (M.1 175 4).toInt := tl_slot (congrFun (h1.1 175 (fun h => by first | exact (h : False).elim | omega)) 4)
  have oM1_175_7 : (M1.1 175 7).toInt = (M.1 175 7).toInt := tl_slot (congrFun (h1.1 175 (fun h => by first | exact (h : False).elim | omega)) 7)
  have oM1_175_9 : (M1.1 175 9).toInt = (M.1 175 9).toInt := tl_slot (congrFun (h1.1 175 (fun h => by first | exact (h : False).elim | omega)) 9)
  have oM1_175_23 : (M1.1 175 23).toInt = (M.1 175 23).toInt := tl_slot (congrFun (h1.1 175 (fun h => by first | exact (h : False).elim | omega)) 23)
  have oM1_175_38 : (M1.1 175 38).toInt = (M.1 175 38).toInt := tl_slot (congrFun (h1.1 175 (fun h => by first | exact (h : False).elim | omega)) 38)
  have oM1_175_43 : (M1.1 175 43).toInt = (M.1 175 43).toInt := tl_slot (congrFun (h1.1 175 (fun h => by first | exact (h : False).elim | omega)) 43)
  have oM1_176_18 : (M1.1 176 18).toInt = (M.1 176 18).toInt := tl_slot (congrFun (h1.1 176 (fun h => by first | exact (h : False).elim | omega)) 18)
  have oM1_176_19 : (M1.1 176 19).toInt = (M.1 176 19).toInt := tl_slot (congrFun (h1.1 176 (fun h => by first | exact (h : False).elim | omega)) 19)
  have oM1_176_20 : (M1.1 176 20).toInt = (M.1 176 20).toInt := tl_slot (congrFun (h1.1 176 (fun h => by first | exact (h : False).elim | omega)) 20)
  have Pwq_M1 : li_wq (M1.1 192) ((M1.1 175 35).toInt) (121) (0) (0) := li_wq_mv (h1.1 192 (fun h => by first | exact (h : False).elim | omega)) (tl_slot (congrFun (h1.1 175 (fun h => by first | exact (h : False).elim | omega)) 35)) Pwq_M
  have Pkz_M1 : ∀ i : Nat, (M1.1 202 i).toInt = 0 := fun i => (tl_slot (congrFun (h1.1 202 (fun h => by first | exact (h : False).elim | omega)) i)).trans (Pkz_M i)
  refine l3_aload_n 3 dL_law_1335 rfl ?_
  refine l3_aload_n 1 dL_law_1336 rfl ?_
  refine l3_iload 0 dL_law_1337 rfl ?_
  refine l3_iconst 1 dL_law_1339 (by decide) ?_
  refine l3_iadd dL_law_1340 ?_
  refine l3_sld dL_law_1341 v1 ?_
  refine l3_callV (n := 1) (As := [.int (xs (x4 + 1 : Int32).toNatClampNeg)]) (by omega) dL_law_1342 (k2_X12_keep 1000 (by omega) (xs (x4 + 1 : Int32).toNatClampNeg) M1 hJ ) (Nat.le_of_ble_eq_true rfl) (Nat.le_of_ble_eq_true rfl) w_1972 w_1973 w_1974 w_112 w_1975 (by decide +kernel) rfl (by decide) sh_175 rfl rfl (Nat.le_of_ble_eq_true rfl) (fun r M2 h2 => ?_)
  rcases h2 with ⟨⟨rfl, ky2⟩ | ⟨rfl, ky2⟩, h2, hJ⟩
  · skip
    have oM2_1_1 : (M2.1 1 1).toInt = (M1.1 1 1).toInt := tl_slot (h2.1 1 1 (fun h => by first | exact (h : False).elim | omega))
    have oM2_3_1 : (M2.1 3 1).toInt = (M1.1 3 1).toInt := tl_slot (h2.1 3 1 (fun h => by first | exact (h : False).elim | omega))
    have oM2_5_0 : (M2.1 5 0).toInt = (M1.1 5 0).toInt := tl_slot (h2.1 5 0 (fun h => by first | exact (h : False).elim | omega))
    have oM2_5_1 : (M2.1 5 1).toInt = (M1.1 5 1).toInt := tl_slot (h2.1 5 1 (fun h => by first | exact (h : False).elim | omega))
    have oM2_13_0 : (M2.1 13 0).toInt = (M1.1 13 0).toInt := tl_slot (h2.1 13 0 (fun h => by first | exact (h : False).elim | omega))
    have oM2_13_1 : (M2.1 13 1).toInt = (M1.1 13 1).toInt := tl_slot (h2.1 13 1 (fun h => by first | exact (h : False).elim | omega))
    have oM2_13_2 : (M2.1 13 2).toInt = (M1.1 13 2).toInt := tl_slot (h2.1 13 2 (fun h => by first | exact (h : False).elim | omega))
    have oM2_21_3 : (M2.1 21 3).toInt = (M1.1 21 3).toInt := tl_slot (h2.1 21 3 (fun h => by first | exact (h : False).elim | omega))
    have oM2_21_4 : (M2.1 21 4).toInt = (M1.1 21 4).toInt := tl_slot (h2.1 21 4 (fun h => by first | exact (h : False).elim | omega))
    have oM2_163_7 : (M2.1 163 7).toInt = (M1.1 163 7).toInt := tl_slot (h2.1 163 7 (fun h => by first | exact (h : False).elim | omega))
    have oM2_171_5 : (M2.1 171 5).toInt = (M1.1 171 5).toInt := tl_slot (h2.1 171 5 (fun h => by first | exact (h : False).elim | omega))
    have oM2_175_1 : (M2.1 175 1).toInt = (M1.1 175 1).toInt := tl_slot (h2.1 175 1 (fun h => by first | exact (h : False).elim | omega))
    have oM2_175_4 : (M2.1 175 4).toInt = (M1.1 175 4).toInt := tl_slot (h2.1 175 4 (fun h => by first | exact (h : False).elim | omega))
    have oM2_175_7 : (M2.1 175 7).toInt = (M1.1 175 7).toInt := tl_slot (h2.1 175 7 (fun h => by first | exact (h : False).elim | omega))
    have oM2_175_9 : (M2.1 175 9).toInt = (M1.1 175 9).toInt := tl_slot (h2.1 175 9 (fun h => by first | exact (h : False).elim | omega))
    have oM2_175_23 : (M2.1 175 23).toInt = (M1.1 175 23).toInt := tl_slot (h2.1 175 23 (fun h => by first | exact (h : False).elim | omega))
    have oM2_175_38 : (M2.1 175 38).toInt = (M1.1 175 38).toInt := tl_slot (h2.1 175 38 (fun h => by first | exact (h : False).elim | omega))
    have oM2_175_43 : (M2.1 175 43).toInt = (M1.1 175 43).toInt := tl_slot (h2.1 175 43 (fun h => by first | exact (h : False).elim | omega))
    have oM2_176_18 : (M2.1 176 18).toInt = (M1.1 176 18).toInt := tl_slot (h2.1 176 18 (fun h => by first | exact (h : False).elim | omega))
    have oM2_176_19 : (M2.1 176 19).toInt = (M1.1 176 19).toInt := tl_slot (h2.1 176 19 (fun h => by first | exact (h : False).elim | omega))
    have oM2_176_20 : (M2.1 176 20).toInt = (M1.1 176 20).toInt := tl_slot (h2.1 176 20 (fun h => by first | exact (h : False).elim | omega))
    refine l3_icmp_eq 1456 dL_law_1345 (by decide) (fun c => ?_) (fun c => absurd (Int32.toInt_inj.mp (show (y1 : Int32).toInt = (1 : Int32).toInt by have z : (1 : Int32).toInt = 1 := rfl; first | omega | exact ky2.elim)) c)
    exact KK _ M2 hJ (by omega)
  · skip
    have oM2_1_1 : (M2.1 1 1).toInt = (M1.1 1 1).toInt := tl_slot (h2.1 1 1 (fun h => by first | exact (h : False).elim | omega))
    have oM2_3_1 : (M2.1 3 1).toInt = (M1.1 3 1).toInt := tl_slot (h2.1 3 1 (fun h => by first | exact (h : False).elim | omega))
    have oM2_5_0 : (M2.1 5 0).toInt = (M1.1 5 0).toInt := tl_slot (h2.1 5 0 (fun h => by first | exact (h : False).elim | omega))
    have oM2_5_1 : (M2.1 5 1).toInt = (M1.1 5 1).toInt := tl_slot (h2.1 5 1 (fun h => by first | exact (h : False).elim | omega))
    have oM2_13_0 : (M2.1 13 0).toInt = (M1.1 13 0).toInt := tl_slot (h2.1 13 0 (fun h => by first | exact (h : False).elim | omega))
    have oM2_13_1 : (M2.1 13 1).toInt = (M1.1 13 1).toInt := tl_slot (h2.1 13 1 (fun h => by first | exact (h : False).elim | omega))
    have oM2_13_2 : (M2.1 13 2).toInt = (M1.1 13 2).toInt := tl_slot (h2.1 13 2 (fun h => by first | exact (h : False).elim | omega))
    have oM2_21_3 : (M2.1 21 3).toInt = (M1.1 21 3).toInt := tl_slot (h2.1 21 3 (fun h => by first | exact (h : False).elim | omega))
    have oM2_21_4 : (M2.1 21 4).toInt = (M1.1 21 4).toInt := tl_slot (h2.1 21 4 (fun h => by first | exact (h : False).elim | omega))
    have oM2_163_7 : (M2.1 163 7).toInt = (M1.1 163 7).toInt := tl_slot (h2.1 163 7 (fun h => by first | exact (h : False).elim | omega))
    have oM2_171_5 : (M2.1 171 5).toInt = (M1.1 171 5).toInt := tl_slot (h2.1 171 5 (fun h => by first | exact (h : False).elim | omega))
    have oM2_175_1 : (M2.1 175 1).toInt = (M1.1 175 1).toInt := tl_slot (h2.1 175 1 (fun h => by first | exact (h : False).elim | omega))
    have oM2_175_4 : (M2.1 175 4).toInt = (M1.1 175 4).toInt := tl_slot (h2.1 175 4 (fun h => by first | exact (h : False).elim | omega))
    have oM2_175_7 : (M2.1 175 7).toInt = (M1.1 175 7).toInt := tl_slot (h2.1 175 7 (fun h => by first | exact (h : False).elim | omega))
    have oM2_175_9 : (M2.1 175 9).toInt = (M1.1 175 9).toInt := tl_slot (h2.1 175 9 (fun h => by first | exact (h : False).elim | omega))
    have oM2_175_23 : (M2.1 175 23).toInt = (M1.1 175 23).toInt := tl_slot (h2.1 175 23 (fun h => by first | exact (h : False).elim | omega))
    have oM2_175_38 : (M2.1 175 38).toInt = (M1.1 175 38).toInt := tl_slot (h2.1 175 38 (fun h => by first | exact (h : False).elim | omega))
    have oM2_175_43 : (M2.1 175 43).toInt = (M1.1 175 43).toInt := tl_slot (h2.1 175 43 (fun h => by first | exact (h : False).elim | omega))
    have oM2_176_18 : (M2.1 176 18).toInt = (M1.1 176 18).toInt := tl_slot (h2.1 176 18 (fun h => by first | exact (h : False).elim | omega))
    have oM2_176_19 : (M2.1 176 19).toInt = (M1.1 176 19).toInt := tl_slot (h2.1 176 19 (fun h => by first | exact (h : False).elim | omega))
    have oM2_176_20 : (M2.1 176 20).toInt = (M1.1 176 20).toInt := tl_slot (h2.1 176 20 (fun h => by first | exact (h : False).elim | omega))
    refine l3_icmp_eq 1456 dL_law_1345 (by decide) (fun c => ?_) (fun c => absurd (Int32.toInt_inj.mp (show (y1 : Int32).toInt = (0 : Int32).toInt by have z : (0 : Int32).toInt = 0 := rfl; first | omega | exact ky2.elim)) c)
    exact KK _ M2 hJ (by omega)
set_option maxRecDepth 100000 in
set_option maxHeartbeats 4000000 in
theorem lc_37 {l : Launch} {Z : li_Z} {b L kc : Nat} {xs : Nat → Int32} {x4 : Int32} {M : li_M} {Q : Option Value → li_M → Prop} (htr : l.stackTraces = false) (hk : kc ≤ 512) (hJ : li_J M) (v1 : vp_in (x4 + 1) L) (v2 : vp_in (x4 + 2) L) (v3 : vp_in (x4 + 3) L) (v4 : vp_in (x4 + 4) L) (hR0 : (M.1 1 1).toInt = 0) (hR1 : (M.1 3 1).toInt = 0) (hR2 : (M.1 5 0).toInt = 0) (hR3 : (M.1 5 1).toInt = 0) (hR4 : (M.1 13 0).toInt = 0) (hR5 : (M.1 13 1).toInt = 0) (hR6 : (M.1 13 2).toInt = 0) (hR7 : (M.1 21 3).toInt = 0) (hR8 : (M.1 21 4).toInt = 0) (hR9 : (M.1 163 7).toInt = 0) (hR10 : (M.1 171 5).toInt = 0) (hR11 : (M.1 175 1).toInt = 0) (hR12 : (M.1 175 4).toInt = 0) (hR13 : (M.1 175 7).toInt = 0) (hR14 : (M.1 175 9).toInt = 0) (hR15 : (M.1 175 23).toInt = 0) (hR16 : (M.1 175 38).toInt = 0) (hR17 : (M.1 175 43).toInt = 0) (hR18 : (M.1 176 18).toInt = 0) (hR19 : (M.1 176 19).toInt = 0) (hR20 : (M.1 176 20).toInt = 0) (Pwq_M : li_wq (M.1 192) ((M.1 175 35).toInt) (121) (0) (0)) (Pkz_M : ∀ i : Nat, (M.1 202 i).toInt = 0) (KK : ∀ (k : Nat) (M : li_M), li_J M → k ≤ kc + 1 → l3_T l Z b L xs k 1456 [(4, .int x4), (0, .ref b), (1, .ref (Z.2.2 0)), (2, .ref (Z.2.2 175)), (3, .ref (Z.2.2 204))] [] M Q) : l3_T l Z b L xs kc 1350 [(4, .int x4), (0, .ref b), (1, .ref (Z.2.2 0)), (2, .ref (Z.2.2 175)), (3, .ref (Z.2.2 204))] [] M Q := by
  have rJ1 := J_sl1 (M := M) hJ
  have rJ4 := J_sl4 (M := M) hJ
  have rJ7 := J_sl7 (M := M) hJ
  have rJ9 := J_sl9 (M := M) hJ
  have rJ23 := J_sl23 (M := M) hJ
  have rJ38 := J_sl38 (M := M) hJ
  refine l3_aload_n 2 dL_law_1350 rfl ?_
  refine l3_aload_n 1 dL_law_1351 rfl ?_
  refine l3_iload 0 dL_law_1352 rfl ?_
  refine l3_iconst 1 dL_law_1354 (by decide) ?_
  refine l3_iadd dL_law_1355 ?_
  refine l3_sld dL_law_1356 v1 ?_
  refine l3_callV (n := 1) (As := [.int (xs (x4 + 1 : Int32).toNatClampNeg)]) (by omega) dL_law_1357 (k15_X11_again 1000 (by omega) (xs (x4 + 1 : Int32).toNatClampNeg) M (by first | omega | decide)) (Nat.le_of_ble_eq_true rfl) (Nat.le_of_ble_eq_true rfl) w_1282 w_1283 w_1284 w_101 w_1285 (by decide +kernel) rfl (by decide) sh_0 rfl rfl (Nat.le_of_ble_eq_true rfl) (fun r M1 h1 => ?_)
  obtain ⟨⟨y1, rfl, -, ky1⟩, h1⟩ := h1
  have hJ := l3_J hJ h1 (fun i h => by first | exact (h : False).elim | omega)
  have oM1_1_1 : (M1.1 1 1).toInt = (M.1 1 1).toInt := tl_slot (congrFun (h1.1 1 (fun h => by first | exact (h : False).elim | omega)) 1)
  have oM1_3_1 : (M1.1 3 1).toInt = (M.1 3 1).toInt := tl_slot (congrFun (h1.1 3 (fun h => by first | exact (h : False).elim | omega)) 1)
  have oM1_5_0 : (M1.1 5 0).toInt = (M.1 5 0).toInt := tl_slot (congrFun (h1.1 5 (fun h => by first | exact (h : False).elim | omega)) 0)
  have oM1_5_1 : (M1.1 5 1).toInt = (M.1 5 1).toInt := tl_slot (congrFun (h1.1 5 (fun h => by first | exact (h : False).elim | omega)) 1)
  have oM1_13_0 : (M1.1 13 0).toInt = (M.1 13 0).toInt := tl_slot (congrFun (h1.1 13 (fun h => by first | exact (h : False).elim | omega)) 0)
  have oM1_13_1 : (M1.1 13 1).toInt = (M.1 13 1).toInt := tl_slot (congrFun (h1.1 13 (fun h => by first | exact (h : False).elim | omega)) 1)
  have oM1_13_2 : (M1.1 13 2).toInt = (M.1 13 2).toInt := tl_slot (congrFun (h1.1 13 (fun h => by first | exact (h : False).elim | omega)) 2)
  have oM1_21_3 : (M1.1 21 3).toInt = (M.1 21 3).toInt := tl_slot (congrFun (h1.1 21 (fun h => by first | exact (h : False).elim | omega)) 3)
  have oM1_21_4 : (M1.1 21 4).toInt = (M.1 21 4).toInt := tl_slot (congrFun (h1.1 21 (fun h => by first | exact (h : False).elim | omega)) 4)
  have oM1_163_7 : (M1.1 163 7).toInt = (M.1 163 7).toInt := tl_slot (congrFun (h1.1 163 (fun h => by first | exact (h : False).elim | omega)) 7)
  have oM1_171_5 : (M1.1 171 5).toInt = (M.1 171 5).toInt := tl_slot (congrFun (h1.1 171 (fun h => by first | exact (h : False).elim | omega)) 5)
  have oM1_175_1 : (M1.1 175 1).toInt = (M.1 175 1).toInt := tl_slot (congrFun (h1.1 175 (fun h => by first | exact (h : False).elim | omega)) 1)
  have oM1_175_4 : (M1.1 175 4).toInt = (M.1 175 4).toInt := tl_slot (congrFun (h1.1 175 (fun h => by first | exact (h : False).elim | omega)) 4)
  have oM1_175_7 : (M1.1 175 7).toInt = (M.1 175 7).toInt := tl_slot (congrFun (h1.1 175 (fun h => by first | exact (h : False).elim | omega)) 7)
  have oM1_175_9 : (M1.1 175 9).toInt = (M.1 175 9).toInt := tl_slot (congrFun (h1.1 175 (fun h => by first | exact (h : False).elim | omega)) 9)
  have oM1_175_23 : (M1.1 175 23).toInt = (M.1 175 23).toInt := tl_slot (congrFun (h1.1 175 (fun h => by first | exact (h : False).elim | omega)) 23)
  have oM1_175_38 : (M1.1 175 38).toInt = (M.1 175 38).toInt := tl_slot (congrFun (h1.1 175 (fun h => by first | exact (h : False).elim | omega)) 38)
  have oM1_175_43 : (M1.1 175 43).toInt = (M.1 175 43).toInt := tl_slot (congrFun (h1.1 175 (fun h => by first | exact (h : False).elim | omega)) 43)
  have oM1_176_18 : (M1.1 176 18).toInt = (M.1 176 18).toInt := tl_slot (congrFun (h1.1 176 (fun h => by first | exact (h : False).elim | omega)) 18)
  have oM1_176_19 : (M1.1 176 19).toInt = (M.1 176 19).toInt := tl_slot (congrFun (h1.1 176 (fun h => by first | exact (h : False).elim | omega)) 19)
  have oM1_176_20 : (M1.1 176 20).toInt = (M.1 176 20).toInt := tl_slot (congrFun (h1.1 176 (fun h => by first | exact (h : False).elim | omega)) 20)
  have Pwq_M1 : li_wq (M1.1 192) ((M1.1 175 35).toInt) (121) (0) (0) := li_wq_mv (h1.1 192 (fun h => by first | exact (h : False).elim | omega)) (tl_slot (congrFun (h1.1 175 (fun h => by first | exact (h : False).elim | omega)) 35)) Pwq_M
  have Pkz_M1 : ∀ i : Nat, (M1.1 202 i).toInt = 0 := fun i => (tl_slot (congrFun (h1.1 202 (fun h => by first | exact (h : False).elim | omega)) i)).trans (Pkz_M i)
  refine l3_aload_n 3 dL_law_1360 rfl ?_
  refine l3_aload_n 1 dL_law_1361 rfl ?_
  refine l3_iload 0 dL_law_1362 rfl ?_
  refine l3_iconst 1 dL_law_1364 (by decide) ?_
  refine l3_iadd dL_law_1365 ?_
  refine l3_sld dL_law_1366 v1 ?_
  refine l3_callV (n := 1) (As := [.int (xs (x4 + 1 : Int32).toNatClampNeg)]) (by omega) dL_law_1367 (k15_X12_again 1000 (by omega) (xs (x4 + 1 : Int32).toNatClampNeg) M1 hJ Pkz_M1) (Nat.le_of_ble_eq_true rfl) (Nat.le_of_ble_eq_true rfl) w_1976 w_1977 w_1978 w_112 w_1979 (by decide +kernel) rfl (by decide) sh_175 rfl rfl (Nat.le_of_ble_eq_true rfl) (fun r M2 h2 => ?_)
  rcases h2 with ⟨⟨rfl, ky2⟩ | ⟨rfl, ky2⟩, h2, hJ⟩
  · skip
    have oM2_1_1 : (M2.1 1 1).toInt = (M1.1 1 1).toInt := tl_slot (h2.1 1 1 (fun h => by first | exact (h : False).elim | omega))
    have oM2_3_1 : (M2.1 3 1).toInt = (M1.1 3 1).toInt := tl_slot (h2.1 3 1 (fun h => by first | exact (h : False).elim | omega))
    have oM2_5_0 : (M2.1 5 0).toInt = (M1.1 5 0).toInt := tl_slot (h2.1 5 0 (fun h => by first | exact (h : False).elim | omega))
    have oM2_5_1 : (M2.1 5 1).toInt = (M1.1 5 1).toInt := tl_slot (h2.1 5 1 (fun h => by first | exact (h : False).elim | omega))
    have oM2_13_0 : (M2.1 13 0).toInt = (M1.1 13 0).toInt := tl_slot (h2.1 13 0 (fun h => by first | exact (h : False).elim | omega))
    have oM2_13_1 : (M2.1 13 1).toInt = (M1.1 13 1).toInt := tl_slot (h2.1 13 1 (fun h => by first | exact (h : False).elim | omega))
    have oM2_13_2 : (M2.1 13 2).toInt = (M1.1 13 2).toInt := tl_slot (h2.1 13 2 (fun h => by first | exact (h : False).elim | omega))
    have oM2_21_3 : (M2.1 21 3).toInt = (M1.1 21 3).toInt := tl_slot (h2.1 21 3 (fun h => by first | exact (h : False).elim | omega))
    have oM2_21_4 : (M2.1 21 4).toInt = (M1.1 21 4).toInt := tl_slot (h2.1 21 4 (fun h => by first | exact (h : False).elim | omega))
    have oM2_163_7 : (M2.1 163 7).toInt = (M1.1 163 7).toInt := tl_slot (h2.1 163 7 (fun h => by first | exact (h : False).elim | omega))
    have oM2_171_5 : (M2.1 171 5).toInt = (M1.1 171 5).toInt := tl_slot (h2.1 171 5 (fun h => by first | exact (h : False).elim | omega))
    have oM2_175_1 : (M2.1 175 1).toInt = (M1.1 175 1).toInt := tl_slot (h2.1 175 1 (fun h => by first | exact (h : False).elim | omega))
    have oM2_175_4 : (M2.1 175 4).toInt = (M1.1 175 4).toInt := tl_slot (h2.1 175 4 (fun h => by first | exact (h : False).elim | omega))
    have oM2_175_7 : (M2.1 175 7).toInt = (M1.1 175 7).toInt := tl_slot (h2.1 175 7 (fun h => by first | exact (h : False).elim | omega))
    have oM2_175_9 : (M2.1 175 9).toInt = (M1.1 175 9).toInt := tl_slot (h2.1 175 9 (fun h => by first | exact (h : False).elim | omega))
    have oM2_175_23 : (M2.1 175 23).toInt = (M1.1 175 23).toInt := tl_slot (h2.1 175 23 (fun h => by first | exact (h : False).elim | omega))
    have oM2_175_38 : (M2.1 175 38).toInt = (M1.1 175 38).toInt := tl_slot (h2.1 175 38 (fun h => by first | exact (h : False).elim | omega))
    have oM2_175_43 : (M2.1 175 43).toInt = (M1.1 175 43).toInt := tl_slot (h2.1 175 43 (fun h => by first | exact (h : False).elim | omega))
    have oM2_176_18 : (M2.1 176 18).toInt = (M1.1 176 18).toInt := tl_slot (h2.1 176 18 (fun h => by first | exact (h : False).elim | omega))
    have oM2_176_19 : (M2.1 176 19).toInt = (M1.1 176 19).toInt := tl_slot (h2.1 176 19 (fun h => by first | exact (h : False).elim | omega))
    have oM2_176_20 : (M2.1 176 20).toInt = (M1.1 176 20).toInt := tl_slot (h2.1 176 20 (fun h => by first | exact (h : False).elim | omega))
    refine l3_icmp_eq 1456 dL_law_1370 (by decide) (fun c => ?_) (fun c => absurd (Int32.toInt_inj.mp (show (y1 : Int32).toInt = (1 : Int32).toInt by have z : (1 : Int32).toInt = 1 := rfl; first | omega | exact ky2.elim)) c)
    exact KK _ M2 hJ (by omega)
  · skip
    have oM2_1_1 : (M2.1 1 1).toInt = (M1.1 1 1).toInt := tl_slot (h2.1 1 1 (fun h => by first | exact (h : False).elim | omega))
    have oM2_3_1 : (M2.1 3 1).toInt = (M1.1 3 1).toInt := tl_slot (h2.1 3 1 (fun h => by first | exact (h : False).elim | omega))
    have oM2_5_0 : (M2.1 5 0).toInt = (M1.1 5 0).toInt := tl_slot (h2.1 5 0 (fun h => by first | exact (h : False).elim | omega))
    have oM2_5_1 : (M2.1 5 1).toInt = (M1.1 5 1).toInt := tl_slot (h2.1 5 1 (fun h => by first | exact (h : False).elim | omega))
    have oM2_13_0 : (M2.1 13 0).toInt = (M1.1 13 0).toInt := tl_slot (h2.1 13 0 (fun h => by first | exact (h : False).elim | omega))
    have oM2_13_1 : (M2.1 13 1).toInt = (M1.1 13 1).toInt := tl_slot (h2.1 13 1 (fun h => by first | exact (h : False).elim | omega))
    have oM2_13_2 : (M2.1 13 2).toInt = (M1.1 13 2).toInt := tl_slot (h2.1 13 2 (fun h => by first | exact (h : False).elim | omega))
    have oM2_21_3 : (M2.1 21 3).toInt = (M1.1 21 3).toInt := tl_slot (h2.1 21 3 (fun h => by first | exact (h : False).elim | omega))
    have oM2_21_4 : (M2.1 21 4).toInt = (M1.1 21 4).toInt := tl_slot (h2.1 21 4 (fun h => by first | exact (h : False).elim | omega))
    have oM2_163_7 : (M2.1 163 7).toInt = (M1.1 163 7).toInt := tl_slot (h2.1 163 7 (fun h => by first | exact (h : False).elim | omega))
    have oM2_171_5 : (M2.1 171 5).toInt = (M1.1 171 5).toInt := tl_slot (h2.1 171 5 (fun h => by first | exact (h : False).elim | omega))
    have oM2_175_1 : (M2.1 175 1).toInt = (M1.1 175 1).toInt := tl_slot (h2.1 175 1 (fun h => by first | exact (h : False).elim | omega))
    have oM2_175_4 : (M2.1 175 4).toInt = (M1.1 175 4).toInt := tl_slot (h2.1 175 4 (fun h => by first | exact (h : False).elim | omega))
    have oM2_175_7 : (M2.1 175 7).toInt = (M1.1 175 7).toInt := tl_slot (h2.1 175 7 (fun h => by first | exact (h : False).elim | omega))
    have oM2_175_9 : (M2.1 175 9).toInt = (M1.1 175 9).toInt := tl_slot (h2.1 175 9 (fun h => by first | exact (h : False).elim | omega))
    have oM2_175_23 : (M2.1 175 23).toInt = (M1.1 175 23).toInt := tl_slot (h2.1 175 23 (fun h => by first | exact (h : False).elim | omega))
    have oM2_175_38 : (M2.1 175 38).toInt = (M1.1 175 38).toInt := tl_slot (h2.1 175 38 (fun h => by first | exact (h : False).elim | omega))
    have oM2_175_43 : (M2.1 175 43).toInt = (M1.1 175 43).toInt := tl_slot (h2.1 175 43 (fun h => by first | exact (h : False).elim | omega))
    have oM2_176_18 : (M2.1 176 18).toInt = (M1.1 176 18).toInt := tl_slot (h2.1 176 18 (fun h => by first | exact (h : False).elim | omega))
    have oM2_176_19 : (M2.1 176 19).toInt = (M1.1 176 19).toInt := tl_slot (h2.1 176 19 (fun h => by first | exact (h : False).elim | omega))
    have oM2_176_20 : (M2.1 176 20).toInt = (M1.1 176 20).toInt := tl_slot (h2.1 176 20 (fun h => by first | exact (h : False).elim | omega))
    refine l3_icmp_eq 1456 dL_law_1370 (by decide) (fun c => ?_) (fun c => absurd (Int32.toInt_inj.mp (show (y1 : Int32).toInt = (0 : Int32).toInt by have z : (0 : Int32).toInt = 0 := rfl; first | omega | exact ky2.elim)) c)
    exact KK _ M2 hJ (by omega)
set_option maxRecDepth 100000 in
set_option maxHeartbeats 4000000 in
theorem lc_38 {l : Launch} {Z : li_Z} {b L kc : Nat} {xs : Nat → Int32} {x4 : Int32} {M : li_M} {Q : Option Value → li_M → Prop} (htr : l.stackTraces = false) (hk : kc ≤ 512) (hJ : li_J M) (v1 : vp_in (x4 + 1) L) (v2 : vp_in (x4 + 2) L) (v3 : vp_in (x4 + 3) L) (v4 : vp_in (x4 + 4) L) (hR0 : (M.1 1 1).toInt = 0) (hR1 : (M.1 3 1).toInt = 0) (hR2 : (M.1 5 0).toInt = 0) (hR3 : (M.1 5 1).toInt = 0) (hR4 : (M.1 13 0).toInt = 0) (hR5 : (M.1 13 1).toInt = 0) (hR6 : (M.1 13 2).toInt = 0) (hR7 : (M.1 21 3).toInt = 0) (hR8 : (M.1 21 4).toInt = 0) (hR9 : (M.1 163 7).toInt = 0) (hR10 : (M.1 171 5).toInt = 0) (hR11 : (M.1 175 1).toInt = 0) (hR12 : (M.1 175 4).toInt = 0) (hR13 : (M.1 175 7).toInt = 0) (hR14 : (M.1 175 9).toInt = 0) (hR15 : (M.1 175 23).toInt = 0) (hR16 : (M.1 175 38).toInt = 0) (hR17 : (M.1 175 43).toInt = 0) (hR18 : (M.1 176 18).toInt = 0) (hR19 : (M.1 176 19).toInt = 0) (hR20 : (M.1 176 20).toInt = 0) (Pwq_M : li_wq (M.1 192) ((M.1 175 35).toInt) (121) (0) (0)) (Pkz_M : ∀ i : Nat, (M.1 202 i).toInt = 0) (KK : ∀ (k : Nat) (M : li_M), li_J M → k ≤ kc + 1 → l3_T l Z b L xs k 1456 [(4, .int x4), (0, .ref b), (1, .ref (Z.2.2 0)), (2, .ref (Z.2.2 175)), (3, .ref (Z.2.2 204))] [] M Q) : l3_T l Z b L xs kc 1375 [(4, .int x4), (0, .ref b), (1, .ref (Z.2.2 0)), (2, .ref (Z.2.2 175)), (3, .ref (Z.2.2 204))] [] M Q := by
  have rJ1 := J_sl1 (M := M) hJ
  have rJ4 := J_sl4 (M := M) hJ
  have rJ7 := J_sl7 (M := M) hJ
  have rJ9 := J_sl9 (M := M) hJ
  have rJ23 := J_sl23 (M := M) hJ
  have rJ38 := J_sl38 (M := M) hJ
  refine l3_aload_n 2 dL_law_1375 rfl ?_
  refine l3_aload_n 1 dL_law_1376 rfl ?_
  refine l3_iload 0 dL_law_1377 rfl ?_
  refine l3_iconst 1 dL_law_1379 (by decide) ?_
  refine l3_iadd dL_law_1380 ?_
  refine l3_sld dL_law_1381 v1 ?_
  refine l3_callV (n := 1) (As := [.int (xs (x4 + 1 : Int32).toNatClampNeg)]) (by omega) dL_law_1382 (k15_X11_count 1000 (by omega) (xs (x4 + 1 : Int32).toNatClampNeg) M (by first | omega | decide) (by first | omega | decide) (by first | omega | decide) (by first | omega | decide) (by first | omega | decide) (by first | omega | decide) (by first | omega | decide) (by first | omega | decide) (by first | omega | decide) (by first | omega | decide)) (Nat.le_of_ble_eq_true rfl) (Nat.le_of_ble_eq_true rfl) w_1291 w_1292 w_1293 w_101 w_1294 (by decide +kernel) rfl (by decide) sh_0 rfl rfl (Nat.le_of_ble_eq_true rfl) (fun r M1 h1 => ?_)
  obtain ⟨⟨y1, rfl, ky1⟩, h1⟩ := h1
  have hJ := l3_J hJ h1 (fun i h => by first | exact (h : False).elim | omega)
  have oM1_1_1 : (M1.1 1 1).toInt = (M.1 1 1).toInt := tl_slot (congrFun (h1.1 1 (fun h => by first | exact (h : False).elim | omega)) 1)
  have oM1_3_1 : (M1.1 3 1).toInt = (M.1 3 1).toInt := tl_slot (congrFun (h1.1 3 (fun h => by first | exact (h : False).elim | omega)) 1)
  have oM1_5_0 : (M1.1 5 0).toInt = (M.1 5 0).toInt := tl_slot (congrFun (h1.1 5 (fun h => by first | exact (h : False).elim | omega)) 0)
  have oM1_5_1 : (M1.1 5 1).toInt = (M.1 5 1).toInt := tl_slot (congrFun (h1.1 5 (fun h => by first | exact (h : False).elim | omega)) 1)
  have oM1_13_0 : (M1.1 13 0).toInt = (M.1 13 0).toInt := tl_slot (congrFun (h1.1 13 (fun h => by first | exact (h : False).elim | omega)) 0)
  have oM1_13_1 : (M1.1 13 1).toInt = (M.1 13 1).toInt := tl_slot (congrFun (h1.1 13 (fun h => by first | exact (h : False).elim | omega)) 1)
  have oM1_13_2 : (M1.1 13 2).toInt = (M.1 13 2).toInt := tl_slot (congrFun (h1.1 13 (fun h => by first | exact (h : False).elim | omega)) 2)
  have oM1_21_3 : (M1.1 21 3).toInt = (M.1 21 3).toInt := tl_slot (congrFun (h1.1 21 (fun h => by first | exact (h : False).elim | omega)) 3)
  have oM1_21_4 : (M1.1 21 4).toInt = (M.1 21 4).toInt := tl_slot (congrFun (h1.1 21 (fun h => by first | exact (h : False).elim | omega)) 4)
  have oM1_163_7 : (M1.1 163 7).toInt = (M.1 163 7).toInt := tl_slot (congrFun (h1.1 163 (fun h => by first | exact (h : False).elim | omega)) 7)
  have oM1_171_5 : (M1.1 171 5).toInt = (M.1 171 5).toInt := tl_slot (congrFun (h1.1 171 (fun h => by first | exact (h : False).elim | omega)) 5)
  have oM1_175_1 : (M1.1 175 1).toInt = (M.1 175 1).toInt := tl_slot (congrFun (h1.1 175 (fun h => by first | exact (h : False).elim | omega)) 1)
  have oM1_175_4 : (M1.1 175 4).toInt = (M.1 175 4).toInt := tl_slot (congrFun (h1.1 175 (fun h => by first | exact (h : False).elim | omega)) 4)
  have oM1_175_7 : (M1.1 175 7).toInt = (M.1 175 7).toInt := tl_slot (congrFun (h1.1 175 (fun h => by first | exact (h : False).elim | omega)) 7)
  have oM1_175_9 : (M1.1 175 9).toInt = (M.1 175 9).toInt := tl_slot (congrFun (h1.1 175 (fun h => by first | exact (h : False).elim | omega)) 9)
  have oM1_175_23 : (M1.1 175 23).toInt = (M.1 175 23).toInt := tl_slot (congrFun (h1.1 175 (fun h => by first | exact (h : False).elim | omega)) 23)
  have oM1_175_38 : (M1.1 175 38).toInt = (M.1 175 38).toInt := tl_slot (congrFun (h1.1 175 (fun h => by first | exact (h : False).elim | omega)) 38)
  have oM1_175_43 : (M1.1 175 43).toInt = (M.1 175 43).toInt := tl_slot (congrFun (h1.1 175 (fun h => by first | exact (h : False).elim | omega)) 43)
  have oM1_176_18 : (M1.1 176 18).toInt = (M.1 176 18).toInt := tl_slot (congrFun (h1.1 176 (fun h => by first | exact (h : False).elim | omega)) 18)
  have oM1_176_19 : (M1.1 176 19).toInt = (M.1 176 19).toInt := tl_slot (congrFun (h1.1 176 (fun h => by first | exact (h : False).elim | omega)) 19)
  have oM1_176_20 : (M1.1 176 20).toInt = (M.1 176 20).toInt := tl_slot (congrFun (h1.1 176 (fun h => by first | exact (h : False).elim | omega)) 20)
  have Pwq_M1 : li_wq (M1.1 192) ((M1.1 175 35).toInt) (121) (0) (0) := li_wq_mv (h1.1 192 (fun h => by first | exact (h : False).elim | omega)) (tl_slot (congrFun (h1.1 175 (fun h => by first | exact (h : False).elim | omega)) 35)) Pwq_M
  have Pkz_M1 : ∀ i : Nat, (M1.1 202 i).toInt = 0 := fun i => (tl_slot (congrFun (h1.1 202 (fun h => by first | exact (h : False).elim | omega)) i)).trans (Pkz_M i)
  refine l3_aload_n 3 dL_law_1385 rfl ?_
  refine l3_aload_n 1 dL_law_1386 rfl ?_
  refine l3_iload 0 dL_law_1387 rfl ?_
  refine l3_iconst 1 dL_law_1389 (by decide) ?_
  refine l3_iadd dL_law_1390 ?_
  refine l3_sld dL_law_1391 v1 ?_
  refine l3_callV (n := 1) (As := [.int (xs (x4 + 1 : Int32).toNatClampNeg)]) (by omega) dL_law_1392 (k15_X12_count 1000 (by omega) (xs (x4 + 1 : Int32).toNatClampNeg) M1 hJ (by omega) (by omega) (by omega) (by omega) (by omega) (by omega) (by omega) (by omega) (by omega) (by omega) ) (Nat.le_of_ble_eq_true rfl) (Nat.le_of_ble_eq_true rfl) w_1980 w_1981 w_1982 w_112 w_1983 (by decide +kernel) rfl (by decide) sh_175 rfl rfl (Nat.le_of_ble_eq_true rfl) (fun r M2 h2 => ?_)
  have jh2 := h2
  obtain ⟨⟨y2, rfl, ky2⟩, h2⟩ := h2
  have hJ := h2.2
  refine l3_icmp_eq 1456 dL_law_1395 (by decide) (fun c => ?_) (fun c => absurd (Int32.toInt_inj.mp (show (y1 : Int32).toInt = (y2 : Int32).toInt by omega)) c)
  exact KK _ M2 hJ (by omega)
set_option maxRecDepth 100000 in
set_option maxHeartbeats 4000000 in
theorem lc_39 {l : Launch} {Z : li_Z} {b L kc : Nat} {xs : Nat → Int32} {x4 : Int32} {M : li_M} {Q : Option Value → li_M → Prop} (htr : l.stackTraces = false) (hk : kc ≤ 512) (hJ : li_J M) (v1 : vp_in (x4 + 1) L) (v2 : vp_in (x4 + 2) L) (v3 : vp_in (x4 + 3) L) (v4 : vp_in (x4 + 4) L) (hR0 : (M.1 1 1).toInt = 0) (hR1 : (M.1 3 1).toInt = 0) (hR2 : (M.1 5 0).toInt = 0) (hR3 : (M.1 5 1).toInt = 0) (hR4 : (M.1 13 0).toInt = 0) (hR5 : (M.1 13 1).toInt = 0) (hR6 : (M.1 13 2).toInt = 0) (hR7 : (M.1 21 3).toInt = 0) (hR8 : (M.1 21 4).toInt = 0) (hR9 : (M.1 163 7).toInt = 0) (hR10 : (M.1 171 5).toInt = 0) (hR11 : (M.1 175 1).toInt = 0) (hR12 : (M.1 175 4).toInt = 0) (hR13 : (M.1 175 7).toInt = 0) (hR14 : (M.1 175 9).toInt = 0) (hR15 : (M.1 175 23).toInt = 0) (hR16 : (M.1 175 38).toInt = 0) (hR17 : (M.1 175 43).toInt = 0) (hR18 : (M.1 176 18).toInt = 0) (hR19 : (M.1 176 19).toInt = 0) (hR20 : (M.1 176 20).toInt = 0) (Pwq_M : li_wq (M.1 192) ((M.1 175 35).toInt) (121) (0) (0)) (Pkz_M : ∀ i : Nat, (M.1 202 i).toInt = 0) (KK : ∀ (k : Nat) (M : li_M), li_J M → k ≤ kc + 1 → l3_T l Z b L xs k 1456 [(4, .int x4), (0, .ref b), (1, .ref (Z.2.2 0)), (2, .ref (Z.2.2 175)), (3, .ref (Z.2.2 204))] [] M Q) : l3_T l Z b L xs kc 1400 [(4, .int x4), (0, .ref b), (1, .ref (Z.2.2 0)), (2, .ref (Z.2.2 175)), (3, .ref (Z.2.2 204))] [] M Q := by
  have rJ1 := J_sl1 (M := M) hJ
  have rJ4 := J_sl4 (M := M) hJ
  have rJ7 := J_sl7 (M := M) hJ
  have rJ9 := J_sl9 (M := M) hJ
  have rJ23 := J_sl23 (M := M) hJ
  have rJ38 := J_sl38 (M := M) hJ
  refine l3_aload_n 2 dL_law_1400 rfl ?_
  refine l3_aload_n 1 dL_law_1401 rfl ?_
  refine l3_iload 0 dL_law_1402 rfl ?_
  refine l3_iconst 1 dL_law_1404 (by decide) ?_
  refine l3_iadd dL_law_1405 ?_
  refine l3_sld dL_law_1406 v1 ?_
  refine l3_aload_n 4 dL_law_1407 rfl ?_
  refine l3_callH (n := 3) (As := [.ref (Z.2.2 0), .int (xs (x4 + 1 : Int32).toNatClampNeg), .ref (Z.2.2 204)]) (by omega) dL_law_1408 (lh_row htr (xs (x4 + 1 : Int32).toNatClampNeg) M (by omega)) (Nat.le_of_ble_eq_true rfl) w_1388 w_1389 w_100 w_1390 (by decide +kernel) rfl rfl (Nat.le_of_ble_eq_true rfl) (fun r M1 h1 => ?_)
  obtain ⟨rfl, h1⟩ := h1
  have hJ := l3_J hJ h1 (fun i h => (h : False).elim)
  have oM1_1_1 : (M1.1 1 1).toInt = (M.1 1 1).toInt := tl_slot (congrFun (h1.1 1 (fun h => by first | exact (h : False).elim | omega)) 1)
  have oM1_3_1 : (M1.1 3 1).toInt = (M.1 3 1).toInt := tl_slot (congrFun (h1.1 3 (fun h => by first | exact (h : False).elim | omega)) 1)
  have oM1_5_0 : (M1.1 5 0).toInt = (M.1 5 0).toInt := tl_slot (congrFun (h1.1 5 (fun h => by first | exact (h : False).elim | omega)) 0)
  have oM1_5_1 : (M1.1 5 1).toInt = (M.1 5 1).toInt := tl_slot (congrFun (h1.1 5 (fun h => by first | exact (h : False).elim | omega)) 1)
  have oM1_13_0 : (M1.1 13 0).toInt = (M.1 13 0).toInt := tl_slot (congrFun (h1.1 13 (fun h => by first | exact (h : False).elim | omega)) 0)
  have oM1_13_1 : (M1.1 13 1).toInt = (M.1 13 1).toInt := tl_slot (congrFun (h1.1 13 (fun h => by first | exact (h : False).elim | omega)) 1)
  have oM1_13_2 : (M1.1 13 2).toInt = (M.1 13 2).toInt := tl_slot (congrFun (h1.1 13 (fun h => by first | exact (h : False).elim | omega)) 2)
  have oM1_21_3 : (M1.1 21 3).toInt = (M.1 21 3).toInt := tl_slot (congrFun (h1.1 21 (fun h => by first | exact (h : False).elim | omega)) 3)
  have oM1_21_4 : (M1.1 21 4).toInt = (M.1 21 4).toInt := tl_slot (congrFun (h1.1 21 (fun h => by first | exact (h : False).elim | omega)) 4)
  have oM1_163_7 : (M1.1 163 7).toInt = (M.1 163 7).toInt := tl_slot (congrFun (h1.1 163 (fun h => by first | exact (h : False).elim | omega)) 7)
  have oM1_171_5 : (M1.1 171 5).toInt = (M.1 171 5).toInt := tl_slot (congrFun (h1.1 171 (fun h => by first | exact (h : False).elim | omega)) 5)
  have oM1_175_1 : (M1.1 175 1).toInt = (M.1 175 1).toInt := tl_slot (congrFun (h1.1 175 (fun h => by first | exact (h : False).elim | omega)) 1)
  have oM1_175_4 : (M1.1 175 4).toInt = (M.1 175 4).toInt := tl_slot (congrFun (h1.1 175 (fun h => by first | exact (h : False).elim | omega)) 4)
  have oM1_175_7 : (M1.1 175 7).toInt = (M.1 175 7).toInt := tl_slot (congrFun (h1.1 175 (fun h => by first | exact (h : False).elim | omega)) 7)
  have oM1_175_9 : (M1.1 175 9).toInt = (M.1 175 9).toInt := tl_slot (congrFun (h1.1 175 (fun h => by first | exact (h : False).elim | omega)) 9)
  have oM1_175_23 : (M1.1 175 23).toInt = (M.1 175 23).toInt := tl_slot (congrFun (h1.1 175 (fun h => by first | exact (h : False).elim | omega)) 23)
  have oM1_175_38 : (M1.1 175 38).toInt = (M.1 175 38).toInt := tl_slot (congrFun (h1.1 175 (fun h => by first | exact (h : False).elim | omega)) 38)
  have oM1_175_43 : (M1.1 175 43).toInt = (M.1 175 43).toInt := tl_slot (congrFun (h1.1 175 (fun h => by first | exact (h : False).elim | omega)) 43)
  have oM1_176_18 : (M1.1 176 18).toInt = (M.1 176 18).toInt := tl_slot (congrFun (h1.1 176 (fun h => by first | exact (h : False).elim | omega)) 18)
  have oM1_176_19 : (M1.1 176 19).toInt = (M.1 176 19).toInt := tl_slot (congrFun (h1.1 176 (fun h => by first | exact (h : False).elim | omega)) 19)
  have oM1_176_20 : (M1.1 176 20).toInt = (M.1 176 20).toInt := tl_slot (congrFun (h1.1 176 (fun h => by first | exact (h : False).elim | omega)) 20)
  have Pwq_M1 : li_wq (M1.1 192) ((M1.1 175 35).toInt) (121) (0) (0) := li_wq_mv (h1.1 192 (fun h => by first | exact (h : False).elim | omega)) (tl_slot (congrFun (h1.1 175 (fun h => by first | exact (h : False).elim | omega)) 35)) Pwq_M
  have Pkz_M1 : ∀ i : Nat, (M1.1 202 i).toInt = 0 := fun i => (tl_slot (congrFun (h1.1 202 (fun h => by first | exact (h : False).elim | omega)) i)).trans (Pkz_M i)
  refine l3_istore [(5, .int 1), (4, .int x4), (0, .ref b), (1, .ref (Z.2.2 0)), (2, .ref (Z.2.2 175)), (3, .ref (Z.2.2 204))] dL_law_1411 (by decide) rfl ?_
  refine l3_aload_n 4 dL_law_1413 rfl ?_
  refine l3_aload_n 2 dL_law_1414 rfl ?_
  refine l3_iload 1 dL_law_1415 rfl ?_
  refine l3_iconst 1 dL_law_1417 (by decide) ?_
  refine l3_iadd dL_law_1418 ?_
  refine l3_sld dL_law_1419 v1 ?_
  refine l3_callV (n := 1) (As := [.int (xs (x4 + 1 : Int32).toNatClampNeg)]) (by omega) dL_law_1420 (k15_X12_row 1000 (by omega) (xs (x4 + 1 : Int32).toNatClampNeg) M1 hJ (by omega) ) (Nat.le_of_ble_eq_true rfl) (Nat.le_of_ble_eq_true rfl) w_1984 w_1985 w_1986 w_112 w_1987 (by decide +kernel) rfl (by decide) sh_175 rfl rfl (Nat.le_of_ble_eq_true rfl) (fun r M2 h2 => ?_)
  have jh2 := h2
  obtain ⟨⟨y2, rfl, ky2⟩, h2⟩ := h2
  have hJ := h2.2.1
  have nh2 := h2.2.2
  refine l3_istore [(6, .int y2), (5, .int 1), (4, .int x4), (0, .ref b), (1, .ref (Z.2.2 0)), (2, .ref (Z.2.2 175)), (3, .ref (Z.2.2 204))] dL_law_1423 (by decide) rfl ?_
  refine l3_aload_n 5 dL_law_1425 rfl ?_
  refine l3_callV (n := 0) (As := []) (by omega) dL_law_1426 (k15_X12_thrown 1000 (by omega)  M2 hJ ) (Nat.le_of_ble_eq_true rfl) (Nat.le_of_ble_eq_true rfl) w_1562 w_1563 w_1564 w_112 w_1565 (by decide +kernel) rfl (by decide) sh_175 rfl rfl (Nat.le_of_ble_eq_true rfl) (fun r M3 h3 => ?_)
  have jh3 := h3
  obtain ⟨⟨y3, rfl, ky3⟩, h3⟩ := h3
  have hJ := h3.2
  refine l3_iload 1 dL_law_1429 rfl ?_
  refine l3_icmp_eq 1436 dL_law_1431 (by decide) (fun c => ?_) (fun c => absurd (Int32.toInt_inj.mp (show (y3 : Int32).toInt = (1 : Int32).toInt by have z : (1 : Int32).toInt = 1 := rfl; first | omega | exact ky3.elim)) c)
  refine l3_iload 1 dL_law_1436 rfl ?_
  refine l3_if_ne 1453 dL_law_1438 (by decide) (fun c => ?_) (fun c => absurd c (by decide))
  refine l3_goto 1456 dL_law_1453 (by decide) ?_
  refine l3_pick [2, 3, 4, 5, 6] [(4, .int x4), (0, .ref b), (1, .ref (Z.2.2 0)), (2, .ref (Z.2.2 175)), (3, .ref (Z.2.2 204))] rfl ?_
  exact KK _ M3 hJ (by omega)
set_option maxRecDepth 100000 in
set_option maxHeartbeats 4000000 in
theorem l3_loop {l : Launch} {Z : li_Z} {b L : Nat} {xs : Nat → Int32} {Q : Option Value → li_M → Prop} (htr : l.stackTraces = false) (hL : L ≤ 5) (M : li_M) (hJ : li_J M) (hR0 : (M.1 1 1).toInt = 0) (hR1 : (M.1 3 1).toInt = 0) (hR2 : (M.1 5 0).toInt = 0) (hR3 : (M.1 5 1).toInt = 0) (hR4 : (M.1 13 0).toInt = 0) (hR5 : (M.1 13 1).toInt = 0) (hR6 : (M.1 13 2).toInt = 0) (hR7 : (M.1 21 3).toInt = 0) (hR8 : (M.1 21 4).toInt = 0) (hR9 : (M.1 163 7).toInt = 0) (hR10 : (M.1 171 5).toInt = 0) (hR11 : (M.1 175 1).toInt = 0) (hR12 : (M.1 175 4).toInt = 0) (hR13 : (M.1 175 7).toInt = 0) (hR14 : (M.1 175 9).toInt = 0) (hR15 : (M.1 175 23).toInt = 0) (hR16 : (M.1 175 38).toInt = 0) (hR17 : (M.1 175 43).toInt = 0) (hR18 : (M.1 176 18).toInt = 0) (hR19 : (M.1 176 19).toInt = 0) (hR20 : (M.1 176 20).toInt = 0) (Pwq_M : li_wq (M.1 192) ((M.1 175 35).toInt) (121) (0) (0)) (Pkz_M : ∀ i : Nat, (M.1 202 i).toInt = 0) : l3_T l Z b L xs 0 23 [(4, .int 0), (0, .ref b), (1, .ref (Z.2.2 0)), (2, .ref (Z.2.2 175)), (3, .ref (Z.2.2 204))] [] M Q := by
  have zL : (Int32.ofNat L).toInt = (L : Int) := Int32.toInt_ofNat_small (by omega)
  have z5 : (5 : Int32).toInt = 5 := rfl
  have z0 : (0 : Int32).toInt = 0 := rfl
  refine l3_iload 0 dL_law_23 rfl ?_
  refine l3_aload_n 1 dL_law_25 rfl ?_
  refine l3_slen dL_law_26 ?_
  refine l3_iconst 5 dL_law_27 (by decide) ?_
  refine l3_isub dL_law_28 ?_
  refine l3_top (fun y ey => ?_)
  have ty : y.toInt = (Int32.ofNat L).toInt - (5 : Int32).toInt := tl_sub ey (by omega)
  refine l3_icmp_gt 1462 dL_law_29 (by decide) (fun c => ?_) (fun c => ?_)
  · refine l3_iconst 1 dL_law_1462 (by decide) ?_
    exact l3_end (by omega) dL_law_1463
  · have tc := tl_nlt c
    have z1 : (1 : Int32).toInt = 1 := rfl
    have i1 : ((0 : Int32) + 1).toInt = (0 : Int32).toInt + (1 : Int32).toInt := tl_add rfl (by omega)
    have v1 : vp_in ((0 : Int32) + 1) L := tl_in (by omega)
    have z2 : (2 : Int32).toInt = 2 := rfl
    have i2 : ((0 : Int32) + 2).toInt = (0 : Int32).toInt + (2 : Int32).toInt := tl_add rfl (by omega)
    have v2 : vp_in ((0 : Int32) + 2) L := tl_in (by omega)
    have z3 : (3 : Int32).toInt = 3 := rfl
    have i3 : ((0 : Int32) + 3).toInt = (0 : Int32).toInt + (3 : Int32).toInt := tl_add rfl (by omega)
    have v3 : vp_in ((0 : Int32) + 3) L := tl_in (by omega)
    have z4 : (4 : Int32).toInt = 4 := rfl
    have i4 : ((0 : Int32) + 4).toInt = (0 : Int32).toInt + (4 : Int32).toInt := tl_add rfl (by omega)
    have v4 : vp_in ((0 : Int32) + 4) L := tl_in (by omega)
    have v0 : vp_in 0 L := tl_in (by omega)
    have KK : ∀ (k : Nat) (M : li_M), li_J M → k ≤ 0 + 1 → l3_T l Z b L xs k 1456 [(4, .int 0), (0, .ref b), (1, .ref (Z.2.2 0)), (2, .ref (Z.2.2 175)), (3, .ref (Z.2.2 204))] [] M Q := by
      intro k' M' hJ' hk'
      obtain ⟨x5, e5⟩ : ∃ y : Int32, y = 0 + 5 := ⟨_, rfl⟩
      have t5 : x5.toInt = (0 : Int32).toInt + (5 : Int32).toInt := tl_add e5 (by omega)
      refine l3_iinc 0 [(4, .int x5), (0, .ref b), (1, .ref (Z.2.2 0)), (2, .ref (Z.2.2 175)), (3, .ref (Z.2.2 204))] x5 dL_law_1456 rfl (by rw [e5]; rfl) (by decide) rfl ?_
      refine l3_goto 23 dL_law_1459 (by decide) ?_
      refine l3_iload 0 dL_law_23 rfl ?_
      refine l3_aload_n 1 dL_law_25 rfl ?_
      refine l3_slen dL_law_26 ?_
      refine l3_iconst 5 dL_law_27 (by decide) ?_
      refine l3_isub dL_law_28 ?_
      refine l3_top (fun y2 ey2 => ?_)
      have ty2 : y2.toInt = (Int32.ofNat L).toInt - (5 : Int32).toInt := tl_sub ey2 (by omega)
      refine l3_icmp_gt 1462 dL_law_29 (by decide) (fun c => ?_) (fun c => ?_)
      · refine l3_iconst 1 dL_law_1462 (by decide) ?_
        exact l3_end (by omega) dL_law_1463
      · have tc2 := tl_nlt c
        exfalso; omega
    refine l3_aload_n 1 dL_law_32 rfl ?_
    refine l3_iload 0 dL_law_33 rfl ?_
    refine l3_sld dL_law_35 v0 ?_
    refine l3_bipush 63 dL_law_36 (by decide) ?_
    refine l3_iand dL_law_38 ?_
    refine l3_top (fun z ez => ?_)
    refine l3_table dL_law_39 1456 (by decide) (fun c => KK 0 M hJ (by omega)) (fun ca cb => ?_)
    rcases (show z.toInt = 0 ∨ z.toInt = 1 ∨ z.toInt = 2 ∨ z.toInt = 3 ∨ z.toInt = 4 ∨ z.toInt = 5 ∨ z.toInt = 6 ∨ z.toInt = 7 ∨ z.toInt = 8 ∨ z.toInt = 9 ∨ z.toInt = 10 ∨ z.toInt = 11 ∨ z.toInt = 12 ∨ z.toInt = 13 ∨ z.toInt = 14 ∨ z.toInt = 15 ∨ z.toInt = 16 ∨ z.toInt = 17 ∨ z.toInt = 18 ∨ z.toInt = 19 ∨ z.toInt = 20 ∨ z.toInt = 21 ∨ z.toInt = 22 ∨ z.toInt = 23 ∨ z.toInt = 24 ∨ z.toInt = 25 ∨ z.toInt = 26 ∨ z.toInt = 27 ∨ z.toInt = 28 ∨ z.toInt = 29 ∨ z.toInt = 30 ∨ z.toInt = 31 ∨ z.toInt = 32 ∨ z.toInt = 33 ∨ z.toInt = 34 ∨ z.toInt = 35 ∨ z.toInt = 36 ∨ z.toInt = 37 ∨ z.toInt = 38 ∨ z.toInt = 39 by omega) with c | c | c | c | c | c | c | c | c | c | c | c | c | c | c | c | c | c | c | c | c | c | c | c | c | c | c | c | c | c | c | c | c | c | c | c | c | c | c | c
    · exact ⟨173, 212, by rw [c]; rfl, by decide, lc_0 htr (by omega) hJ v1 v2 v3 v4 hR0 hR1 hR2 hR3 hR4 hR5 hR6 hR7 hR8 hR9 hR10 hR11 hR12 hR13 hR14 hR15 hR16 hR17 hR18 hR19 hR20 Pwq_M Pkz_M KK⟩
    · exact ⟨198, 237, by rw [c]; rfl, by decide, lc_1 htr (by omega) hJ v1 v2 v3 v4 hR0 hR1 hR2 hR3 hR4 hR5 hR6 hR7 hR8 hR9 hR10 hR11 hR12 hR13 hR14 hR15 hR16 hR17 hR18 hR19 hR20 Pwq_M Pkz_M KK⟩
    · exact ⟨223, 262, by rw [c]; rfl, by decide, lc_2 htr (by omega) hJ v1 v2 v3 v4 hR0 hR1 hR2 hR3 hR4 hR5 hR6 hR7 hR8 hR9 hR10 hR11 hR12 hR13 hR14 hR15 hR16 hR17 hR18 hR19 hR20 Pwq_M Pkz_M KK⟩
    · exact ⟨236, 275, by rw [c]; rfl, by decide, lc_3 htr (by omega) hJ v1 v2 v3 v4 hR0 hR1 hR2 hR3 hR4 hR5 hR6 hR7 hR8 hR9 hR10 hR11 hR12 hR13 hR14 hR15 hR16 hR17 hR18 hR19 hR20 Pwq_M Pkz_M KK⟩
    · exact ⟨249, 288, by rw [c]; rfl, by decide, lc_4 htr (by omega) hJ v1 v2 v3 v4 hR0 hR1 hR2 hR3 hR4 hR5 hR6 hR7 hR8 hR9 hR10 hR11 hR12 hR13 hR14 hR15 hR16 hR17 hR18 hR19 hR20 Pwq_M Pkz_M KK⟩
    · exact ⟨262, 301, by rw [c]; rfl, by decide, lc_5 htr (by omega) hJ v1 v2 v3 v4 hR0 hR1 hR2 hR3 hR4 hR5 hR6 hR7 hR8 hR9 hR10 hR11 hR12 hR13 hR14 hR15 hR16 hR17 hR18 hR19 hR20 Pwq_M Pkz_M KK⟩
    · exact ⟨330, 369, by rw [c]; rfl, by decide, lc_6 htr (by omega) hJ v1 v2 v3 v4 hR0 hR1 hR2 hR3 hR4 hR5 hR6 hR7 hR8 hR9 hR10 hR11 hR12 hR13 hR14 hR15 hR16 hR17 hR18 hR19 hR20 Pwq_M Pkz_M KK⟩
    · exact ⟨398, 437, by rw [c]; rfl, by decide, lc_7 htr (by omega) hJ v1 v2 v3 v4 hR0 hR1 hR2 hR3 hR4 hR5 hR6 hR7 hR8 hR9 hR10 hR11 hR12 hR13 hR14 hR15 hR16 hR17 hR18 hR19 hR20 Pwq_M Pkz_M KK⟩
    · exact ⟨466, 505, by rw [c]; rfl, by decide, lc_8 htr (by omega) hJ v1 v2 v3 v4 hR0 hR1 hR2 hR3 hR4 hR5 hR6 hR7 hR8 hR9 hR10 hR11 hR12 hR13 hR14 hR15 hR16 hR17 hR18 hR19 hR20 Pwq_M Pkz_M KK⟩
    · exact ⟨503, 542, by rw [c]; rfl, by decide, lc_9 htr (by omega) hJ v1 v2 v3 v4 hR0 hR1 hR2 hR3 hR4 hR5 hR6 hR7 hR8 hR9 hR10 hR11 hR12 hR13 hR14 hR15 hR16 hR17 hR18 hR19 hR20 Pwq_M Pkz_M KK⟩
    · exact ⟨564, 603, by rw [c]; rfl, by decide, lc_10 htr (by omega) hJ v1 v2 v3 v4 hR0 hR1 hR2 hR3 hR4 hR5 hR6 hR7 hR8 hR9 hR10 hR11 hR12 hR13 hR14 hR15 hR16 hR17 hR18 hR19 hR20 Pwq_M Pkz_M KK⟩
    · exact ⟨601, 640, by rw [c]; rfl, by decide, lc_11 htr (by omega) hJ v1 v2 v3 v4 hR0 hR1 hR2 hR3 hR4 hR5 hR6 hR7 hR8 hR9 hR10 hR11 hR12 hR13 hR14 hR15 hR16 hR17 hR18 hR19 hR20 Pwq_M Pkz_M KK⟩
    · exact ⟨638, 677, by rw [c]; rfl, by decide, lc_12 htr (by omega) hJ v1 v2 v3 v4 hR0 hR1 hR2 hR3 hR4 hR5 hR6 hR7 hR8 hR9 hR10 hR11 hR12 hR13 hR14 hR15 hR16 hR17 hR18 hR19 hR20 Pwq_M Pkz_M KK⟩
    · exact ⟨687, 726, by rw [c]; rfl, by decide, lc_13 htr (by omega) hJ v1 v2 v3 v4 hR0 hR1 hR2 hR3 hR4 hR5 hR6 hR7 hR8 hR9 hR10 hR11 hR12 hR13 hR14 hR15 hR16 hR17 hR18 hR19 hR20 Pwq_M Pkz_M KK⟩
    · exact ⟨748, 787, by rw [c]; rfl, by decide, lc_14 htr (by omega) hJ v1 v2 v3 v4 hR0 hR1 hR2 hR3 hR4 hR5 hR6 hR7 hR8 hR9 hR10 hR11 hR12 hR13 hR14 hR15 hR16 hR17 hR18 hR19 hR20 Pwq_M Pkz_M KK⟩
    · exact ⟨773, 812, by rw [c]; rfl, by decide, lc_15 htr (by omega) hJ v1 v2 v3 v4 hR0 hR1 hR2 hR3 hR4 hR5 hR6 hR7 hR8 hR9 hR10 hR11 hR12 hR13 hR14 hR15 hR16 hR17 hR18 hR19 hR20 Pwq_M Pkz_M KK⟩
    · exact ⟨786, 825, by rw [c]; rfl, by decide, lc_16 htr (by omega) hJ v1 v2 v3 v4 hR0 hR1 hR2 hR3 hR4 hR5 hR6 hR7 hR8 hR9 hR10 hR11 hR12 hR13 hR14 hR15 hR16 hR17 hR18 hR19 hR20 Pwq_M Pkz_M KK⟩
    · exact ⟨799, 838, by rw [c]; rfl, by decide, lc_17 htr (by omega) hJ v1 v2 v3 v4 hR0 hR1 hR2 hR3 hR4 hR5 hR6 hR7 hR8 hR9 hR10 hR11 hR12 hR13 hR14 hR15 hR16 hR17 hR18 hR19 hR20 Pwq_M Pkz_M KK⟩
    · exact ⟨824, 863, by rw [c]; rfl, by decide, lc_18 htr (by omega) hJ v1 v2 v3 v4 hR0 hR1 hR2 hR3 hR4 hR5 hR6 hR7 hR8 hR9 hR10 hR11 hR12 hR13 hR14 hR15 hR16 hR17 hR18 hR19 hR20 Pwq_M Pkz_M KK⟩
    · exact ⟨849, 888, by rw [c]; rfl, by decide, lc_19 htr (by omega) hJ v1 v2 v3 v4 hR0 hR1 hR2 hR3 hR4 hR5 hR6 hR7 hR8 hR9 hR10 hR11 hR12 hR13 hR14 hR15 hR16 hR17 hR18 hR19 hR20 Pwq_M Pkz_M KK⟩
    · exact ⟨862, 901, by rw [c]; rfl, by decide, lc_20 htr (by omega) hJ v1 v2 v3 v4 hR0 hR1 hR2 hR3 hR4 hR5 hR6 hR7 hR8 hR9 hR10 hR11 hR12 hR13 hR14 hR15 hR16 hR17 hR18 hR19 hR20 Pwq_M Pkz_M KK⟩
    · exact ⟨887, 926, by rw [c]; rfl, by decide, lc_21 htr (by omega) hJ v1 v2 v3 v4 hR0 hR1 hR2 hR3 hR4 hR5 hR6 hR7 hR8 hR9 hR10 hR11 hR12 hR13 hR14 hR15 hR16 hR17 hR18 hR19 hR20 Pwq_M Pkz_M KK⟩
    · exact ⟨900, 939, by rw [c]; rfl, by decide, lc_22 htr (by omega) hJ v1 v2 v3 v4 hR0 hR1 hR2 hR3 hR4 hR5 hR6 hR7 hR8 hR9 hR10 hR11 hR12 hR13 hR14 hR15 hR16 hR17 hR18 hR19 hR20 Pwq_M Pkz_M KK⟩
    · exact ⟨949, 988, by rw [c]; rfl, by decide, lc_23 htr (by omega) hJ v1 v2 v3 v4 hR0 hR1 hR2 hR3 hR4 hR5 hR6 hR7 hR8 hR9 hR10 hR11 hR12 hR13 hR14 hR15 hR16 hR17 hR18 hR19 hR20 Pwq_M Pkz_M KK⟩
    · exact ⟨998, 1037, by rw [c]; rfl, by decide, lc_24 htr (by omega) hJ v1 v2 v3 v4 hR0 hR1 hR2 hR3 hR4 hR5 hR6 hR7 hR8 hR9 hR10 hR11 hR12 hR13 hR14 hR15 hR16 hR17 hR18 hR19 hR20 Pwq_M Pkz_M KK⟩
    · exact ⟨1047, 1086, by rw [c]; rfl, by decide, lc_25 htr (by omega) hJ v1 v2 v3 v4 hR0 hR1 hR2 hR3 hR4 hR5 hR6 hR7 hR8 hR9 hR10 hR11 hR12 hR13 hR14 hR15 hR16 hR17 hR18 hR19 hR20 Pwq_M Pkz_M KK⟩
    · exact ⟨1084, 1123, by rw [c]; rfl, by decide, lc_26 htr (by omega) hJ v1 v2 v3 v4 hR0 hR1 hR2 hR3 hR4 hR5 hR6 hR7 hR8 hR9 hR10 hR11 hR12 hR13 hR14 hR15 hR16 hR17 hR18 hR19 hR20 Pwq_M Pkz_M KK⟩
    · exact ⟨1097, 1136, by rw [c]; rfl, by decide, lc_27 htr (by omega) hJ v1 v2 v3 v4 hR0 hR1 hR2 hR3 hR4 hR5 hR6 hR7 hR8 hR9 hR10 hR11 hR12 hR13 hR14 hR15 hR16 hR17 hR18 hR19 hR20 Pwq_M Pkz_M KK⟩
    · exact ⟨1110, 1149, by rw [c]; rfl, by decide, lc_28 htr (by omega) hJ v1 v2 v3 v4 hR0 hR1 hR2 hR3 hR4 hR5 hR6 hR7 hR8 hR9 hR10 hR11 hR12 hR13 hR14 hR15 hR16 hR17 hR18 hR19 hR20 Pwq_M Pkz_M KK⟩
    · exact ⟨1123, 1162, by rw [c]; rfl, by decide, lc_29 htr (by omega) hJ v1 v2 v3 v4 hR0 hR1 hR2 hR3 hR4 hR5 hR6 hR7 hR8 hR9 hR10 hR11 hR12 hR13 hR14 hR15 hR16 hR17 hR18 hR19 hR20 Pwq_M Pkz_M KK⟩
    · exact ⟨1160, 1199, by rw [c]; rfl, by decide, lc_30 htr (by omega) hJ v1 v2 v3 v4 hR0 hR1 hR2 hR3 hR4 hR5 hR6 hR7 hR8 hR9 hR10 hR11 hR12 hR13 hR14 hR15 hR16 hR17 hR18 hR19 hR20 Pwq_M Pkz_M KK⟩
    · exact ⟨1173, 1212, by rw [c]; rfl, by decide, lc_31 htr (by omega) hJ v1 v2 v3 v4 hR0 hR1 hR2 hR3 hR4 hR5 hR6 hR7 hR8 hR9 hR10 hR11 hR12 hR13 hR14 hR15 hR16 hR17 hR18 hR19 hR20 Pwq_M Pkz_M KK⟩
    · exact ⟨1198, 1237, by rw [c]; rfl, by decide, lc_32 htr (by omega) hJ v1 v2 v3 v4 hR0 hR1 hR2 hR3 hR4 hR5 hR6 hR7 hR8 hR9 hR10 hR11 hR12 hR13 hR14 hR15 hR16 hR17 hR18 hR19 hR20 Pwq_M Pkz_M KK⟩
    · exact ⟨1211, 1250, by rw [c]; rfl, by decide, lc_33 htr (by omega) hJ v1 v2 v3 v4 hR0 hR1 hR2 hR3 hR4 hR5 hR6 hR7 hR8 hR9 hR10 hR11 hR12 hR13 hR14 hR15 hR16 hR17 hR18 hR19 hR20 Pwq_M Pkz_M KK⟩
    · exact ⟨1224, 1263, by rw [c]; rfl, by decide, lc_34 htr (by omega) hJ v1 v2 v3 v4 hR0 hR1 hR2 hR3 hR4 hR5 hR6 hR7 hR8 hR9 hR10 hR11 hR12 hR13 hR14 hR15 hR16 hR17 hR18 hR19 hR20 Pwq_M Pkz_M KK⟩
    · exact ⟨1249, 1288, by rw [c]; rfl, by decide, lc_35 htr (by omega) hJ v1 v2 v3 v4 hR0 hR1 hR2 hR3 hR4 hR5 hR6 hR7 hR8 hR9 hR10 hR11 hR12 hR13 hR14 hR15 hR16 hR17 hR18 hR19 hR20 Pwq_M Pkz_M KK⟩
    · exact ⟨1286, 1325, by rw [c]; rfl, by decide, lc_36 htr (by omega) hJ v1 v2 v3 v4 hR0 hR1 hR2 hR3 hR4 hR5 hR6 hR7 hR8 hR9 hR10 hR11 hR12 hR13 hR14 hR15 hR16 hR17 hR18 hR19 hR20 Pwq_M Pkz_M KK⟩
    · exact ⟨1311, 1350, by rw [c]; rfl, by decide, lc_37 htr (by omega) hJ v1 v2 v3 v4 hR0 hR1 hR2 hR3 hR4 hR5 hR6 hR7 hR8 hR9 hR10 hR11 hR12 hR13 hR14 hR15 hR16 hR17 hR18 hR19 hR20 Pwq_M Pkz_M KK⟩
    · exact ⟨1336, 1375, by rw [c]; rfl, by decide, lc_38 htr (by omega) hJ v1 v2 v3 v4 hR0 hR1 hR2 hR3 hR4 hR5 hR6 hR7 hR8 hR9 hR10 hR11 hR12 hR13 hR14 hR15 hR16 hR17 hR18 hR19 hR20 Pwq_M Pkz_M KK⟩
    · exact ⟨1361, 1400, by rw [c]; rfl, by decide, lc_39 htr (by omega) hJ v1 v2 v3 v4 hR0 hR1 hR2 hR3 hR4 hR5 hR6 hR7 hR8 hR9 hR10 hR11 hR12 hR13 hR14 hR15 hR16 hR17 hR18 hR19 hR20 Pwq_M Pkz_M KK⟩
