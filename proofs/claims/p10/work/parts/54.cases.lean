theorem w_100 : (Jvm.Cond.initialized "ClockForTalkLaw") ∈ li_ws := li_mem 100 (by decide +kernel) (by decide +kernel)
theorem w_513 : (Jvm.Cond.methodLink "ClockForTalkLaw" (29 : Nat) ({ cls := "ClockForTalk", name := "sign", desc := "(I)I" } : Jvm.MethodName)) ∈ li_ws := li_mem 513 (by decide +kernel) (by decide +kernel)
theorem w_514 : (Jvm.Cond.instanceMethod ({ cls := "ClockForTalk", name := "sign", desc := "(I)I" } : Jvm.MethodName)) ∈ li_ws := li_mem 514 (by decide +kernel) (by decide +kernel)
theorem w_515 : (Jvm.Cond.selects "ClockForTalk" ({ cls := "ClockForTalk", name := "sign", desc := "(I)I" } : Jvm.MethodName) ({ cls := "ClockForTalk", name := "sign", desc := "(I)I" } : Jvm.MethodName)) ∈ li_ws := li_mem 515 (by decide +kernel) (by decide +kernel)
theorem w_516 : (Jvm.Cond.code ({ cls := "ClockForTalk", name := "sign", desc := "(I)I" } : Jvm.MethodName) prog_1_method_2_code (2 : Nat) (Option.some Jvm.ClassFile.FieldType.int)) ∈ li_ws := li_mem 516 (by decide +kernel) (by decide +kernel)
theorem w_524 : (Jvm.Cond.methodLink "ClockForTalkLaw" (33 : Nat) ({ cls := "ClockForTalk", name := "end", desc := "(I)Z" } : Jvm.MethodName)) ∈ li_ws := li_mem 524 (by decide +kernel) (by decide +kernel)
theorem w_525 : (Jvm.Cond.instanceMethod ({ cls := "ClockForTalk", name := "end", desc := "(I)Z" } : Jvm.MethodName)) ∈ li_ws := li_mem 525 (by decide +kernel) (by decide +kernel)
theorem w_526 : (Jvm.Cond.selects "ClockForTalk" ({ cls := "ClockForTalk", name := "end", desc := "(I)Z" } : Jvm.MethodName) ({ cls := "ClockForTalk", name := "end", desc := "(I)Z" } : Jvm.MethodName)) ∈ li_ws := li_mem 526 (by decide +kernel) (by decide +kernel)
theorem w_527 : (Jvm.Cond.code ({ cls := "ClockForTalk", name := "end", desc := "(I)Z" } : Jvm.MethodName) prog_1_method_3_code (2 : Nat) (Option.some Jvm.ClassFile.FieldType.boolean)) ∈ li_ws := li_mem 527 (by decide +kernel) (by decide +kernel)
theorem w_532 : (Jvm.Cond.methodLink "ClockForTalkLaw" (38 : Nat) ({ cls := "ClockForTalk", name := "people", desc := "()I" } : Jvm.MethodName)) ∈ li_ws := li_mem 532 (by decide +kernel) (by decide +kernel)
theorem w_533 : (Jvm.Cond.instanceMethod ({ cls := "ClockForTalk", name := "people", desc := "()I" } : Jvm.MethodName)) ∈ li_ws := li_mem 533 (by decide +kernel) (by decide +kernel)
theorem w_534 : (Jvm.Cond.selects "ClockForTalk" ({ cls := "ClockForTalk", name := "people", desc := "()I" } : Jvm.MethodName) ({ cls := "ClockForTalk", name := "people", desc := "()I" } : Jvm.MethodName)) ∈ li_ws := li_mem 534 (by decide +kernel) (by decide +kernel)
theorem w_535 : (Jvm.Cond.code ({ cls := "ClockForTalk", name := "people", desc := "()I" } : Jvm.MethodName) prog_1_method_4_code (2 : Nat) (Option.some Jvm.ClassFile.FieldType.int)) ∈ li_ws := li_mem 535 (by decide +kernel) (by decide +kernel)
theorem w_739 : (Jvm.Cond.methodLink "ClockForTalkLaw" (43 : Nat) ({ cls := "ClockForTalk", name := "things", desc := "()I" } : Jvm.MethodName)) ∈ li_ws := li_mem 739 (by decide +kernel) (by decide +kernel)
theorem w_740 : (Jvm.Cond.instanceMethod ({ cls := "ClockForTalk", name := "things", desc := "()I" } : Jvm.MethodName)) ∈ li_ws := li_mem 740 (by decide +kernel) (by decide +kernel)
theorem w_741 : (Jvm.Cond.selects "ClockForTalk" ({ cls := "ClockForTalk", name := "things", desc := "()I" } : Jvm.MethodName) ({ cls := "ClockForTalk", name := "things", desc := "()I" } : Jvm.MethodName)) ∈ li_ws := li_mem 741 (by decide +kernel) (by decide +kernel)
theorem w_742 : (Jvm.Cond.code ({ cls := "ClockForTalk", name := "things", desc := "()I" } : Jvm.MethodName) prog_1_method_5_code (2 : Nat) (Option.some Jvm.ClassFile.FieldType.int)) ∈ li_ws := li_mem 742 (by decide +kernel) (by decide +kernel)
theorem w_743 : (Jvm.Cond.methodLink "ClockForTalkLaw" (47 : Nat) ({ cls := "ClockForTalk", name := "rule", desc := "()I" } : Jvm.MethodName)) ∈ li_ws := li_mem 743 (by decide +kernel) (by decide +kernel)
theorem w_744 : (Jvm.Cond.instanceMethod ({ cls := "ClockForTalk", name := "rule", desc := "()I" } : Jvm.MethodName)) ∈ li_ws := li_mem 744 (by decide +kernel) (by decide +kernel)
theorem w_745 : (Jvm.Cond.selects "ClockForTalk" ({ cls := "ClockForTalk", name := "rule", desc := "()I" } : Jvm.MethodName) ({ cls := "ClockForTalk", name := "rule", desc := "()I" } : Jvm.MethodName)) ∈ li_ws := li_mem 745 (by decide +kernel) (by decide +kernel)
theorem w_746 : (Jvm.Cond.code ({ cls := "ClockForTalk", name := "rule", desc := "()I" } : Jvm.MethodName) prog_1_method_6_code (2 : Nat) (Option.some Jvm.ClassFile.FieldType.int)) ∈ li_ws := li_mem 746 (by decide +kernel) (by decide +kernel)
theorem w_754 : (Jvm.Cond.methodLink "ClockForTalkLaw" (63 : Nat) ({ cls := "ClockForTalk", name := "move", desc := "(II)I" } : Jvm.MethodName)) ∈ li_ws := li_mem 754 (by decide +kernel) (by decide +kernel)
theorem w_755 : (Jvm.Cond.instanceMethod ({ cls := "ClockForTalk", name := "move", desc := "(II)I" } : Jvm.MethodName)) ∈ li_ws := li_mem 755 (by decide +kernel) (by decide +kernel)
theorem w_756 : (Jvm.Cond.selects "ClockForTalk" ({ cls := "ClockForTalk", name := "move", desc := "(II)I" } : Jvm.MethodName) ({ cls := "ClockForTalk", name := "move", desc := "(II)I" } : Jvm.MethodName)) ∈ li_ws := li_mem 756 (by decide +kernel) (by decide +kernel)
theorem w_757 : (Jvm.Cond.code ({ cls := "ClockForTalk", name := "move", desc := "(II)I" } : Jvm.MethodName) prog_1_method_10_code (4 : Nat) (Option.some Jvm.ClassFile.FieldType.int)) ∈ li_ws := li_mem 757 (by decide +kernel) (by decide +kernel)
theorem w_764 : (Jvm.Cond.methodLink "ClockForTalkLaw" (67 : Nat) ({ cls := "ClockForTalk", name := "sheet", desc := "(IIII)I" } : Jvm.MethodName)) ∈ li_ws := li_mem 764 (by decide +kernel) (by decide +kernel)
theorem w_765 : (Jvm.Cond.instanceMethod ({ cls := "ClockForTalk", name := "sheet", desc := "(IIII)I" } : Jvm.MethodName)) ∈ li_ws := li_mem 765 (by decide +kernel) (by decide +kernel)
theorem w_766 : (Jvm.Cond.selects "ClockForTalk" ({ cls := "ClockForTalk", name := "sheet", desc := "(IIII)I" } : Jvm.MethodName) ({ cls := "ClockForTalk", name := "sheet", desc := "(IIII)I" } : Jvm.MethodName)) ∈ li_ws := li_mem 766 (by decide +kernel) (by decide +kernel)
theorem w_767 : (Jvm.Cond.code ({ cls := "ClockForTalk", name := "sheet", desc := "(IIII)I" } : Jvm.MethodName) prog_1_method_11_code (7 : Nat) (Option.some Jvm.ClassFile.FieldType.int)) ∈ li_ws := li_mem 767 (by decide +kernel) (by decide +kernel)
theorem w_780 : (Jvm.Cond.methodLink "ClockForTalkLaw" (72 : Nat) ({ cls := "ClockForTalk", name := "cost", desc := "(II)I" } : Jvm.MethodName)) ∈ li_ws := li_mem 780 (by decide +kernel) (by decide +kernel)
theorem w_781 : (Jvm.Cond.instanceMethod ({ cls := "ClockForTalk", name := "cost", desc := "(II)I" } : Jvm.MethodName)) ∈ li_ws := li_mem 781 (by decide +kernel) (by decide +kernel)
theorem w_782 : (Jvm.Cond.selects "ClockForTalk" ({ cls := "ClockForTalk", name := "cost", desc := "(II)I" } : Jvm.MethodName) ({ cls := "ClockForTalk", name := "cost", desc := "(II)I" } : Jvm.MethodName)) ∈ li_ws := li_mem 782 (by decide +kernel) (by decide +kernel)
theorem w_783 : (Jvm.Cond.code ({ cls := "ClockForTalk", name := "cost", desc := "(II)I" } : Jvm.MethodName) prog_1_method_12_code (3 : Nat) (Option.some Jvm.ClassFile.FieldType.int)) ∈ li_ws := li_mem 783 (by decide +kernel) (by decide +kernel)
theorem w_839 : (Jvm.Cond.methodLink "ClockForTalkLaw" (76 : Nat) ({ cls := "ClockForTalk", name := "say", desc := "(II)I" } : Jvm.MethodName)) ∈ li_ws := li_mem 839 (by decide +kernel) (by decide +kernel)
theorem w_840 : (Jvm.Cond.instanceMethod ({ cls := "ClockForTalk", name := "say", desc := "(II)I" } : Jvm.MethodName)) ∈ li_ws := li_mem 840 (by decide +kernel) (by decide +kernel)
theorem w_841 : (Jvm.Cond.selects "ClockForTalk" ({ cls := "ClockForTalk", name := "say", desc := "(II)I" } : Jvm.MethodName) ({ cls := "ClockForTalk", name := "say", desc := "(II)I" } : Jvm.MethodName)) ∈ li_ws := li_mem 841 (by decide +kernel) (by decide +kernel)
theorem w_842 : (Jvm.Cond.code ({ cls := "ClockForTalk", name := "say", desc := "(II)I" } : Jvm.MethodName) prog_1_method_13_code (3 : Nat) (Option.some Jvm.ClassFile.FieldType.int)) ∈ li_ws := li_mem 842 (by decide +kernel) (by decide +kernel)
theorem w_876 : (Jvm.Cond.methodLink "ClockForTalkLaw" (80 : Nat) ({ cls := "ClockForTalk", name := "give", desc := "(III)I" } : Jvm.MethodName)) ∈ li_ws := li_mem 876 (by decide +kernel) (by decide +kernel)
theorem w_877 : (Jvm.Cond.instanceMethod ({ cls := "ClockForTalk", name := "give", desc := "(III)I" } : Jvm.MethodName)) ∈ li_ws := li_mem 877 (by decide +kernel) (by decide +kernel)
theorem w_878 : (Jvm.Cond.selects "ClockForTalk" ({ cls := "ClockForTalk", name := "give", desc := "(III)I" } : Jvm.MethodName) ({ cls := "ClockForTalk", name := "give", desc := "(III)I" } : Jvm.MethodName)) ∈ li_ws := li_mem 878 (by decide +kernel) (by decide +kernel)
theorem w_879 : (Jvm.Cond.code ({ cls := "ClockForTalk", name := "give", desc := "(III)I" } : Jvm.MethodName) prog_1_method_14_code (4 : Nat) (Option.some Jvm.ClassFile.FieldType.int)) ∈ li_ws := li_mem 879 (by decide +kernel) (by decide +kernel)
theorem w_894 : (Jvm.Cond.methodLink "ClockForTalkLaw" (85 : Nat) ({ cls := "ClockForTalk", name := "lend", desc := "(IIII)I" } : Jvm.MethodName)) ∈ li_ws := li_mem 894 (by decide +kernel) (by decide +kernel)
theorem w_895 : (Jvm.Cond.instanceMethod ({ cls := "ClockForTalk", name := "lend", desc := "(IIII)I" } : Jvm.MethodName)) ∈ li_ws := li_mem 895 (by decide +kernel) (by decide +kernel)
theorem w_896 : (Jvm.Cond.selects "ClockForTalk" ({ cls := "ClockForTalk", name := "lend", desc := "(IIII)I" } : Jvm.MethodName) ({ cls := "ClockForTalk", name := "lend", desc := "(IIII)I" } : Jvm.MethodName)) ∈ li_ws := li_mem 896 (by decide +kernel) (by decide +kernel)
theorem w_897 : (Jvm.Cond.code ({ cls := "ClockForTalk", name := "lend", desc := "(IIII)I" } : Jvm.MethodName) prog_1_method_15_code (5 : Nat) (Option.some Jvm.ClassFile.FieldType.int)) ∈ li_ws := li_mem 897 (by decide +kernel) (by decide +kernel)
theorem w_905 : (Jvm.Cond.methodLink "ClockForTalkLaw" (89 : Nat) ({ cls := "ClockForTalk", name := "days", desc := "(I)I" } : Jvm.MethodName)) ∈ li_ws := li_mem 905 (by decide +kernel) (by decide +kernel)
theorem w_906 : (Jvm.Cond.instanceMethod ({ cls := "ClockForTalk", name := "days", desc := "(I)I" } : Jvm.MethodName)) ∈ li_ws := li_mem 906 (by decide +kernel) (by decide +kernel)
theorem w_907 : (Jvm.Cond.selects "ClockForTalk" ({ cls := "ClockForTalk", name := "days", desc := "(I)I" } : Jvm.MethodName) ({ cls := "ClockForTalk", name := "days", desc := "(I)I" } : Jvm.MethodName)) ∈ li_ws := li_mem 907 (by decide +kernel) (by decide +kernel)
theorem w_908 : (Jvm.Cond.code ({ cls := "ClockForTalk", name := "days", desc := "(I)I" } : Jvm.MethodName) prog_1_method_16_code (5 : Nat) (Option.some Jvm.ClassFile.FieldType.int)) ∈ li_ws := li_mem 908 (by decide +kernel) (by decide +kernel)
theorem w_956 : (Jvm.Cond.methodLink "ClockForTalkLaw" (93 : Nat) ({ cls := "ClockForTalk", name := "talk", desc := "()I" } : Jvm.MethodName)) ∈ li_ws := li_mem 956 (by decide +kernel) (by decide +kernel)
theorem w_957 : (Jvm.Cond.instanceMethod ({ cls := "ClockForTalk", name := "talk", desc := "()I" } : Jvm.MethodName)) ∈ li_ws := li_mem 957 (by decide +kernel) (by decide +kernel)
theorem w_958 : (Jvm.Cond.selects "ClockForTalk" ({ cls := "ClockForTalk", name := "talk", desc := "()I" } : Jvm.MethodName) ({ cls := "ClockForTalk", name := "talk", desc := "()I" } : Jvm.MethodName)) ∈ li_ws := li_mem 958 (by decide +kernel) (by decide +kernel)
theorem w_959 : (Jvm.Cond.code ({ cls := "ClockForTalk", name := "talk", desc := "()I" } : Jvm.MethodName) prog_1_method_17_code (6 : Nat) (Option.some Jvm.ClassFile.FieldType.int)) ∈ li_ws := li_mem 959 (by decide +kernel) (by decide +kernel)
theorem w_976 : (Jvm.Cond.methodLink "ClockForTalkLaw" (97 : Nat) ({ cls := "ClockForTalk", name := "undo", desc := "()I" } : Jvm.MethodName)) ∈ li_ws := li_mem 976 (by decide +kernel) (by decide +kernel)
theorem w_977 : (Jvm.Cond.instanceMethod ({ cls := "ClockForTalk", name := "undo", desc := "()I" } : Jvm.MethodName)) ∈ li_ws := li_mem 977 (by decide +kernel) (by decide +kernel)
theorem w_978 : (Jvm.Cond.selects "ClockForTalk" ({ cls := "ClockForTalk", name := "undo", desc := "()I" } : Jvm.MethodName) ({ cls := "ClockForTalk", name := "undo", desc := "()I" } : Jvm.MethodName)) ∈ li_ws := li_mem 978 (by decide +kernel) (by decide +kernel)
theorem w_979 : (Jvm.Cond.code ({ cls := "ClockForTalk", name := "undo", desc := "()I" } : Jvm.MethodName) prog_1_method_18_code (1 : Nat) (Option.some Jvm.ClassFile.FieldType.int)) ∈ li_ws := li_mem 979 (by decide +kernel) (by decide +kernel)
theorem w_984 : (Jvm.Cond.methodLink "ClockForTalkLaw" (101 : Nat) ({ cls := "ClockForTalk", name := "best", desc := "(I)I" } : Jvm.MethodName)) ∈ li_ws := li_mem 984 (by decide +kernel) (by decide +kernel)
theorem w_985 : (Jvm.Cond.instanceMethod ({ cls := "ClockForTalk", name := "best", desc := "(I)I" } : Jvm.MethodName)) ∈ li_ws := li_mem 985 (by decide +kernel) (by decide +kernel)
theorem w_986 : (Jvm.Cond.selects "ClockForTalk" ({ cls := "ClockForTalk", name := "best", desc := "(I)I" } : Jvm.MethodName) ({ cls := "ClockForTalk", name := "best", desc := "(I)I" } : Jvm.MethodName)) ∈ li_ws := li_mem 986 (by decide +kernel) (by decide +kernel)
theorem w_987 : (Jvm.Cond.code ({ cls := "ClockForTalk", name := "best", desc := "(I)I" } : Jvm.MethodName) prog_1_method_19_code (2 : Nat) (Option.some Jvm.ClassFile.FieldType.int)) ∈ li_ws := li_mem 987 (by decide +kernel) (by decide +kernel)
theorem w_1021 : (Jvm.Cond.methodLink "ClockForTalkLaw" (105 : Nat) ({ cls := "ClockForTalk", name := "lacks", desc := "(I)I" } : Jvm.MethodName)) ∈ li_ws := li_mem 1021 (by decide +kernel) (by decide +kernel)
theorem w_1022 : (Jvm.Cond.instanceMethod ({ cls := "ClockForTalk", name := "lacks", desc := "(I)I" } : Jvm.MethodName)) ∈ li_ws := li_mem 1022 (by decide +kernel) (by decide +kernel)
theorem w_1023 : (Jvm.Cond.selects "ClockForTalk" ({ cls := "ClockForTalk", name := "lacks", desc := "(I)I" } : Jvm.MethodName) ({ cls := "ClockForTalk", name := "lacks", desc := "(I)I" } : Jvm.MethodName)) ∈ li_ws := li_mem 1023 (by decide +kernel) (by decide +kernel)
theorem w_1024 : (Jvm.Cond.code ({ cls := "ClockForTalk", name := "lacks", desc := "(I)I" } : Jvm.MethodName) prog_1_method_20_code (4 : Nat) (Option.some Jvm.ClassFile.FieldType.int)) ∈ li_ws := li_mem 1024 (by decide +kernel) (by decide +kernel)
theorem w_1031 : (Jvm.Cond.methodLink "ClockForTalkLaw" (109 : Nat) ({ cls := "ClockForTalk", name := "pool", desc := "()I" } : Jvm.MethodName)) ∈ li_ws := li_mem 1031 (by decide +kernel) (by decide +kernel)
theorem w_1032 : (Jvm.Cond.instanceMethod ({ cls := "ClockForTalk", name := "pool", desc := "()I" } : Jvm.MethodName)) ∈ li_ws := li_mem 1032 (by decide +kernel) (by decide +kernel)
theorem w_1033 : (Jvm.Cond.selects "ClockForTalk" ({ cls := "ClockForTalk", name := "pool", desc := "()I" } : Jvm.MethodName) ({ cls := "ClockForTalk", name := "pool", desc := "()I" } : Jvm.MethodName)) ∈ li_ws := li_mem 1033 (by decide +kernel) (by decide +kernel)
theorem w_1034 : (Jvm.Cond.code ({ cls := "ClockForTalk", name := "pool", desc := "()I" } : Jvm.MethodName) prog_1_method_21_code (1 : Nat) (Option.some Jvm.ClassFile.FieldType.int)) ∈ li_ws := li_mem 1034 (by decide +kernel) (by decide +kernel)
theorem w_1037 : (Jvm.Cond.methodLink "ClockForTalkLaw" (113 : Nat) ({ cls := "ClockForTalk", name := "gifts", desc := "(I)I" } : Jvm.MethodName)) ∈ li_ws := li_mem 1037 (by decide +kernel) (by decide +kernel)
theorem w_1038 : (Jvm.Cond.instanceMethod ({ cls := "ClockForTalk", name := "gifts", desc := "(I)I" } : Jvm.MethodName)) ∈ li_ws := li_mem 1038 (by decide +kernel) (by decide +kernel)
theorem w_1039 : (Jvm.Cond.selects "ClockForTalk" ({ cls := "ClockForTalk", name := "gifts", desc := "(I)I" } : Jvm.MethodName) ({ cls := "ClockForTalk", name := "gifts", desc := "(I)I" } : Jvm.MethodName)) ∈ li_ws := li_mem 1039 (by decide +kernel) (by decide +kernel)
theorem w_1040 : (Jvm.Cond.code ({ cls := "ClockForTalk", name := "gifts", desc := "(I)I" } : Jvm.MethodName) prog_1_method_22_code (6 : Nat) (Option.some Jvm.ClassFile.FieldType.int)) ∈ li_ws := li_mem 1040 (by decide +kernel) (by decide +kernel)
theorem w_1049 : (Jvm.Cond.methodLink "ClockForTalkLaw" (117 : Nat) ({ cls := "ClockForTalk", name := "mute", desc := "()I" } : Jvm.MethodName)) ∈ li_ws := li_mem 1049 (by decide +kernel) (by decide +kernel)
theorem w_1050 : (Jvm.Cond.instanceMethod ({ cls := "ClockForTalk", name := "mute", desc := "()I" } : Jvm.MethodName)) ∈ li_ws := li_mem 1050 (by decide +kernel) (by decide +kernel)
theorem w_1051 : (Jvm.Cond.selects "ClockForTalk" ({ cls := "ClockForTalk", name := "mute", desc := "()I" } : Jvm.MethodName) ({ cls := "ClockForTalk", name := "mute", desc := "()I" } : Jvm.MethodName)) ∈ li_ws := li_mem 1051 (by decide +kernel) (by decide +kernel)
theorem w_1052 : (Jvm.Cond.code ({ cls := "ClockForTalk", name := "mute", desc := "()I" } : Jvm.MethodName) prog_1_method_23_code (2 : Nat) (Option.some Jvm.ClassFile.FieldType.int)) ∈ li_ws := li_mem 1052 (by decide +kernel) (by decide +kernel)
theorem w_1057 : (Jvm.Cond.methodLink "ClockForTalkLaw" (121 : Nat) ({ cls := "ClockForTalk", name := "relay", desc := "(III)I" } : Jvm.MethodName)) ∈ li_ws := li_mem 1057 (by decide +kernel) (by decide +kernel)
theorem w_1058 : (Jvm.Cond.instanceMethod ({ cls := "ClockForTalk", name := "relay", desc := "(III)I" } : Jvm.MethodName)) ∈ li_ws := li_mem 1058 (by decide +kernel) (by decide +kernel)
theorem w_1059 : (Jvm.Cond.selects "ClockForTalk" ({ cls := "ClockForTalk", name := "relay", desc := "(III)I" } : Jvm.MethodName) ({ cls := "ClockForTalk", name := "relay", desc := "(III)I" } : Jvm.MethodName)) ∈ li_ws := li_mem 1059 (by decide +kernel) (by decide +kernel)
theorem w_1060 : (Jvm.Cond.code ({ cls := "ClockForTalk", name := "relay", desc := "(III)I" } : Jvm.MethodName) prog_1_method_24_code (4 : Nat) (Option.some Jvm.ClassFile.FieldType.int)) ∈ li_ws := li_mem 1060 (by decide +kernel) (by decide +kernel)
theorem w_1086 : (Jvm.Cond.methodLink "ClockForTalkLaw" (125 : Nat) ({ cls := "ClockForTalk", name := "criers", desc := "(III)I" } : Jvm.MethodName)) ∈ li_ws := li_mem 1086 (by decide +kernel) (by decide +kernel)
theorem w_1087 : (Jvm.Cond.instanceMethod ({ cls := "ClockForTalk", name := "criers", desc := "(III)I" } : Jvm.MethodName)) ∈ li_ws := li_mem 1087 (by decide +kernel) (by decide +kernel)
theorem w_1088 : (Jvm.Cond.selects "ClockForTalk" ({ cls := "ClockForTalk", name := "criers", desc := "(III)I" } : Jvm.MethodName) ({ cls := "ClockForTalk", name := "criers", desc := "(III)I" } : Jvm.MethodName)) ∈ li_ws := li_mem 1088 (by decide +kernel) (by decide +kernel)
theorem w_1089 : (Jvm.Cond.code ({ cls := "ClockForTalk", name := "criers", desc := "(III)I" } : Jvm.MethodName) prog_1_method_25_code (5 : Nat) (Option.some Jvm.ClassFile.FieldType.int)) ∈ li_ws := li_mem 1089 (by decide +kernel) (by decide +kernel)
theorem w_1104 : (Jvm.Cond.methodLink "ClockForTalkLaw" (129 : Nat) ({ cls := "ClockForTalk", name := "debate", desc := "(III)I" } : Jvm.MethodName)) ∈ li_ws := li_mem 1104 (by decide +kernel) (by decide +kernel)
theorem w_1105 : (Jvm.Cond.instanceMethod ({ cls := "ClockForTalk", name := "debate", desc := "(III)I" } : Jvm.MethodName)) ∈ li_ws := li_mem 1105 (by decide +kernel) (by decide +kernel)
theorem w_1106 : (Jvm.Cond.selects "ClockForTalk" ({ cls := "ClockForTalk", name := "debate", desc := "(III)I" } : Jvm.MethodName) ({ cls := "ClockForTalk", name := "debate", desc := "(III)I" } : Jvm.MethodName)) ∈ li_ws := li_mem 1106 (by decide +kernel) (by decide +kernel)
theorem w_1107 : (Jvm.Cond.code ({ cls := "ClockForTalk", name := "debate", desc := "(III)I" } : Jvm.MethodName) prog_1_method_26_code (5 : Nat) (Option.some Jvm.ClassFile.FieldType.int)) ∈ li_ws := li_mem 1107 (by decide +kernel) (by decide +kernel)
theorem w_1108 : (Jvm.Cond.methodLink "ClockForTalkLaw" (133 : Nat) ({ cls := "ClockForTalk", name := "enough", desc := "(II)I" } : Jvm.MethodName)) ∈ li_ws := li_mem 1108 (by decide +kernel) (by decide +kernel)
theorem w_1109 : (Jvm.Cond.instanceMethod ({ cls := "ClockForTalk", name := "enough", desc := "(II)I" } : Jvm.MethodName)) ∈ li_ws := li_mem 1109 (by decide +kernel) (by decide +kernel)
theorem w_1110 : (Jvm.Cond.selects "ClockForTalk" ({ cls := "ClockForTalk", name := "enough", desc := "(II)I" } : Jvm.MethodName) ({ cls := "ClockForTalk", name := "enough", desc := "(II)I" } : Jvm.MethodName)) ∈ li_ws := li_mem 1110 (by decide +kernel) (by decide +kernel)
theorem w_1111 : (Jvm.Cond.code ({ cls := "ClockForTalk", name := "enough", desc := "(II)I" } : Jvm.MethodName) prog_1_method_27_code (3 : Nat) (Option.some Jvm.ClassFile.FieldType.int)) ∈ li_ws := li_mem 1111 (by decide +kernel) (by decide +kernel)
theorem w_1112 : (Jvm.Cond.methodLink "ClockForTalkLaw" (137 : Nat) ({ cls := "ClockForTalk", name := "grammar", desc := "()I" } : Jvm.MethodName)) ∈ li_ws := li_mem 1112 (by decide +kernel) (by decide +kernel)
theorem w_1113 : (Jvm.Cond.instanceMethod ({ cls := "ClockForTalk", name := "grammar", desc := "()I" } : Jvm.MethodName)) ∈ li_ws := li_mem 1113 (by decide +kernel) (by decide +kernel)
theorem w_1114 : (Jvm.Cond.selects "ClockForTalk" ({ cls := "ClockForTalk", name := "grammar", desc := "()I" } : Jvm.MethodName) ({ cls := "ClockForTalk", name := "grammar", desc := "()I" } : Jvm.MethodName)) ∈ li_ws := li_mem 1114 (by decide +kernel) (by decide +kernel)
theorem w_1115 : (Jvm.Cond.code ({ cls := "ClockForTalk", name := "grammar", desc := "()I" } : Jvm.MethodName) prog_1_method_28_code (2 : Nat) (Option.some Jvm.ClassFile.FieldType.int)) ∈ li_ws := li_mem 1115 (by decide +kernel) (by decide +kernel)
theorem w_1121 : (Jvm.Cond.methodLink "ClockForTalkLaw" (141 : Nat) ({ cls := "ClockForTalk", name := "shorter", desc := "()I" } : Jvm.MethodName)) ∈ li_ws := li_mem 1121 (by decide +kernel) (by decide +kernel)
theorem w_1122 : (Jvm.Cond.instanceMethod ({ cls := "ClockForTalk", name := "shorter", desc := "()I" } : Jvm.MethodName)) ∈ li_ws := li_mem 1122 (by decide +kernel) (by decide +kernel)
theorem w_1123 : (Jvm.Cond.selects "ClockForTalk" ({ cls := "ClockForTalk", name := "shorter", desc := "()I" } : Jvm.MethodName) ({ cls := "ClockForTalk", name := "shorter", desc := "()I" } : Jvm.MethodName)) ∈ li_ws := li_mem 1123 (by decide +kernel) (by decide +kernel)
theorem w_1124 : (Jvm.Cond.code ({ cls := "ClockForTalk", name := "shorter", desc := "()I" } : Jvm.MethodName) prog_1_method_29_code (3 : Nat) (Option.some Jvm.ClassFile.FieldType.int)) ∈ li_ws := li_mem 1124 (by decide +kernel) (by decide +kernel)
theorem w_1155 : (Jvm.Cond.methodLink "ClockForTalkLaw" (145 : Nat) ({ cls := "ClockForTalk", name := "becomes", desc := "()I" } : Jvm.MethodName)) ∈ li_ws := li_mem 1155 (by decide +kernel) (by decide +kernel)
theorem w_1156 : (Jvm.Cond.instanceMethod ({ cls := "ClockForTalk", name := "becomes", desc := "()I" } : Jvm.MethodName)) ∈ li_ws := li_mem 1156 (by decide +kernel) (by decide +kernel)
theorem w_1157 : (Jvm.Cond.selects "ClockForTalk" ({ cls := "ClockForTalk", name := "becomes", desc := "()I" } : Jvm.MethodName) ({ cls := "ClockForTalk", name := "becomes", desc := "()I" } : Jvm.MethodName)) ∈ li_ws := li_mem 1157 (by decide +kernel) (by decide +kernel)
theorem w_1158 : (Jvm.Cond.code ({ cls := "ClockForTalk", name := "becomes", desc := "()I" } : Jvm.MethodName) prog_1_method_30_code (2 : Nat) (Option.some Jvm.ClassFile.FieldType.int)) ∈ li_ws := li_mem 1158 (by decide +kernel) (by decide +kernel)
theorem w_1160 : (Jvm.Cond.methodLink "ClockForTalkLaw" (149 : Nat) ({ cls := "ClockForTalk", name := "read", desc := "(II)I" } : Jvm.MethodName)) ∈ li_ws := li_mem 1160 (by decide +kernel) (by decide +kernel)
theorem w_1161 : (Jvm.Cond.instanceMethod ({ cls := "ClockForTalk", name := "read", desc := "(II)I" } : Jvm.MethodName)) ∈ li_ws := li_mem 1161 (by decide +kernel) (by decide +kernel)
theorem w_1162 : (Jvm.Cond.selects "ClockForTalk" ({ cls := "ClockForTalk", name := "read", desc := "(II)I" } : Jvm.MethodName) ({ cls := "ClockForTalk", name := "read", desc := "(II)I" } : Jvm.MethodName)) ∈ li_ws := li_mem 1162 (by decide +kernel) (by decide +kernel)
theorem w_1163 : (Jvm.Cond.code ({ cls := "ClockForTalk", name := "read", desc := "(II)I" } : Jvm.MethodName) prog_1_method_31_code (3 : Nat) (Option.some Jvm.ClassFile.FieldType.int)) ∈ li_ws := li_mem 1163 (by decide +kernel) (by decide +kernel)
theorem w_1169 : (Jvm.Cond.methodLink "ClockForTalkLaw" (153 : Nat) ({ cls := "ClockForTalk", name := "forget", desc := "()I" } : Jvm.MethodName)) ∈ li_ws := li_mem 1169 (by decide +kernel) (by decide +kernel)
theorem w_1170 : (Jvm.Cond.instanceMethod ({ cls := "ClockForTalk", name := "forget", desc := "()I" } : Jvm.MethodName)) ∈ li_ws := li_mem 1170 (by decide +kernel) (by decide +kernel)
theorem w_1171 : (Jvm.Cond.selects "ClockForTalk" ({ cls := "ClockForTalk", name := "forget", desc := "()I" } : Jvm.MethodName) ({ cls := "ClockForTalk", name := "forget", desc := "()I" } : Jvm.MethodName)) ∈ li_ws := li_mem 1171 (by decide +kernel) (by decide +kernel)
theorem w_1172 : (Jvm.Cond.code ({ cls := "ClockForTalk", name := "forget", desc := "()I" } : Jvm.MethodName) prog_1_method_32_code (2 : Nat) (Option.some Jvm.ClassFile.FieldType.int)) ∈ li_ws := li_mem 1172 (by decide +kernel) (by decide +kernel)
theorem w_1173 : (Jvm.Cond.methodLink "ClockForTalkLaw" (157 : Nat) ({ cls := "ClockForTalk", name := "spoke", desc := "(I)I" } : Jvm.MethodName)) ∈ li_ws := li_mem 1173 (by decide +kernel) (by decide +kernel)
theorem w_1174 : (Jvm.Cond.instanceMethod ({ cls := "ClockForTalk", name := "spoke", desc := "(I)I" } : Jvm.MethodName)) ∈ li_ws := li_mem 1174 (by decide +kernel) (by decide +kernel)
theorem w_1175 : (Jvm.Cond.selects "ClockForTalk" ({ cls := "ClockForTalk", name := "spoke", desc := "(I)I" } : Jvm.MethodName) ({ cls := "ClockForTalk", name := "spoke", desc := "(I)I" } : Jvm.MethodName)) ∈ li_ws := li_mem 1175 (by decide +kernel) (by decide +kernel)
theorem w_1176 : (Jvm.Cond.code ({ cls := "ClockForTalk", name := "spoke", desc := "(I)I" } : Jvm.MethodName) prog_1_method_33_code (2 : Nat) (Option.some Jvm.ClassFile.FieldType.int)) ∈ li_ws := li_mem 1176 (by decide +kernel) (by decide +kernel)
theorem w_1214 : (Jvm.Cond.methodLink "ClockForTalkLaw" (161 : Nat) ({ cls := "ClockForTalk", name := "look", desc := "()I" } : Jvm.MethodName)) ∈ li_ws := li_mem 1214 (by decide +kernel) (by decide +kernel)
theorem w_1215 : (Jvm.Cond.instanceMethod ({ cls := "ClockForTalk", name := "look", desc := "()I" } : Jvm.MethodName)) ∈ li_ws := li_mem 1215 (by decide +kernel) (by decide +kernel)
theorem w_1216 : (Jvm.Cond.selects "ClockForTalk" ({ cls := "ClockForTalk", name := "look", desc := "()I" } : Jvm.MethodName) ({ cls := "ClockForTalk", name := "look", desc := "()I" } : Jvm.MethodName)) ∈ li_ws := li_mem 1216 (by decide +kernel) (by decide +kernel)
theorem w_1217 : (Jvm.Cond.code ({ cls := "ClockForTalk", name := "look", desc := "()I" } : Jvm.MethodName) prog_1_method_34_code (5 : Nat) (Option.some Jvm.ClassFile.FieldType.int)) ∈ li_ws := li_mem 1217 (by decide +kernel) (by decide +kernel)
theorem w_1228 : (Jvm.Cond.methodLink "ClockForTalkLaw" (165 : Nat) ({ cls := "ClockForTalk", name := "rate", desc := "()I" } : Jvm.MethodName)) ∈ li_ws := li_mem 1228 (by decide +kernel) (by decide +kernel)
theorem w_1229 : (Jvm.Cond.instanceMethod ({ cls := "ClockForTalk", name := "rate", desc := "()I" } : Jvm.MethodName)) ∈ li_ws := li_mem 1229 (by decide +kernel) (by decide +kernel)
theorem w_1230 : (Jvm.Cond.selects "ClockForTalk" ({ cls := "ClockForTalk", name := "rate", desc := "()I" } : Jvm.MethodName) ({ cls := "ClockForTalk", name := "rate", desc := "()I" } : Jvm.MethodName)) ∈ li_ws := li_mem 1230 (by decide +kernel) (by decide +kernel)
theorem w_1231 : (Jvm.Cond.code ({ cls := "ClockForTalk", name := "rate", desc := "()I" } : Jvm.MethodName) prog_1_method_35_code (4 : Nat) (Option.some Jvm.ClassFile.FieldType.int)) ∈ li_ws := li_mem 1231 (by decide +kernel) (by decide +kernel)
theorem w_1236 : (Jvm.Cond.methodLink "ClockForTalkLaw" (169 : Nat) ({ cls := "ClockForTalk", name := "run", desc := "(I)I" } : Jvm.MethodName)) ∈ li_ws := li_mem 1236 (by decide +kernel) (by decide +kernel)
theorem w_1237 : (Jvm.Cond.instanceMethod ({ cls := "ClockForTalk", name := "run", desc := "(I)I" } : Jvm.MethodName)) ∈ li_ws := li_mem 1237 (by decide +kernel) (by decide +kernel)
theorem w_1238 : (Jvm.Cond.selects "ClockForTalk" ({ cls := "ClockForTalk", name := "run", desc := "(I)I" } : Jvm.MethodName) ({ cls := "ClockForTalk", name := "run", desc := "(I)I" } : Jvm.MethodName)) ∈ li_ws := li_mem 1238 (by decide +kernel) (by decide +kernel)
theorem w_1239 : (Jvm.Cond.code ({ cls := "ClockForTalk", name := "run", desc := "(I)I" } : Jvm.MethodName) prog_1_method_36_code (3 : Nat) (Option.some Jvm.ClassFile.FieldType.int)) ∈ li_ws := li_mem 1239 (by decide +kernel) (by decide +kernel)
theorem w_1265 : (Jvm.Cond.methodLink "ClockForTalkLaw" (173 : Nat) ({ cls := "ClockForTalk", name := "years", desc := "(II)I" } : Jvm.MethodName)) ∈ li_ws := li_mem 1265 (by decide +kernel) (by decide +kernel)
theorem w_1266 : (Jvm.Cond.instanceMethod ({ cls := "ClockForTalk", name := "years", desc := "(II)I" } : Jvm.MethodName)) ∈ li_ws := li_mem 1266 (by decide +kernel) (by decide +kernel)
theorem w_1267 : (Jvm.Cond.selects "ClockForTalk" ({ cls := "ClockForTalk", name := "years", desc := "(II)I" } : Jvm.MethodName) ({ cls := "ClockForTalk", name := "years", desc := "(II)I" } : Jvm.MethodName)) ∈ li_ws := li_mem 1267 (by decide +kernel) (by decide +kernel)
theorem w_1268 : (Jvm.Cond.code ({ cls := "ClockForTalk", name := "years", desc := "(II)I" } : Jvm.MethodName) prog_1_method_37_code (10 : Nat) (Option.some Jvm.ClassFile.FieldType.int)) ∈ li_ws := li_mem 1268 (by decide +kernel) (by decide +kernel)
theorem w_1274 : (Jvm.Cond.methodLink "ClockForTalkLaw" (177 : Nat) ({ cls := "ClockForTalk", name := "keep", desc := "(I)Z" } : Jvm.MethodName)) ∈ li_ws := li_mem 1274 (by decide +kernel) (by decide +kernel)
theorem w_1275 : (Jvm.Cond.instanceMethod ({ cls := "ClockForTalk", name := "keep", desc := "(I)Z" } : Jvm.MethodName)) ∈ li_ws := li_mem 1275 (by decide +kernel) (by decide +kernel)
theorem w_1276 : (Jvm.Cond.selects "ClockForTalk" ({ cls := "ClockForTalk", name := "keep", desc := "(I)Z" } : Jvm.MethodName) ({ cls := "ClockForTalk", name := "keep", desc := "(I)Z" } : Jvm.MethodName)) ∈ li_ws := li_mem 1276 (by decide +kernel) (by decide +kernel)
theorem w_1277 : (Jvm.Cond.code ({ cls := "ClockForTalk", name := "keep", desc := "(I)Z" } : Jvm.MethodName) prog_1_method_38_code (2 : Nat) (Option.some Jvm.ClassFile.FieldType.boolean)) ∈ li_ws := li_mem 1277 (by decide +kernel) (by decide +kernel)
theorem w_1282 : (Jvm.Cond.methodLink "ClockForTalkLaw" (181 : Nat) ({ cls := "ClockForTalk", name := "again", desc := "(I)Z" } : Jvm.MethodName)) ∈ li_ws := li_mem 1282 (by decide +kernel) (by decide +kernel)
theorem w_1283 : (Jvm.Cond.instanceMethod ({ cls := "ClockForTalk", name := "again", desc := "(I)Z" } : Jvm.MethodName)) ∈ li_ws := li_mem 1283 (by decide +kernel) (by decide +kernel)
theorem w_1284 : (Jvm.Cond.selects "ClockForTalk" ({ cls := "ClockForTalk", name := "again", desc := "(I)Z" } : Jvm.MethodName) ({ cls := "ClockForTalk", name := "again", desc := "(I)Z" } : Jvm.MethodName)) ∈ li_ws := li_mem 1284 (by decide +kernel) (by decide +kernel)
theorem w_1285 : (Jvm.Cond.code ({ cls := "ClockForTalk", name := "again", desc := "(I)Z" } : Jvm.MethodName) prog_1_method_39_code (2 : Nat) (Option.some Jvm.ClassFile.FieldType.boolean)) ∈ li_ws := li_mem 1285 (by decide +kernel) (by decide +kernel)
theorem w_1291 : (Jvm.Cond.methodLink "ClockForTalkLaw" (185 : Nat) ({ cls := "ClockForTalk", name := "count", desc := "(I)I" } : Jvm.MethodName)) ∈ li_ws := li_mem 1291 (by decide +kernel) (by decide +kernel)
theorem w_1292 : (Jvm.Cond.instanceMethod ({ cls := "ClockForTalk", name := "count", desc := "(I)I" } : Jvm.MethodName)) ∈ li_ws := li_mem 1292 (by decide +kernel) (by decide +kernel)
theorem w_1293 : (Jvm.Cond.selects "ClockForTalk" ({ cls := "ClockForTalk", name := "count", desc := "(I)I" } : Jvm.MethodName) ({ cls := "ClockForTalk", name := "count", desc := "(I)I" } : Jvm.MethodName)) ∈ li_ws := li_mem 1293 (by decide +kernel) (by decide +kernel)
theorem w_1294 : (Jvm.Cond.code ({ cls := "ClockForTalk", name := "count", desc := "(I)I" } : Jvm.MethodName) prog_1_method_40_code (2 : Nat) (Option.some Jvm.ClassFile.FieldType.int)) ∈ li_ws := li_mem 1294 (by decide +kernel) (by decide +kernel)
theorem w_1295 : (Jvm.Cond.methodLink "ClockForTalkLaw" (51 : Nat) ({ cls := "ClockForTalkLaw", name := "person", desc := "(LClockForTalk;II[J)I" } : Jvm.MethodName)) ∈ li_ws := li_mem 1295 (by decide +kernel) (by decide +kernel)
theorem w_1296 : (Jvm.Cond.static ({ cls := "ClockForTalkLaw", name := "person", desc := "(LClockForTalk;II[J)I" } : Jvm.MethodName)) ∈ li_ws := li_mem 1296 (by decide +kernel) (by decide +kernel)
theorem w_1371 : (Jvm.Cond.methodLink "ClockForTalkLaw" (57 : Nat) ({ cls := "ClockForTalkLaw", name := "thing", desc := "(LClockForTalk;II[J)I" } : Jvm.MethodName)) ∈ li_ws := li_mem 1371 (by decide +kernel) (by decide +kernel)
theorem w_1372 : (Jvm.Cond.static ({ cls := "ClockForTalkLaw", name := "thing", desc := "(LClockForTalk;II[J)I" } : Jvm.MethodName)) ∈ li_ws := li_mem 1372 (by decide +kernel) (by decide +kernel)
theorem w_1380 : (Jvm.Cond.methodLink "ClockForTalkLaw" (60 : Nat) ({ cls := "ClockForTalkLaw", name := "loan", desc := "(LClockForTalk;II[J)I" } : Jvm.MethodName)) ∈ li_ws := li_mem 1380 (by decide +kernel) (by decide +kernel)
theorem w_1381 : (Jvm.Cond.static ({ cls := "ClockForTalkLaw", name := "loan", desc := "(LClockForTalk;II[J)I" } : Jvm.MethodName)) ∈ li_ws := li_mem 1381 (by decide +kernel) (by decide +kernel)
theorem w_1388 : (Jvm.Cond.methodLink "ClockForTalkLaw" (189 : Nat) ({ cls := "ClockForTalkLaw", name := "row", desc := "(LClockForTalk;I[J)I" } : Jvm.MethodName)) ∈ li_ws := li_mem 1388 (by decide +kernel) (by decide +kernel)
theorem w_1389 : (Jvm.Cond.static ({ cls := "ClockForTalkLaw", name := "row", desc := "(LClockForTalk;I[J)I" } : Jvm.MethodName)) ∈ li_ws := li_mem 1389 (by decide +kernel) (by decide +kernel)
theorem w_1562 : (Jvm.Cond.methodLink "ClockForTalkLaw" (32 : Nat) ({ cls := "ClockForTalkModel", name := "sign", desc := "(I)I" } : Jvm.MethodName)) ∈ li_ws := li_mem 1562 (by decide +kernel) (by decide +kernel)
theorem w_1563 : (Jvm.Cond.instanceMethod ({ cls := "ClockForTalkModel", name := "sign", desc := "(I)I" } : Jvm.MethodName)) ∈ li_ws := li_mem 1563 (by decide +kernel) (by decide +kernel)
theorem w_1564 : (Jvm.Cond.selects "ClockForTalkModel" ({ cls := "ClockForTalkModel", name := "sign", desc := "(I)I" } : Jvm.MethodName) ({ cls := "ClockForTalkModel", name := "sign", desc := "(I)I" } : Jvm.MethodName)) ∈ li_ws := li_mem 1564 (by decide +kernel) (by decide +kernel)
theorem w_1565 : (Jvm.Cond.code ({ cls := "ClockForTalkModel", name := "sign", desc := "(I)I" } : Jvm.MethodName) prog_13_method_10_code (3 : Nat) (Option.some Jvm.ClassFile.FieldType.int)) ∈ li_ws := li_mem 1565 (by decide +kernel) (by decide +kernel)
theorem w_1566 : (Jvm.Cond.methodLink "ClockForTalkLaw" (37 : Nat) ({ cls := "ClockForTalkModel", name := "end", desc := "(I)Z" } : Jvm.MethodName)) ∈ li_ws := li_mem 1566 (by decide +kernel) (by decide +kernel)
theorem w_1567 : (Jvm.Cond.instanceMethod ({ cls := "ClockForTalkModel", name := "end", desc := "(I)Z" } : Jvm.MethodName)) ∈ li_ws := li_mem 1567 (by decide +kernel) (by decide +kernel)
theorem w_1568 : (Jvm.Cond.selects "ClockForTalkModel" ({ cls := "ClockForTalkModel", name := "end", desc := "(I)Z" } : Jvm.MethodName) ({ cls := "ClockForTalkModel", name := "end", desc := "(I)Z" } : Jvm.MethodName)) ∈ li_ws := li_mem 1568 (by decide +kernel) (by decide +kernel)
theorem w_1569 : (Jvm.Cond.code ({ cls := "ClockForTalkModel", name := "end", desc := "(I)Z" } : Jvm.MethodName) prog_13_method_11_code (2 : Nat) (Option.some Jvm.ClassFile.FieldType.boolean)) ∈ li_ws := li_mem 1569 (by decide +kernel) (by decide +kernel)
theorem w_1573 : (Jvm.Cond.methodLink "ClockForTalkLaw" (42 : Nat) ({ cls := "ClockForTalkModel", name := "people", desc := "()I" } : Jvm.MethodName)) ∈ li_ws := li_mem 1573 (by decide +kernel) (by decide +kernel)
theorem w_1574 : (Jvm.Cond.instanceMethod ({ cls := "ClockForTalkModel", name := "people", desc := "()I" } : Jvm.MethodName)) ∈ li_ws := li_mem 1574 (by decide +kernel) (by decide +kernel)
theorem w_1575 : (Jvm.Cond.selects "ClockForTalkModel" ({ cls := "ClockForTalkModel", name := "people", desc := "()I" } : Jvm.MethodName) ({ cls := "ClockForTalkModel", name := "people", desc := "()I" } : Jvm.MethodName)) ∈ li_ws := li_mem 1575 (by decide +kernel) (by decide +kernel)
theorem w_1576 : (Jvm.Cond.code ({ cls := "ClockForTalkModel", name := "people", desc := "()I" } : Jvm.MethodName) prog_13_method_20_code (4 : Nat) (Option.some Jvm.ClassFile.FieldType.int)) ∈ li_ws := li_mem 1576 (by decide +kernel) (by decide +kernel)
theorem w_1609 : (Jvm.Cond.methodLink "ClockForTalkLaw" (46 : Nat) ({ cls := "ClockForTalkModel", name := "things", desc := "()I" } : Jvm.MethodName)) ∈ li_ws := li_mem 1609 (by decide +kernel) (by decide +kernel)
theorem w_1610 : (Jvm.Cond.instanceMethod ({ cls := "ClockForTalkModel", name := "things", desc := "()I" } : Jvm.MethodName)) ∈ li_ws := li_mem 1610 (by decide +kernel) (by decide +kernel)
theorem w_1611 : (Jvm.Cond.selects "ClockForTalkModel" ({ cls := "ClockForTalkModel", name := "things", desc := "()I" } : Jvm.MethodName) ({ cls := "ClockForTalkModel", name := "things", desc := "()I" } : Jvm.MethodName)) ∈ li_ws := li_mem 1611 (by decide +kernel) (by decide +kernel)
theorem w_1612 : (Jvm.Cond.code ({ cls := "ClockForTalkModel", name := "things", desc := "()I" } : Jvm.MethodName) prog_13_method_22_code (4 : Nat) (Option.some Jvm.ClassFile.FieldType.int)) ∈ li_ws := li_mem 1612 (by decide +kernel) (by decide +kernel)
theorem w_1617 : (Jvm.Cond.methodLink "ClockForTalkLaw" (50 : Nat) ({ cls := "ClockForTalkModel", name := "rule", desc := "()I" } : Jvm.MethodName)) ∈ li_ws := li_mem 1617 (by decide +kernel) (by decide +kernel)
theorem w_1618 : (Jvm.Cond.instanceMethod ({ cls := "ClockForTalkModel", name := "rule", desc := "()I" } : Jvm.MethodName)) ∈ li_ws := li_mem 1618 (by decide +kernel) (by decide +kernel)
theorem w_1619 : (Jvm.Cond.selects "ClockForTalkModel" ({ cls := "ClockForTalkModel", name := "rule", desc := "()I" } : Jvm.MethodName) ({ cls := "ClockForTalkModel", name := "rule", desc := "()I" } : Jvm.MethodName)) ∈ li_ws := li_mem 1619 (by decide +kernel) (by decide +kernel)
theorem w_1620 : (Jvm.Cond.code ({ cls := "ClockForTalkModel", name := "rule", desc := "()I" } : Jvm.MethodName) prog_13_method_29_code (3 : Nat) (Option.some Jvm.ClassFile.FieldType.int)) ∈ li_ws := li_mem 1620 (by decide +kernel) (by decide +kernel)
theorem w_1644 : (Jvm.Cond.methodLink "ClockForTalkLaw" (56 : Nat) ({ cls := "ClockForTalkModel", name := "person", desc := "(II)I" } : Jvm.MethodName)) ∈ li_ws := li_mem 1644 (by decide +kernel) (by decide +kernel)
theorem w_1645 : (Jvm.Cond.instanceMethod ({ cls := "ClockForTalkModel", name := "person", desc := "(II)I" } : Jvm.MethodName)) ∈ li_ws := li_mem 1645 (by decide +kernel) (by decide +kernel)
theorem w_1646 : (Jvm.Cond.selects "ClockForTalkModel" ({ cls := "ClockForTalkModel", name := "person", desc := "(II)I" } : Jvm.MethodName) ({ cls := "ClockForTalkModel", name := "person", desc := "(II)I" } : Jvm.MethodName)) ∈ li_ws := li_mem 1646 (by decide +kernel) (by decide +kernel)
theorem w_1647 : (Jvm.Cond.code ({ cls := "ClockForTalkModel", name := "person", desc := "(II)I" } : Jvm.MethodName) prog_13_method_44_code (3 : Nat) (Option.some Jvm.ClassFile.FieldType.int)) ∈ li_ws := li_mem 1647 (by decide +kernel) (by decide +kernel)
theorem w_1660 : (Jvm.Cond.methodLink "ClockForTalkLaw" (59 : Nat) ({ cls := "ClockForTalkModel", name := "thing", desc := "(II)I" } : Jvm.MethodName)) ∈ li_ws := li_mem 1660 (by decide +kernel) (by decide +kernel)
theorem w_1661 : (Jvm.Cond.instanceMethod ({ cls := "ClockForTalkModel", name := "thing", desc := "(II)I" } : Jvm.MethodName)) ∈ li_ws := li_mem 1661 (by decide +kernel) (by decide +kernel)
theorem w_1662 : (Jvm.Cond.selects "ClockForTalkModel" ({ cls := "ClockForTalkModel", name := "thing", desc := "(II)I" } : Jvm.MethodName) ({ cls := "ClockForTalkModel", name := "thing", desc := "(II)I" } : Jvm.MethodName)) ∈ li_ws := li_mem 1662 (by decide +kernel) (by decide +kernel)
theorem w_1663 : (Jvm.Cond.code ({ cls := "ClockForTalkModel", name := "thing", desc := "(II)I" } : Jvm.MethodName) prog_13_method_45_code (3 : Nat) (Option.some Jvm.ClassFile.FieldType.int)) ∈ li_ws := li_mem 1663 (by decide +kernel) (by decide +kernel)
theorem w_1702 : (Jvm.Cond.methodLink "ClockForTalkLaw" (62 : Nat) ({ cls := "ClockForTalkModel", name := "loan", desc := "(II)I" } : Jvm.MethodName)) ∈ li_ws := li_mem 1702 (by decide +kernel) (by decide +kernel)
theorem w_1703 : (Jvm.Cond.instanceMethod ({ cls := "ClockForTalkModel", name := "loan", desc := "(II)I" } : Jvm.MethodName)) ∈ li_ws := li_mem 1703 (by decide +kernel) (by decide +kernel)
theorem w_1704 : (Jvm.Cond.selects "ClockForTalkModel" ({ cls := "ClockForTalkModel", name := "loan", desc := "(II)I" } : Jvm.MethodName) ({ cls := "ClockForTalkModel", name := "loan", desc := "(II)I" } : Jvm.MethodName)) ∈ li_ws := li_mem 1704 (by decide +kernel) (by decide +kernel)
theorem w_1705 : (Jvm.Cond.code ({ cls := "ClockForTalkModel", name := "loan", desc := "(II)I" } : Jvm.MethodName) prog_13_method_46_code (3 : Nat) (Option.some Jvm.ClassFile.FieldType.int)) ∈ li_ws := li_mem 1705 (by decide +kernel) (by decide +kernel)
theorem w_1706 : (Jvm.Cond.methodLink "ClockForTalkLaw" (66 : Nat) ({ cls := "ClockForTalkModel", name := "move", desc := "(II)I" } : Jvm.MethodName)) ∈ li_ws := li_mem 1706 (by decide +kernel) (by decide +kernel)
theorem w_1707 : (Jvm.Cond.instanceMethod ({ cls := "ClockForTalkModel", name := "move", desc := "(II)I" } : Jvm.MethodName)) ∈ li_ws := li_mem 1707 (by decide +kernel) (by decide +kernel)
theorem w_1708 : (Jvm.Cond.selects "ClockForTalkModel" ({ cls := "ClockForTalkModel", name := "move", desc := "(II)I" } : Jvm.MethodName) ({ cls := "ClockForTalkModel", name := "move", desc := "(II)I" } : Jvm.MethodName)) ∈ li_ws := li_mem 1708 (by decide +kernel) (by decide +kernel)
theorem w_1709 : (Jvm.Cond.code ({ cls := "ClockForTalkModel", name := "move", desc := "(II)I" } : Jvm.MethodName) prog_13_method_47_code (4 : Nat) (Option.some Jvm.ClassFile.FieldType.int)) ∈ li_ws := li_mem 1709 (by decide +kernel) (by decide +kernel)
theorem w_1710 : (Jvm.Cond.methodLink "ClockForTalkLaw" (71 : Nat) ({ cls := "ClockForTalkModel", name := "sheet", desc := "(IIII)I" } : Jvm.MethodName)) ∈ li_ws := li_mem 1710 (by decide +kernel) (by decide +kernel)
theorem w_1711 : (Jvm.Cond.instanceMethod ({ cls := "ClockForTalkModel", name := "sheet", desc := "(IIII)I" } : Jvm.MethodName)) ∈ li_ws := li_mem 1711 (by decide +kernel) (by decide +kernel)
theorem w_1712 : (Jvm.Cond.selects "ClockForTalkModel" ({ cls := "ClockForTalkModel", name := "sheet", desc := "(IIII)I" } : Jvm.MethodName) ({ cls := "ClockForTalkModel", name := "sheet", desc := "(IIII)I" } : Jvm.MethodName)) ∈ li_ws := li_mem 1712 (by decide +kernel) (by decide +kernel)
theorem w_1713 : (Jvm.Cond.code ({ cls := "ClockForTalkModel", name := "sheet", desc := "(IIII)I" } : Jvm.MethodName) prog_13_method_48_code (9 : Nat) (Option.some Jvm.ClassFile.FieldType.int)) ∈ li_ws := li_mem 1713 (by decide +kernel) (by decide +kernel)
theorem w_1714 : (Jvm.Cond.methodLink "ClockForTalkLaw" (75 : Nat) ({ cls := "ClockForTalkModel", name := "cost", desc := "(II)I" } : Jvm.MethodName)) ∈ li_ws := li_mem 1714 (by decide +kernel) (by decide +kernel)
theorem w_1715 : (Jvm.Cond.instanceMethod ({ cls := "ClockForTalkModel", name := "cost", desc := "(II)I" } : Jvm.MethodName)) ∈ li_ws := li_mem 1715 (by decide +kernel) (by decide +kernel)
theorem w_1716 : (Jvm.Cond.selects "ClockForTalkModel" ({ cls := "ClockForTalkModel", name := "cost", desc := "(II)I" } : Jvm.MethodName) ({ cls := "ClockForTalkModel", name := "cost", desc := "(II)I" } : Jvm.MethodName)) ∈ li_ws := li_mem 1716 (by decide +kernel) (by decide +kernel)
theorem w_1717 : (Jvm.Cond.code ({ cls := "ClockForTalkModel", name := "cost", desc := "(II)I" } : Jvm.MethodName) prog_13_method_51_code (3 : Nat) (Option.some Jvm.ClassFile.FieldType.int)) ∈ li_ws := li_mem 1717 (by decide +kernel) (by decide +kernel)
theorem w_1726 : (Jvm.Cond.methodLink "ClockForTalkLaw" (79 : Nat) ({ cls := "ClockForTalkModel", name := "say", desc := "(II)I" } : Jvm.MethodName)) ∈ li_ws := li_mem 1726 (by decide +kernel) (by decide +kernel)
theorem w_1727 : (Jvm.Cond.instanceMethod ({ cls := "ClockForTalkModel", name := "say", desc := "(II)I" } : Jvm.MethodName)) ∈ li_ws := li_mem 1727 (by decide +kernel) (by decide +kernel)
theorem w_1728 : (Jvm.Cond.selects "ClockForTalkModel" ({ cls := "ClockForTalkModel", name := "say", desc := "(II)I" } : Jvm.MethodName) ({ cls := "ClockForTalkModel", name := "say", desc := "(II)I" } : Jvm.MethodName)) ∈ li_ws := li_mem 1728 (by decide +kernel) (by decide +kernel)
theorem w_1729 : (Jvm.Cond.code ({ cls := "ClockForTalkModel", name := "say", desc := "(II)I" } : Jvm.MethodName) prog_13_method_54_code (4 : Nat) (Option.some Jvm.ClassFile.FieldType.int)) ∈ li_ws := li_mem 1729 (by decide +kernel) (by decide +kernel)
theorem w_1752 : (Jvm.Cond.methodLink "ClockForTalkLaw" (84 : Nat) ({ cls := "ClockForTalkModel", name := "give", desc := "(III)I" } : Jvm.MethodName)) ∈ li_ws := li_mem 1752 (by decide +kernel) (by decide +kernel)
theorem w_1753 : (Jvm.Cond.instanceMethod ({ cls := "ClockForTalkModel", name := "give", desc := "(III)I" } : Jvm.MethodName)) ∈ li_ws := li_mem 1753 (by decide +kernel) (by decide +kernel)
theorem w_1754 : (Jvm.Cond.selects "ClockForTalkModel" ({ cls := "ClockForTalkModel", name := "give", desc := "(III)I" } : Jvm.MethodName) ({ cls := "ClockForTalkModel", name := "give", desc := "(III)I" } : Jvm.MethodName)) ∈ li_ws := li_mem 1754 (by decide +kernel) (by decide +kernel)
theorem w_1755 : (Jvm.Cond.code ({ cls := "ClockForTalkModel", name := "give", desc := "(III)I" } : Jvm.MethodName) prog_13_method_57_code (5 : Nat) (Option.some Jvm.ClassFile.FieldType.int)) ∈ li_ws := li_mem 1755 (by decide +kernel) (by decide +kernel)
theorem w_1767 : (Jvm.Cond.methodLink "ClockForTalkLaw" (88 : Nat) ({ cls := "ClockForTalkModel", name := "lend", desc := "(IIII)I" } : Jvm.MethodName)) ∈ li_ws := li_mem 1767 (by decide +kernel) (by decide +kernel)
theorem w_1768 : (Jvm.Cond.instanceMethod ({ cls := "ClockForTalkModel", name := "lend", desc := "(IIII)I" } : Jvm.MethodName)) ∈ li_ws := li_mem 1768 (by decide +kernel) (by decide +kernel)
theorem w_1769 : (Jvm.Cond.selects "ClockForTalkModel" ({ cls := "ClockForTalkModel", name := "lend", desc := "(IIII)I" } : Jvm.MethodName) ({ cls := "ClockForTalkModel", name := "lend", desc := "(IIII)I" } : Jvm.MethodName)) ∈ li_ws := li_mem 1769 (by decide +kernel) (by decide +kernel)
theorem w_1770 : (Jvm.Cond.code ({ cls := "ClockForTalkModel", name := "lend", desc := "(IIII)I" } : Jvm.MethodName) prog_13_method_58_code (6 : Nat) (Option.some Jvm.ClassFile.FieldType.int)) ∈ li_ws := li_mem 1770 (by decide +kernel) (by decide +kernel)
theorem w_1771 : (Jvm.Cond.methodLink "ClockForTalkLaw" (92 : Nat) ({ cls := "ClockForTalkModel", name := "days", desc := "(I)I" } : Jvm.MethodName)) ∈ li_ws := li_mem 1771 (by decide +kernel) (by decide +kernel)
theorem w_1772 : (Jvm.Cond.instanceMethod ({ cls := "ClockForTalkModel", name := "days", desc := "(I)I" } : Jvm.MethodName)) ∈ li_ws := li_mem 1772 (by decide +kernel) (by decide +kernel)
theorem w_1773 : (Jvm.Cond.selects "ClockForTalkModel" ({ cls := "ClockForTalkModel", name := "days", desc := "(I)I" } : Jvm.MethodName) ({ cls := "ClockForTalkModel", name := "days", desc := "(I)I" } : Jvm.MethodName)) ∈ li_ws := li_mem 1773 (by decide +kernel) (by decide +kernel)
theorem w_1774 : (Jvm.Cond.code ({ cls := "ClockForTalkModel", name := "days", desc := "(I)I" } : Jvm.MethodName) prog_13_method_61_code (2 : Nat) (Option.some Jvm.ClassFile.FieldType.int)) ∈ li_ws := li_mem 1774 (by decide +kernel) (by decide +kernel)
theorem w_1787 : (Jvm.Cond.methodLink "ClockForTalkLaw" (96 : Nat) ({ cls := "ClockForTalkModel", name := "talk", desc := "()I" } : Jvm.MethodName)) ∈ li_ws := li_mem 1787 (by decide +kernel) (by decide +kernel)
theorem w_1788 : (Jvm.Cond.instanceMethod ({ cls := "ClockForTalkModel", name := "talk", desc := "()I" } : Jvm.MethodName)) ∈ li_ws := li_mem 1788 (by decide +kernel) (by decide +kernel)
theorem w_1789 : (Jvm.Cond.selects "ClockForTalkModel" ({ cls := "ClockForTalkModel", name := "talk", desc := "()I" } : Jvm.MethodName) ({ cls := "ClockForTalkModel", name := "talk", desc := "()I" } : Jvm.MethodName)) ∈ li_ws := li_mem 1789 (by decide +kernel) (by decide +kernel)
theorem w_1790 : (Jvm.Cond.code ({ cls := "ClockForTalkModel", name := "talk", desc := "()I" } : Jvm.MethodName) prog_13_method_62_code (4 : Nat) (Option.some Jvm.ClassFile.FieldType.int)) ∈ li_ws := li_mem 1790 (by decide +kernel) (by decide +kernel)
theorem w_1799 : (Jvm.Cond.methodLink "ClockForTalkLaw" (100 : Nat) ({ cls := "ClockForTalkModel", name := "undo", desc := "()I" } : Jvm.MethodName)) ∈ li_ws := li_mem 1799 (by decide +kernel) (by decide +kernel)
theorem w_1800 : (Jvm.Cond.instanceMethod ({ cls := "ClockForTalkModel", name := "undo", desc := "()I" } : Jvm.MethodName)) ∈ li_ws := li_mem 1800 (by decide +kernel) (by decide +kernel)
theorem w_1801 : (Jvm.Cond.selects "ClockForTalkModel" ({ cls := "ClockForTalkModel", name := "undo", desc := "()I" } : Jvm.MethodName) ({ cls := "ClockForTalkModel", name := "undo", desc := "()I" } : Jvm.MethodName)) ∈ li_ws := li_mem 1801 (by decide +kernel) (by decide +kernel)
theorem w_1802 : (Jvm.Cond.code ({ cls := "ClockForTalkModel", name := "undo", desc := "()I" } : Jvm.MethodName) prog_13_method_65_code (2 : Nat) (Option.some Jvm.ClassFile.FieldType.int)) ∈ li_ws := li_mem 1802 (by decide +kernel) (by decide +kernel)
theorem w_1803 : (Jvm.Cond.methodLink "ClockForTalkLaw" (104 : Nat) ({ cls := "ClockForTalkModel", name := "best", desc := "(I)I" } : Jvm.MethodName)) ∈ li_ws := li_mem 1803 (by decide +kernel) (by decide +kernel)
theorem w_1804 : (Jvm.Cond.instanceMethod ({ cls := "ClockForTalkModel", name := "best", desc := "(I)I" } : Jvm.MethodName)) ∈ li_ws := li_mem 1804 (by decide +kernel) (by decide +kernel)
theorem w_1805 : (Jvm.Cond.selects "ClockForTalkModel" ({ cls := "ClockForTalkModel", name := "best", desc := "(I)I" } : Jvm.MethodName) ({ cls := "ClockForTalkModel", name := "best", desc := "(I)I" } : Jvm.MethodName)) ∈ li_ws := li_mem 1805 (by decide +kernel) (by decide +kernel)
theorem w_1806 : (Jvm.Cond.code ({ cls := "ClockForTalkModel", name := "best", desc := "(I)I" } : Jvm.MethodName) prog_13_method_71_code (3 : Nat) (Option.some Jvm.ClassFile.FieldType.int)) ∈ li_ws := li_mem 1806 (by decide +kernel) (by decide +kernel)
theorem w_1835 : (Jvm.Cond.methodLink "ClockForTalkLaw" (108 : Nat) ({ cls := "ClockForTalkModel", name := "lacks", desc := "(I)I" } : Jvm.MethodName)) ∈ li_ws := li_mem 1835 (by decide +kernel) (by decide +kernel)
theorem w_1836 : (Jvm.Cond.instanceMethod ({ cls := "ClockForTalkModel", name := "lacks", desc := "(I)I" } : Jvm.MethodName)) ∈ li_ws := li_mem 1836 (by decide +kernel) (by decide +kernel)
theorem w_1837 : (Jvm.Cond.selects "ClockForTalkModel" ({ cls := "ClockForTalkModel", name := "lacks", desc := "(I)I" } : Jvm.MethodName) ({ cls := "ClockForTalkModel", name := "lacks", desc := "(I)I" } : Jvm.MethodName)) ∈ li_ws := li_mem 1837 (by decide +kernel) (by decide +kernel)
theorem w_1838 : (Jvm.Cond.code ({ cls := "ClockForTalkModel", name := "lacks", desc := "(I)I" } : Jvm.MethodName) prog_13_method_72_code (3 : Nat) (Option.some Jvm.ClassFile.FieldType.int)) ∈ li_ws := li_mem 1838 (by decide +kernel) (by decide +kernel)
theorem w_1839 : (Jvm.Cond.methodLink "ClockForTalkLaw" (112 : Nat) ({ cls := "ClockForTalkModel", name := "pool", desc := "()I" } : Jvm.MethodName)) ∈ li_ws := li_mem 1839 (by decide +kernel) (by decide +kernel)
theorem w_1840 : (Jvm.Cond.instanceMethod ({ cls := "ClockForTalkModel", name := "pool", desc := "()I" } : Jvm.MethodName)) ∈ li_ws := li_mem 1840 (by decide +kernel) (by decide +kernel)
theorem w_1841 : (Jvm.Cond.selects "ClockForTalkModel" ({ cls := "ClockForTalkModel", name := "pool", desc := "()I" } : Jvm.MethodName) ({ cls := "ClockForTalkModel", name := "pool", desc := "()I" } : Jvm.MethodName)) ∈ li_ws := li_mem 1841 (by decide +kernel) (by decide +kernel)
theorem w_1842 : (Jvm.Cond.code ({ cls := "ClockForTalkModel", name := "pool", desc := "()I" } : Jvm.MethodName) prog_13_method_74_code (2 : Nat) (Option.some Jvm.ClassFile.FieldType.int)) ∈ li_ws := li_mem 1842 (by decide +kernel) (by decide +kernel)
theorem w_1847 : (Jvm.Cond.methodLink "ClockForTalkLaw" (116 : Nat) ({ cls := "ClockForTalkModel", name := "gifts", desc := "(I)I" } : Jvm.MethodName)) ∈ li_ws := li_mem 1847 (by decide +kernel) (by decide +kernel)
theorem w_1848 : (Jvm.Cond.instanceMethod ({ cls := "ClockForTalkModel", name := "gifts", desc := "(I)I" } : Jvm.MethodName)) ∈ li_ws := li_mem 1848 (by decide +kernel) (by decide +kernel)
theorem w_1849 : (Jvm.Cond.selects "ClockForTalkModel" ({ cls := "ClockForTalkModel", name := "gifts", desc := "(I)I" } : Jvm.MethodName) ({ cls := "ClockForTalkModel", name := "gifts", desc := "(I)I" } : Jvm.MethodName)) ∈ li_ws := li_mem 1849 (by decide +kernel) (by decide +kernel)
theorem w_1850 : (Jvm.Cond.code ({ cls := "ClockForTalkModel", name := "gifts", desc := "(I)I" } : Jvm.MethodName) prog_13_method_75_code (6 : Nat) (Option.some Jvm.ClassFile.FieldType.int)) ∈ li_ws := li_mem 1850 (by decide +kernel) (by decide +kernel)
theorem w_1851 : (Jvm.Cond.methodLink "ClockForTalkLaw" (120 : Nat) ({ cls := "ClockForTalkModel", name := "mute", desc := "()I" } : Jvm.MethodName)) ∈ li_ws := li_mem 1851 (by decide +kernel) (by decide +kernel)
theorem w_1852 : (Jvm.Cond.instanceMethod ({ cls := "ClockForTalkModel", name := "mute", desc := "()I" } : Jvm.MethodName)) ∈ li_ws := li_mem 1852 (by decide +kernel) (by decide +kernel)
theorem w_1853 : (Jvm.Cond.selects "ClockForTalkModel" ({ cls := "ClockForTalkModel", name := "mute", desc := "()I" } : Jvm.MethodName) ({ cls := "ClockForTalkModel", name := "mute", desc := "()I" } : Jvm.MethodName)) ∈ li_ws := li_mem 1853 (by decide +kernel) (by decide +kernel)
theorem w_1854 : (Jvm.Cond.code ({ cls := "ClockForTalkModel", name := "mute", desc := "()I" } : Jvm.MethodName) prog_13_method_76_code (3 : Nat) (Option.some Jvm.ClassFile.FieldType.int)) ∈ li_ws := li_mem 1854 (by decide +kernel) (by decide +kernel)
theorem w_1855 : (Jvm.Cond.methodLink "ClockForTalkLaw" (124 : Nat) ({ cls := "ClockForTalkModel", name := "relay", desc := "(III)I" } : Jvm.MethodName)) ∈ li_ws := li_mem 1855 (by decide +kernel) (by decide +kernel)
theorem w_1856 : (Jvm.Cond.instanceMethod ({ cls := "ClockForTalkModel", name := "relay", desc := "(III)I" } : Jvm.MethodName)) ∈ li_ws := li_mem 1856 (by decide +kernel) (by decide +kernel)
theorem w_1857 : (Jvm.Cond.selects "ClockForTalkModel" ({ cls := "ClockForTalkModel", name := "relay", desc := "(III)I" } : Jvm.MethodName) ({ cls := "ClockForTalkModel", name := "relay", desc := "(III)I" } : Jvm.MethodName)) ∈ li_ws := li_mem 1857 (by decide +kernel) (by decide +kernel)
theorem w_1858 : (Jvm.Cond.code ({ cls := "ClockForTalkModel", name := "relay", desc := "(III)I" } : Jvm.MethodName) prog_13_method_79_code (5 : Nat) (Option.some Jvm.ClassFile.FieldType.int)) ∈ li_ws := li_mem 1858 (by decide +kernel) (by decide +kernel)
theorem w_1868 : (Jvm.Cond.methodLink "ClockForTalkLaw" (128 : Nat) ({ cls := "ClockForTalkModel", name := "criers", desc := "(III)I" } : Jvm.MethodName)) ∈ li_ws := li_mem 1868 (by decide +kernel) (by decide +kernel)
theorem w_1869 : (Jvm.Cond.instanceMethod ({ cls := "ClockForTalkModel", name := "criers", desc := "(III)I" } : Jvm.MethodName)) ∈ li_ws := li_mem 1869 (by decide +kernel) (by decide +kernel)
theorem w_1870 : (Jvm.Cond.selects "ClockForTalkModel" ({ cls := "ClockForTalkModel", name := "criers", desc := "(III)I" } : Jvm.MethodName) ({ cls := "ClockForTalkModel", name := "criers", desc := "(III)I" } : Jvm.MethodName)) ∈ li_ws := li_mem 1870 (by decide +kernel) (by decide +kernel)
theorem w_1871 : (Jvm.Cond.code ({ cls := "ClockForTalkModel", name := "criers", desc := "(III)I" } : Jvm.MethodName) prog_13_method_82_code (6 : Nat) (Option.some Jvm.ClassFile.FieldType.int)) ∈ li_ws := li_mem 1871 (by decide +kernel) (by decide +kernel)
theorem w_1880 : (Jvm.Cond.methodLink "ClockForTalkLaw" (132 : Nat) ({ cls := "ClockForTalkModel", name := "debate", desc := "(III)I" } : Jvm.MethodName)) ∈ li_ws := li_mem 1880 (by decide +kernel) (by decide +kernel)
theorem w_1881 : (Jvm.Cond.instanceMethod ({ cls := "ClockForTalkModel", name := "debate", desc := "(III)I" } : Jvm.MethodName)) ∈ li_ws := li_mem 1881 (by decide +kernel) (by decide +kernel)
theorem w_1882 : (Jvm.Cond.selects "ClockForTalkModel" ({ cls := "ClockForTalkModel", name := "debate", desc := "(III)I" } : Jvm.MethodName) ({ cls := "ClockForTalkModel", name := "debate", desc := "(III)I" } : Jvm.MethodName)) ∈ li_ws := li_mem 1882 (by decide +kernel) (by decide +kernel)
theorem w_1883 : (Jvm.Cond.code ({ cls := "ClockForTalkModel", name := "debate", desc := "(III)I" } : Jvm.MethodName) prog_13_method_86_code (6 : Nat) (Option.some Jvm.ClassFile.FieldType.int)) ∈ li_ws := li_mem 1883 (by decide +kernel) (by decide +kernel)
theorem w_1894 : (Jvm.Cond.methodLink "ClockForTalkLaw" (136 : Nat) ({ cls := "ClockForTalkModel", name := "enough", desc := "(II)I" } : Jvm.MethodName)) ∈ li_ws := li_mem 1894 (by decide +kernel) (by decide +kernel)
theorem w_1895 : (Jvm.Cond.instanceMethod ({ cls := "ClockForTalkModel", name := "enough", desc := "(II)I" } : Jvm.MethodName)) ∈ li_ws := li_mem 1895 (by decide +kernel) (by decide +kernel)
theorem w_1896 : (Jvm.Cond.selects "ClockForTalkModel" ({ cls := "ClockForTalkModel", name := "enough", desc := "(II)I" } : Jvm.MethodName) ({ cls := "ClockForTalkModel", name := "enough", desc := "(II)I" } : Jvm.MethodName)) ∈ li_ws := li_mem 1896 (by decide +kernel) (by decide +kernel)
theorem w_1897 : (Jvm.Cond.code ({ cls := "ClockForTalkModel", name := "enough", desc := "(II)I" } : Jvm.MethodName) prog_13_method_87_code (4 : Nat) (Option.some Jvm.ClassFile.FieldType.int)) ∈ li_ws := li_mem 1897 (by decide +kernel) (by decide +kernel)
theorem w_1898 : (Jvm.Cond.methodLink "ClockForTalkLaw" (140 : Nat) ({ cls := "ClockForTalkModel", name := "grammar", desc := "()I" } : Jvm.MethodName)) ∈ li_ws := li_mem 1898 (by decide +kernel) (by decide +kernel)
theorem w_1899 : (Jvm.Cond.instanceMethod ({ cls := "ClockForTalkModel", name := "grammar", desc := "()I" } : Jvm.MethodName)) ∈ li_ws := li_mem 1899 (by decide +kernel) (by decide +kernel)
theorem w_1900 : (Jvm.Cond.selects "ClockForTalkModel" ({ cls := "ClockForTalkModel", name := "grammar", desc := "()I" } : Jvm.MethodName) ({ cls := "ClockForTalkModel", name := "grammar", desc := "()I" } : Jvm.MethodName)) ∈ li_ws := li_mem 1900 (by decide +kernel) (by decide +kernel)
theorem w_1901 : (Jvm.Cond.code ({ cls := "ClockForTalkModel", name := "grammar", desc := "()I" } : Jvm.MethodName) prog_13_method_88_code (4 : Nat) (Option.some Jvm.ClassFile.FieldType.int)) ∈ li_ws := li_mem 1901 (by decide +kernel) (by decide +kernel)
theorem w_1902 : (Jvm.Cond.methodLink "ClockForTalkLaw" (144 : Nat) ({ cls := "ClockForTalkModel", name := "shorter", desc := "()I" } : Jvm.MethodName)) ∈ li_ws := li_mem 1902 (by decide +kernel) (by decide +kernel)
theorem w_1903 : (Jvm.Cond.instanceMethod ({ cls := "ClockForTalkModel", name := "shorter", desc := "()I" } : Jvm.MethodName)) ∈ li_ws := li_mem 1903 (by decide +kernel) (by decide +kernel)
theorem w_1904 : (Jvm.Cond.selects "ClockForTalkModel" ({ cls := "ClockForTalkModel", name := "shorter", desc := "()I" } : Jvm.MethodName) ({ cls := "ClockForTalkModel", name := "shorter", desc := "()I" } : Jvm.MethodName)) ∈ li_ws := li_mem 1904 (by decide +kernel) (by decide +kernel)
theorem w_1905 : (Jvm.Cond.code ({ cls := "ClockForTalkModel", name := "shorter", desc := "()I" } : Jvm.MethodName) prog_13_method_91_code (11 : Nat) (Option.some Jvm.ClassFile.FieldType.int)) ∈ li_ws := li_mem 1905 (by decide +kernel) (by decide +kernel)
theorem w_1915 : (Jvm.Cond.methodLink "ClockForTalkLaw" (148 : Nat) ({ cls := "ClockForTalkModel", name := "becomes", desc := "()I" } : Jvm.MethodName)) ∈ li_ws := li_mem 1915 (by decide +kernel) (by decide +kernel)
theorem w_1916 : (Jvm.Cond.instanceMethod ({ cls := "ClockForTalkModel", name := "becomes", desc := "()I" } : Jvm.MethodName)) ∈ li_ws := li_mem 1916 (by decide +kernel) (by decide +kernel)
theorem w_1917 : (Jvm.Cond.selects "ClockForTalkModel" ({ cls := "ClockForTalkModel", name := "becomes", desc := "()I" } : Jvm.MethodName) ({ cls := "ClockForTalkModel", name := "becomes", desc := "()I" } : Jvm.MethodName)) ∈ li_ws := li_mem 1917 (by decide +kernel) (by decide +kernel)
theorem w_1918 : (Jvm.Cond.code ({ cls := "ClockForTalkModel", name := "becomes", desc := "()I" } : Jvm.MethodName) prog_13_method_92_code (2 : Nat) (Option.some Jvm.ClassFile.FieldType.int)) ∈ li_ws := li_mem 1918 (by decide +kernel) (by decide +kernel)
theorem w_1919 : (Jvm.Cond.methodLink "ClockForTalkLaw" (152 : Nat) ({ cls := "ClockForTalkModel", name := "read", desc := "(II)I" } : Jvm.MethodName)) ∈ li_ws := li_mem 1919 (by decide +kernel) (by decide +kernel)
theorem w_1920 : (Jvm.Cond.instanceMethod ({ cls := "ClockForTalkModel", name := "read", desc := "(II)I" } : Jvm.MethodName)) ∈ li_ws := li_mem 1920 (by decide +kernel) (by decide +kernel)
theorem w_1921 : (Jvm.Cond.selects "ClockForTalkModel" ({ cls := "ClockForTalkModel", name := "read", desc := "(II)I" } : Jvm.MethodName) ({ cls := "ClockForTalkModel", name := "read", desc := "(II)I" } : Jvm.MethodName)) ∈ li_ws := li_mem 1921 (by decide +kernel) (by decide +kernel)
theorem w_1922 : (Jvm.Cond.code ({ cls := "ClockForTalkModel", name := "read", desc := "(II)I" } : Jvm.MethodName) prog_13_method_93_code (3 : Nat) (Option.some Jvm.ClassFile.FieldType.int)) ∈ li_ws := li_mem 1922 (by decide +kernel) (by decide +kernel)
theorem w_1923 : (Jvm.Cond.methodLink "ClockForTalkLaw" (156 : Nat) ({ cls := "ClockForTalkModel", name := "forget", desc := "()I" } : Jvm.MethodName)) ∈ li_ws := li_mem 1923 (by decide +kernel) (by decide +kernel)
theorem w_1924 : (Jvm.Cond.instanceMethod ({ cls := "ClockForTalkModel", name := "forget", desc := "()I" } : Jvm.MethodName)) ∈ li_ws := li_mem 1924 (by decide +kernel) (by decide +kernel)
theorem w_1925 : (Jvm.Cond.selects "ClockForTalkModel" ({ cls := "ClockForTalkModel", name := "forget", desc := "()I" } : Jvm.MethodName) ({ cls := "ClockForTalkModel", name := "forget", desc := "()I" } : Jvm.MethodName)) ∈ li_ws := li_mem 1925 (by decide +kernel) (by decide +kernel)
theorem w_1926 : (Jvm.Cond.code ({ cls := "ClockForTalkModel", name := "forget", desc := "()I" } : Jvm.MethodName) prog_13_method_94_code (2 : Nat) (Option.some Jvm.ClassFile.FieldType.int)) ∈ li_ws := li_mem 1926 (by decide +kernel) (by decide +kernel)
theorem w_1927 : (Jvm.Cond.methodLink "ClockForTalkLaw" (160 : Nat) ({ cls := "ClockForTalkModel", name := "spoke", desc := "(I)I" } : Jvm.MethodName)) ∈ li_ws := li_mem 1927 (by decide +kernel) (by decide +kernel)
theorem w_1928 : (Jvm.Cond.instanceMethod ({ cls := "ClockForTalkModel", name := "spoke", desc := "(I)I" } : Jvm.MethodName)) ∈ li_ws := li_mem 1928 (by decide +kernel) (by decide +kernel)
theorem w_1929 : (Jvm.Cond.selects "ClockForTalkModel" ({ cls := "ClockForTalkModel", name := "spoke", desc := "(I)I" } : Jvm.MethodName) ({ cls := "ClockForTalkModel", name := "spoke", desc := "(I)I" } : Jvm.MethodName)) ∈ li_ws := li_mem 1929 (by decide +kernel) (by decide +kernel)
theorem w_1930 : (Jvm.Cond.code ({ cls := "ClockForTalkModel", name := "spoke", desc := "(I)I" } : Jvm.MethodName) prog_13_method_98_code (6 : Nat) (Option.some Jvm.ClassFile.FieldType.int)) ∈ li_ws := li_mem 1930 (by decide +kernel) (by decide +kernel)
theorem w_1943 : (Jvm.Cond.methodLink "ClockForTalkLaw" (164 : Nat) ({ cls := "ClockForTalkModel", name := "look", desc := "()I" } : Jvm.MethodName)) ∈ li_ws := li_mem 1943 (by decide +kernel) (by decide +kernel)
theorem w_1944 : (Jvm.Cond.instanceMethod ({ cls := "ClockForTalkModel", name := "look", desc := "()I" } : Jvm.MethodName)) ∈ li_ws := li_mem 1944 (by decide +kernel) (by decide +kernel)
theorem w_1945 : (Jvm.Cond.selects "ClockForTalkModel" ({ cls := "ClockForTalkModel", name := "look", desc := "()I" } : Jvm.MethodName) ({ cls := "ClockForTalkModel", name := "look", desc := "()I" } : Jvm.MethodName)) ∈ li_ws := li_mem 1945 (by decide +kernel) (by decide +kernel)
theorem w_1946 : (Jvm.Cond.code ({ cls := "ClockForTalkModel", name := "look", desc := "()I" } : Jvm.MethodName) prog_13_method_99_code (4 : Nat) (Option.some Jvm.ClassFile.FieldType.int)) ∈ li_ws := li_mem 1946 (by decide +kernel) (by decide +kernel)
theorem w_1947 : (Jvm.Cond.methodLink "ClockForTalkLaw" (168 : Nat) ({ cls := "ClockForTalkModel", name := "rate", desc := "()I" } : Jvm.MethodName)) ∈ li_ws := li_mem 1947 (by decide +kernel) (by decide +kernel)
theorem w_1948 : (Jvm.Cond.instanceMethod ({ cls := "ClockForTalkModel", name := "rate", desc := "()I" } : Jvm.MethodName)) ∈ li_ws := li_mem 1948 (by decide +kernel) (by decide +kernel)
theorem w_1949 : (Jvm.Cond.selects "ClockForTalkModel" ({ cls := "ClockForTalkModel", name := "rate", desc := "()I" } : Jvm.MethodName) ({ cls := "ClockForTalkModel", name := "rate", desc := "()I" } : Jvm.MethodName)) ∈ li_ws := li_mem 1949 (by decide +kernel) (by decide +kernel)
theorem w_1950 : (Jvm.Cond.code ({ cls := "ClockForTalkModel", name := "rate", desc := "()I" } : Jvm.MethodName) prog_13_method_101_code (6 : Nat) (Option.some Jvm.ClassFile.FieldType.int)) ∈ li_ws := li_mem 1950 (by decide +kernel) (by decide +kernel)
theorem w_1955 : (Jvm.Cond.methodLink "ClockForTalkLaw" (172 : Nat) ({ cls := "ClockForTalkModel", name := "run", desc := "(I)I" } : Jvm.MethodName)) ∈ li_ws := li_mem 1955 (by decide +kernel) (by decide +kernel)
theorem w_1956 : (Jvm.Cond.instanceMethod ({ cls := "ClockForTalkModel", name := "run", desc := "(I)I" } : Jvm.MethodName)) ∈ li_ws := li_mem 1956 (by decide +kernel) (by decide +kernel)
theorem w_1957 : (Jvm.Cond.selects "ClockForTalkModel" ({ cls := "ClockForTalkModel", name := "run", desc := "(I)I" } : Jvm.MethodName) ({ cls := "ClockForTalkModel", name := "run", desc := "(I)I" } : Jvm.MethodName)) ∈ li_ws := li_mem 1957 (by decide +kernel) (by decide +kernel)
theorem w_1958 : (Jvm.Cond.code ({ cls := "ClockForTalkModel", name := "run", desc := "(I)I" } : Jvm.MethodName) prog_13_method_102_code (5 : Nat) (Option.some Jvm.ClassFile.FieldType.int)) ∈ li_ws := li_mem 1958 (by decide +kernel) (by decide +kernel)
theorem w_1963 : (Jvm.Cond.methodLink "ClockForTalkLaw" (176 : Nat) ({ cls := "ClockForTalkModel", name := "years", desc := "(II)I" } : Jvm.MethodName)) ∈ li_ws := li_mem 1963 (by decide +kernel) (by decide +kernel)
theorem w_1964 : (Jvm.Cond.instanceMethod ({ cls := "ClockForTalkModel", name := "years", desc := "(II)I" } : Jvm.MethodName)) ∈ li_ws := li_mem 1964 (by decide +kernel) (by decide +kernel)
theorem w_1965 : (Jvm.Cond.selects "ClockForTalkModel" ({ cls := "ClockForTalkModel", name := "years", desc := "(II)I" } : Jvm.MethodName) ({ cls := "ClockForTalkModel", name := "years", desc := "(II)I" } : Jvm.MethodName)) ∈ li_ws := li_mem 1965 (by decide +kernel) (by decide +kernel)
theorem w_1966 : (Jvm.Cond.code ({ cls := "ClockForTalkModel", name := "years", desc := "(II)I" } : Jvm.MethodName) prog_13_method_104_code (9 : Nat) (Option.some Jvm.ClassFile.FieldType.int)) ∈ li_ws := li_mem 1966 (by decide +kernel) (by decide +kernel)
theorem w_1968 : (Jvm.Cond.methodLink "ClockForTalkLaw" (180 : Nat) ({ cls := "ClockForTalkModel", name := "keep", desc := "(I)Z" } : Jvm.MethodName)) ∈ li_ws := li_mem 1968 (by decide +kernel) (by decide +kernel)
theorem w_1969 : (Jvm.Cond.instanceMethod ({ cls := "ClockForTalkModel", name := "keep", desc := "(I)Z" } : Jvm.MethodName)) ∈ li_ws := li_mem 1969 (by decide +kernel) (by decide +kernel)
theorem w_1970 : (Jvm.Cond.selects "ClockForTalkModel" ({ cls := "ClockForTalkModel", name := "keep", desc := "(I)Z" } : Jvm.MethodName) ({ cls := "ClockForTalkModel", name := "keep", desc := "(I)Z" } : Jvm.MethodName)) ∈ li_ws := li_mem 1970 (by decide +kernel) (by decide +kernel)
theorem w_1971 : (Jvm.Cond.code ({ cls := "ClockForTalkModel", name := "keep", desc := "(I)Z" } : Jvm.MethodName) prog_13_method_105_code (2 : Nat) (Option.some Jvm.ClassFile.FieldType.boolean)) ∈ li_ws := li_mem 1971 (by decide +kernel) (by decide +kernel)
theorem w_1972 : (Jvm.Cond.methodLink "ClockForTalkLaw" (184 : Nat) ({ cls := "ClockForTalkModel", name := "again", desc := "(I)Z" } : Jvm.MethodName)) ∈ li_ws := li_mem 1972 (by decide +kernel) (by decide +kernel)
theorem w_1973 : (Jvm.Cond.instanceMethod ({ cls := "ClockForTalkModel", name := "again", desc := "(I)Z" } : Jvm.MethodName)) ∈ li_ws := li_mem 1973 (by decide +kernel) (by decide +kernel)
theorem w_1974 : (Jvm.Cond.selects "ClockForTalkModel" ({ cls := "ClockForTalkModel", name := "again", desc := "(I)Z" } : Jvm.MethodName) ({ cls := "ClockForTalkModel", name := "again", desc := "(I)Z" } : Jvm.MethodName)) ∈ li_ws := li_mem 1974 (by decide +kernel) (by decide +kernel)
theorem w_1975 : (Jvm.Cond.code ({ cls := "ClockForTalkModel", name := "again", desc := "(I)Z" } : Jvm.MethodName) prog_13_method_106_code (3 : Nat) (Option.some Jvm.ClassFile.FieldType.boolean)) ∈ li_ws := li_mem 1975 (by decide +kernel) (by decide +kernel)
theorem w_1976 : (Jvm.Cond.methodLink "ClockForTalkLaw" (188 : Nat) ({ cls := "ClockForTalkModel", name := "count", desc := "(I)I" } : Jvm.MethodName)) ∈ li_ws := li_mem 1976 (by decide +kernel) (by decide +kernel)
theorem w_1977 : (Jvm.Cond.instanceMethod ({ cls := "ClockForTalkModel", name := "count", desc := "(I)I" } : Jvm.MethodName)) ∈ li_ws := li_mem 1977 (by decide +kernel) (by decide +kernel)
theorem w_1978 : (Jvm.Cond.selects "ClockForTalkModel" ({ cls := "ClockForTalkModel", name := "count", desc := "(I)I" } : Jvm.MethodName) ({ cls := "ClockForTalkModel", name := "count", desc := "(I)I" } : Jvm.MethodName)) ∈ li_ws := li_mem 1978 (by decide +kernel) (by decide +kernel)
theorem w_1979 : (Jvm.Cond.code ({ cls := "ClockForTalkModel", name := "count", desc := "(I)I" } : Jvm.MethodName) prog_13_method_107_code (2 : Nat) (Option.some Jvm.ClassFile.FieldType.int)) ∈ li_ws := li_mem 1979 (by decide +kernel) (by decide +kernel)
theorem w_1980 : (Jvm.Cond.methodLink "ClockForTalkLaw" (192 : Nat) ({ cls := "ClockForTalkModel", name := "row", desc := "(I)I" } : Jvm.MethodName)) ∈ li_ws := li_mem 1980 (by decide +kernel) (by decide +kernel)
theorem w_1981 : (Jvm.Cond.instanceMethod ({ cls := "ClockForTalkModel", name := "row", desc := "(I)I" } : Jvm.MethodName)) ∈ li_ws := li_mem 1981 (by decide +kernel) (by decide +kernel)
theorem w_1982 : (Jvm.Cond.selects "ClockForTalkModel" ({ cls := "ClockForTalkModel", name := "row", desc := "(I)I" } : Jvm.MethodName) ({ cls := "ClockForTalkModel", name := "row", desc := "(I)I" } : Jvm.MethodName)) ∈ li_ws := li_mem 1982 (by decide +kernel) (by decide +kernel)
theorem w_1983 : (Jvm.Cond.code ({ cls := "ClockForTalkModel", name := "row", desc := "(I)I" } : Jvm.MethodName) prog_13_method_108_code (2 : Nat) (Option.some Jvm.ClassFile.FieldType.int)) ∈ li_ws := li_mem 1983 (by decide +kernel) (by decide +kernel)
set_option maxRecDepth 100000 in
set_option maxHeartbeats 4000000 in
theorem lc_0 {l : Launch} {Z : li_Z} {b L kc : Nat} {xs : Nat → Int32} {x4 : Int32} {M : li_M} {Q : Option Value → li_M → Prop} (htr : l.stackTraces = false) (hk : kc ≤ 512) (hJ : li_J M) (v1 : vp_in (x4 + 1) L) (v2 : vp_in (x4 + 2) L) (v3 : vp_in (x4 + 3) L) (v4 : vp_in (x4 + 4) L) (hR0 : (M.1 1 1).toInt = (M.1 175 7).toInt) (hR1 : (M.1 5 0).toInt = (M.1 175 1).toInt) (Pal_M : li_al (M.1 2) (M.1 180)) (Pst_M : li_st (M.1 6) (M.1 177) ((M.1 5 0).toInt)) (KK : ∀ (k : Nat) (M : li_M), li_J M → k ≤ kc + 1 → (M.1 1 1).toInt = (M.1 175 7).toInt → (M.1 5 0).toInt = (M.1 175 1).toInt → li_al (M.1 2) (M.1 180) → li_st (M.1 6) (M.1 177) ((M.1 5 0).toInt) → l3_T l Z b L xs k 1344 [(4, .int x4), (0, .ref b), (1, .ref (Z.2.2 0)), (2, .ref (Z.2.2 175)), (3, .ref (Z.2.2 204))] [] M Q) : l3_T l Z b L xs kc 212 [(4, .int x4), (0, .ref b), (1, .ref (Z.2.2 0)), (2, .ref (Z.2.2 175)), (3, .ref (Z.2.2 204))] [] M Q := by
  have rJ7 := J_sl7 (M := M) hJ
  have rJ1 := J_sl1 (M := M) hJ
  refine l3_aload_n 2 dL_law_212 rfl ?_
  refine l3_aload_n 1 dL_law_213 rfl ?_
  refine l3_iload 0 dL_law_214 rfl ?_
  refine l3_iconst 1 dL_law_216 (by decide) ?_
  refine l3_iadd dL_law_217 ?_
  refine l3_sld dL_law_218 v1 ?_
  refine l3_callV (n := 1) (As := [.int (xs (x4 + 1 : Int32).toNatClampNeg)]) (by omega) dL_law_219 (k6_X11_sign 1000 (by omega) (xs (x4 + 1 : Int32).toNatClampNeg) M (by omega)) (Nat.le_of_ble_eq_true rfl) (Nat.le_of_ble_eq_true rfl) w_513 w_514 w_515 w_101 w_516 (by decide +kernel) rfl (by decide) sh_0 rfl rfl (Nat.le_of_ble_eq_true rfl) (fun r M1 h1 => ?_)
  obtain ⟨⟨y1, rfl, ky1⟩, h1⟩ := h1
  have hJ := l3_J hJ h1 (fun i h => by first | exact (h : False).elim | omega)
  have oM1_175_7 : (M1.1 175 7).toInt = (M.1 175 7).toInt := tl_slot (congrFun (h1.1 175 (fun h => by first | exact (h : False).elim | omega)) 7)
  have oM1_5_0 : (M1.1 5 0).toInt = (M.1 5 0).toInt := tl_slot (congrFun (h1.1 5 (fun h => by first | exact (h : False).elim | omega)) 0)
  have oM1_175_1 : (M1.1 175 1).toInt = (M.1 175 1).toInt := tl_slot (congrFun (h1.1 175 (fun h => by first | exact (h : False).elim | omega)) 1)
  have Pst_M1 : li_st (M1.1 6) (M1.1 177) ((M1.1 5 0).toInt) := li_st_mv (h1.1 6 (fun h => by first | exact (h : False).elim | omega)) (h1.1 177 (fun h => by first | exact (h : False).elim | omega)) (by omega) Pst_M
  refine l3_pop dL_law_222 rfl ?_
  refine l3_aload_n 3 dL_law_223 rfl ?_
  refine l3_aload_n 1 dL_law_224 rfl ?_
  refine l3_iload 0 dL_law_225 rfl ?_
  refine l3_iconst 1 dL_law_227 (by decide) ?_
  refine l3_iadd dL_law_228 ?_
  refine l3_sld dL_law_229 v1 ?_
  refine l3_callV (n := 1) (As := [.int (xs (x4 + 1 : Int32).toNatClampNeg)]) (by omega) dL_law_230 (k6_X12_sign 1000 (by omega) (xs (x4 + 1 : Int32).toNatClampNeg) M1 hJ ) (Nat.le_of_ble_eq_true rfl) (Nat.le_of_ble_eq_true rfl) w_1562 w_1563 w_1564 w_112 w_1565 (by decide +kernel) rfl (by decide) sh_175 rfl rfl (Nat.le_of_ble_eq_true rfl) (fun r M2 h2 => ?_)
  have jh2 := h2
  obtain ⟨⟨y2, rfl, ky2⟩, h2⟩ := h2
  have hJ := h2.2
  have oM2_1_1 : (M2.1 1 1).toInt = (M1.1 1 1).toInt := tl_slot (h2.1.1 1 1 (fun h => by first | exact (h : False).elim | omega))
  have oM2_5_0 : (M2.1 5 0).toInt = (M1.1 5 0).toInt := tl_slot (h2.1.1 5 0 (fun h => by first | exact (h : False).elim | omega))
  have oM2_175_1 : (M2.1 175 1).toInt = (M1.1 175 1).toInt := tl_slot (h2.1.1 175 1 (fun h => by first | exact (h : False).elim | omega))
  have Pal_M2 : li_al (M2.1 2) (M2.1 180) := li_al_sign Pal_M (li_sx_tr (funext fun i => h2.1.1 2 i (fun h => by first | exact (h : False).elim | omega)) rfl rfl rfl ky1.2) (by omega) (li_rx_tr rfl ((h1.1 180 (fun h => by first | exact (h : False).elim | omega)).symm) rfl rfl ky2.2)
  have Pst_M2 : li_st (M2.1 6) (M2.1 177) ((M2.1 5 0).toInt) := li_st_mv (funext fun i => h2.1.1 6 i (fun h => by first | exact (h : False).elim | omega)) (funext fun i => h2.1.1 177 i (fun h => by first | exact (h : False).elim | omega)) (by omega) Pst_M1
  refine l3_pop dL_law_233 rfl ?_
  refine l3_goto 1344 dL_law_234 (by decide) ?_
  exact KK _ M2 hJ (by omega) (by omega) (by omega) Pal_M2 Pst_M2
set_option maxRecDepth 100000 in
set_option maxHeartbeats 4000000 in
theorem lc_1 {l : Launch} {Z : li_Z} {b L kc : Nat} {xs : Nat → Int32} {x4 : Int32} {M : li_M} {Q : Option Value → li_M → Prop} (htr : l.stackTraces = false) (hk : kc ≤ 512) (hJ : li_J M) (v1 : vp_in (x4 + 1) L) (v2 : vp_in (x4 + 2) L) (v3 : vp_in (x4 + 3) L) (v4 : vp_in (x4 + 4) L) (hR0 : (M.1 1 1).toInt = (M.1 175 7).toInt) (hR1 : (M.1 5 0).toInt = (M.1 175 1).toInt) (Pal_M : li_al (M.1 2) (M.1 180)) (Pst_M : li_st (M.1 6) (M.1 177) ((M.1 5 0).toInt)) (KK : ∀ (k : Nat) (M : li_M), li_J M → k ≤ kc + 1 → (M.1 1 1).toInt = (M.1 175 7).toInt → (M.1 5 0).toInt = (M.1 175 1).toInt → li_al (M.1 2) (M.1 180) → li_st (M.1 6) (M.1 177) ((M.1 5 0).toInt) → l3_T l Z b L xs k 1344 [(4, .int x4), (0, .ref b), (1, .ref (Z.2.2 0)), (2, .ref (Z.2.2 175)), (3, .ref (Z.2.2 204))] [] M Q) : l3_T l Z b L xs kc 237 [(4, .int x4), (0, .ref b), (1, .ref (Z.2.2 0)), (2, .ref (Z.2.2 175)), (3, .ref (Z.2.2 204))] [] M Q := by
  have rJ7 := J_sl7 (M := M) hJ
  have rJ1 := J_sl1 (M := M) hJ
  refine l3_aload_n 2 dL_law_237 rfl ?_
  refine l3_aload_n 1 dL_law_238 rfl ?_
  refine l3_iload 0 dL_law_239 rfl ?_
  refine l3_iconst 1 dL_law_241 (by decide) ?_
  refine l3_iadd dL_law_242 ?_
  refine l3_sld dL_law_243 v1 ?_
  refine l3_callV (n := 1) (As := [.int (xs (x4 + 1 : Int32).toNatClampNeg)]) (by omega) dL_law_244 (k3_X11_end 1000 (by omega) (xs (x4 + 1 : Int32).toNatClampNeg) M) (Nat.le_of_ble_eq_true rfl) (Nat.le_of_ble_eq_true rfl) w_524 w_525 w_526 w_101 w_527 (by decide +kernel) rfl (by decide) sh_0 rfl rfl (Nat.le_of_ble_eq_true rfl) (fun r M1 h1 => ?_)
  obtain ⟨⟨y1, rfl, -, ky1⟩, h1⟩ := h1
  have hJ := l3_J hJ h1 (fun i h => by first | exact (h : False).elim | omega)
  have oM1_175_7 : (M1.1 175 7).toInt = (M.1 175 7).toInt := tl_slot (congrFun (h1.1 175 (fun h => by first | exact (h : False).elim | omega)) 7)
  have oM1_5_0 : (M1.1 5 0).toInt = (M.1 5 0).toInt := tl_slot (congrFun (h1.1 5 (fun h => by first | exact (h : False).elim | omega)) 0)
  have oM1_175_1 : (M1.1 175 1).toInt = (M.1 175 1).toInt := tl_slot (congrFun (h1.1 175 (fun h => by first | exact (h : False).elim | omega)) 1)
  have Pal_M1 : li_al (M1.1 2) (M1.1 180) := li_al_mv (h1.1 2 (fun h => by first | exact (h : False).elim | omega)) (h1.1 180 (fun h => by first | exact (h : False).elim | omega)) Pal_M
  have Pst_M1 : li_st (M1.1 6) (M1.1 177) ((M1.1 5 0).toInt) := li_st_mv (h1.1 6 (fun h => by first | exact (h : False).elim | omega)) (h1.1 177 (fun h => by first | exact (h : False).elim | omega)) (by omega) Pst_M
  refine l3_pop dL_law_247 rfl ?_
  refine l3_aload_n 3 dL_law_248 rfl ?_
  refine l3_aload_n 1 dL_law_249 rfl ?_
  refine l3_iload 0 dL_law_250 rfl ?_
  refine l3_iconst 1 dL_law_252 (by decide) ?_
  refine l3_iadd dL_law_253 ?_
  refine l3_sld dL_law_254 v1 ?_
  refine l3_callV (n := 1) (As := [.int (xs (x4 + 1 : Int32).toNatClampNeg)]) (by omega) dL_law_255 (k_X12_end 1000 (by omega) (xs (x4 + 1 : Int32).toNatClampNeg) M1 hJ ) (Nat.le_of_ble_eq_true rfl) (Nat.le_of_ble_eq_true rfl) w_1566 w_1567 w_1568 w_112 w_1569 (by decide +kernel) rfl (by decide) sh_175 rfl rfl (Nat.le_of_ble_eq_true rfl) (fun r M2 h2 => ?_)
  rcases h2 with ⟨⟨rfl, ky2⟩ | ⟨rfl, ky2⟩, h2, hJ⟩
  · skip
    have oM2_1_1 : (M2.1 1 1).toInt = (M1.1 1 1).toInt := tl_slot (h2.1 1 1 (fun h => by first | exact (h : False).elim | omega))
    have oM2_5_0 : (M2.1 5 0).toInt = (M1.1 5 0).toInt := tl_slot (h2.1 5 0 (fun h => by first | exact (h : False).elim | omega))
    have oM2_175_1 : (M2.1 175 1).toInt = (M1.1 175 1).toInt := tl_slot (h2.1 175 1 (fun h => by first | exact (h : False).elim | omega))
    have Pal_M2 : li_al (M2.1 2) (M2.1 180) := li_al_mv (funext fun i => h2.1 2 i (fun h => by first | exact (h : False).elim | omega)) (funext fun i => h2.1 180 i (fun h => by first | exact (h : False).elim | omega)) Pal_M1
    have Pst_M2 : li_st (M2.1 6) (M2.1 177) ((M2.1 5 0).toInt) := li_st_mv (funext fun i => h2.1 6 i (fun h => by first | exact (h : False).elim | omega)) (funext fun i => h2.1 177 i (fun h => by first | exact (h : False).elim | omega)) (by omega) Pst_M1
    refine l3_pop dL_law_258 rfl ?_
    refine l3_goto 1344 dL_law_259 (by decide) ?_
    exact KK _ M2 hJ (by omega) (by omega) (by omega) Pal_M2 Pst_M2
  · skip
    have oM2_1_1 : (M2.1 1 1).toInt = (M1.1 1 1).toInt := tl_slot (h2.1 1 1 (fun h => by first | exact (h : False).elim | omega))
    have oM2_5_0 : (M2.1 5 0).toInt = (M1.1 5 0).toInt := tl_slot (h2.1 5 0 (fun h => by first | exact (h : False).elim | omega))
    have oM2_175_1 : (M2.1 175 1).toInt = (M1.1 175 1).toInt := tl_slot (h2.1 175 1 (fun h => by first | exact (h : False).elim | omega))
    have Pal_M2 : li_al (M2.1 2) (M2.1 180) := li_al_mv (funext fun i => h2.1 2 i (fun h => by first | exact (h : False).elim | omega)) (funext fun i => h2.1 180 i (fun h => by first | exact (h : False).elim | omega)) Pal_M1
    have Pst_M2 : li_st (M2.1 6) (M2.1 177) ((M2.1 5 0).toInt) := li_st_mv (funext fun i => h2.1 6 i (fun h => by first | exact (h : False).elim | omega)) (funext fun i => h2.1 177 i (fun h => by first | exact (h : False).elim | omega)) (by omega) Pst_M1
    refine l3_pop dL_law_258 rfl ?_
    refine l3_goto 1344 dL_law_259 (by decide) ?_
    exact KK _ M2 hJ (by omega) (by omega) (by omega) Pal_M2 Pst_M2
set_option maxRecDepth 100000 in
set_option maxHeartbeats 4000000 in
theorem lc_2 {l : Launch} {Z : li_Z} {b L kc : Nat} {xs : Nat → Int32} {x4 : Int32} {M : li_M} {Q : Option Value → li_M → Prop} (htr : l.stackTraces = false) (hk : kc ≤ 512) (hJ : li_J M) (v1 : vp_in (x4 + 1) L) (v2 : vp_in (x4 + 2) L) (v3 : vp_in (x4 + 3) L) (v4 : vp_in (x4 + 4) L) (hR0 : (M.1 1 1).toInt = (M.1 175 7).toInt) (hR1 : (M.1 5 0).toInt = (M.1 175 1).toInt) (Pal_M : li_al (M.1 2) (M.1 180)) (Pst_M : li_st (M.1 6) (M.1 177) ((M.1 5 0).toInt)) (KK : ∀ (k : Nat) (M : li_M), li_J M → k ≤ kc + 1 → (M.1 1 1).toInt = (M.1 175 7).toInt → (M.1 5 0).toInt = (M.1 175 1).toInt → li_al (M.1 2) (M.1 180) → li_st (M.1 6) (M.1 177) ((M.1 5 0).toInt) → l3_T l Z b L xs k 1344 [(4, .int x4), (0, .ref b), (1, .ref (Z.2.2 0)), (2, .ref (Z.2.2 175)), (3, .ref (Z.2.2 204))] [] M Q) : l3_T l Z b L xs kc 262 [(4, .int x4), (0, .ref b), (1, .ref (Z.2.2 0)), (2, .ref (Z.2.2 175)), (3, .ref (Z.2.2 204))] [] M Q := by
  have rJ7 := J_sl7 (M := M) hJ
  have rJ1 := J_sl1 (M := M) hJ
  refine l3_aload_n 2 dL_law_262 rfl ?_
  obtain ⟨OK, QQ, MM, pq1⟩ : ∃ a b c, li_pq (M.1 2) ((M.1 1 1).toInt) (6 - (M.1 5 0).toInt) 0 0 a b c := li_pq_self
  obtain ⟨ok, q0, m0, pq2⟩ : ∃ a b c, li_pq (M.1 2) (min (M.1 1 1).toInt 76) (6 - (M.1 5 0).toInt) 0 0 a b c := li_pq_self
  have two := rd_two (by omega) (by omega) pq1 pq2
  refine l3_callV (n := 0) (As := []) (by omega) dL_law_263 (k8_X11_people 1000 (by omega) M (by omega) (li_al_sg Pal_M) (by omega) OK QQ MM pq1 _ rfl _ rfl) (Nat.le_of_ble_eq_true rfl) (Nat.le_of_ble_eq_true rfl) w_532 w_533 w_534 w_101 w_535 (by decide +kernel) rfl (by decide) sh_0 rfl rfl (Nat.le_of_ble_eq_true rfl) (fun r M1 h1 => ?_)
  obtain ⟨⟨y1, rfl, ky1⟩, h1⟩ := h1
  have hJ := l3_J hJ h1 (fun i h => by first | exact (h : False).elim | omega)
  have oM1_175_7 : (M1.1 175 7).toInt = (M.1 175 7).toInt := tl_slot (congrFun (h1.1 175 (fun h => by first | exact (h : False).elim | omega)) 7)
  have oM1_175_1 : (M1.1 175 1).toInt = (M.1 175 1).toInt := tl_slot (congrFun (h1.1 175 (fun h => by first | exact (h : False).elim | omega)) 1)
  have Pal_M1 : li_al (M1.1 2) (M1.1 180) := li_al_mv (h1.1 2 (fun h => by first | exact (h : False).elim | omega)) (h1.1 180 (fun h => by first | exact (h : False).elim | omega)) Pal_M
  refine l3_pop dL_law_266 rfl ?_
  refine l3_aload_n 3 dL_law_267 rfl ?_
  refine l3_callV (n := 0) (As := []) (by omega) dL_law_268 (k8_X12_people 1000 (by omega) M1 hJ ((M1.1 175 7).toInt) ((M1.1 175 1).toInt) rfl rfl ok q0 m0 (li_pq_tr ((congrArg li_by (h1.1 180 (fun h => by first | exact (h : False).elim | omega))).trans (li_al_by Pal_M).symm) (by omega) (by omega) rfl rfl rfl rfl rfl pq2) _ rfl _ rfl) (Nat.le_of_ble_eq_true rfl) (Nat.le_of_ble_eq_true rfl) w_1573 w_1574 w_1575 w_112 w_1576 (by decide +kernel) rfl (by decide) sh_175 rfl rfl (Nat.le_of_ble_eq_true rfl) (fun r M2 h2 => ?_)
  have jh2 := h2
  obtain ⟨⟨y2, rfl, ky2⟩, h2⟩ := h2
  have hJ := h2.2.1
  have nh2 := h2.2.2
  have oM2_1_1 : (M2.1 1 1).toInt = (M1.1 1 1).toInt := tl_slot (h2.1.1 1 1 (fun h => by first | exact (h : False).elim | omega))
  have oM2_5_0 : (M2.1 5 0).toInt = (M1.1 5 0).toInt := tl_slot (h2.1.1 5 0 (fun h => by first | exact (h : False).elim | omega))
  have Pal_M2 : li_al (M2.1 2) (M2.1 180) := li_al_mv (funext fun i => h2.1.1 2 i (fun h => by first | exact (h : False).elim | omega)) (funext fun i => h2.1.1 180 i (fun h => by first | exact (h : False).elim | omega)) Pal_M1
  have Pst_M2 : li_st (M2.1 6) (M2.1 177) ((M2.1 5 0).toInt) := li_st_add Pst_M (li_ss_tr (funext fun i => h2.1.1 6 i (fun h => by first | exact (h : False).elim | omega)) rfl rfl rfl rfl (Int.le_refl _) ky1.2) (li_ss_tr rfl (h1.1 177 (fun h => by first | exact (h : False).elim | omega)).symm (((congrArg li_by (h1.1 180 (fun h => by first | exact (h : False).elim | omega))).trans (li_al_by Pal_M).symm).symm) rfl (by omega) (Int.le_refl _) ky2.2) (by omega) (by omega) (by have r9 := J_sl1 (M := M2) hJ; omega) (by omega) (fun h9 => ⟨rfl, by omega⟩)
  refine l3_pop dL_law_271 rfl ?_
  refine l3_goto 1344 dL_law_272 (by decide) ?_
  exact KK _ M2 hJ (by omega) (by omega) (by omega) Pal_M2 Pst_M2
set_option maxRecDepth 100000 in
set_option maxHeartbeats 4000000 in
theorem lc_3 {l : Launch} {Z : li_Z} {b L kc : Nat} {xs : Nat → Int32} {x4 : Int32} {M : li_M} {Q : Option Value → li_M → Prop} (htr : l.stackTraces = false) (hk : kc ≤ 512) (hJ : li_J M) (v1 : vp_in (x4 + 1) L) (v2 : vp_in (x4 + 2) L) (v3 : vp_in (x4 + 3) L) (v4 : vp_in (x4 + 4) L) (hR0 : (M.1 1 1).toInt = (M.1 175 7).toInt) (hR1 : (M.1 5 0).toInt = (M.1 175 1).toInt) (Pal_M : li_al (M.1 2) (M.1 180)) (Pst_M : li_st (M.1 6) (M.1 177) ((M.1 5 0).toInt)) (KK : ∀ (k : Nat) (M : li_M), li_J M → k ≤ kc + 1 → (M.1 1 1).toInt = (M.1 175 7).toInt → (M.1 5 0).toInt = (M.1 175 1).toInt → li_al (M.1 2) (M.1 180) → li_st (M.1 6) (M.1 177) ((M.1 5 0).toInt) → l3_T l Z b L xs k 1344 [(4, .int x4), (0, .ref b), (1, .ref (Z.2.2 0)), (2, .ref (Z.2.2 175)), (3, .ref (Z.2.2 204))] [] M Q) : l3_T l Z b L xs kc 275 [(4, .int x4), (0, .ref b), (1, .ref (Z.2.2 0)), (2, .ref (Z.2.2 175)), (3, .ref (Z.2.2 204))] [] M Q := by
  have rJ7 := J_sl7 (M := M) hJ
  have rJ1 := J_sl1 (M := M) hJ
  refine l3_aload_n 2 dL_law_275 rfl ?_
  refine l3_callV (n := 0) (As := []) (by omega) dL_law_276 (k9_X11_things 1000 (by omega)  M) (Nat.le_of_ble_eq_true rfl) (Nat.le_of_ble_eq_true rfl) w_739 w_740 w_741 w_101 w_742 (by decide +kernel) rfl (by decide) sh_0 rfl rfl (Nat.le_of_ble_eq_true rfl) (fun r M1 h1 => ?_)
  obtain ⟨⟨y1, rfl, ky1⟩, h1⟩ := h1
  have hJ := l3_J hJ h1 (fun i h => by first | exact (h : False).elim | omega)
  have oM1_175_7 : (M1.1 175 7).toInt = (M.1 175 7).toInt := tl_slot (congrFun (h1.1 175 (fun h => by first | exact (h : False).elim | omega)) 7)
  have oM1_175_1 : (M1.1 175 1).toInt = (M.1 175 1).toInt := tl_slot (congrFun (h1.1 175 (fun h => by first | exact (h : False).elim | omega)) 1)
  have Pal_M1 : li_al (M1.1 2) (M1.1 180) := li_al_mv (h1.1 2 (fun h => by first | exact (h : False).elim | omega)) (h1.1 180 (fun h => by first | exact (h : False).elim | omega)) Pal_M
  have Pst_M1 : li_st (M1.1 6) (M1.1 177) ((M1.1 5 0).toInt) := li_st_mv (h1.1 6 (fun h => by first | exact (h : False).elim | omega)) (h1.1 177 (fun h => by first | exact (h : False).elim | omega)) (by omega) Pst_M
  refine l3_pop dL_law_279 rfl ?_
  refine l3_aload_n 3 dL_law_280 rfl ?_
  refine l3_callV (n := 0) (As := []) (by omega) dL_law_281 (k3_X12_things 1000 (by omega)  M1 hJ ) (Nat.le_of_ble_eq_true rfl) (Nat.le_of_ble_eq_true rfl) w_1609 w_1610 w_1611 w_112 w_1612 (by decide +kernel) rfl (by decide) sh_175 rfl rfl (Nat.le_of_ble_eq_true rfl) (fun r M2 h2 => ?_)
  have jh2 := h2
  obtain ⟨⟨y2, rfl⟩, h2⟩ := h2
  have hJ := h2.2.1
  have nh2 := h2.2.2
  have oM2_1_1 : (M2.1 1 1).toInt = (M1.1 1 1).toInt := tl_slot (h2.1.1 1 1 (fun h => by first | exact (h : False).elim | omega))
  have oM2_5_0 : (M2.1 5 0).toInt = (M1.1 5 0).toInt := tl_slot (h2.1.1 5 0 (fun h => by first | exact (h : False).elim | omega))
  have oM2_175_1 : (M2.1 175 1).toInt = (M1.1 175 1).toInt := tl_slot (h2.1.1 175 1 (fun h => by first | exact (h : False).elim | omega))
  have Pal_M2 : li_al (M2.1 2) (M2.1 180) := li_al_mv (funext fun i => h2.1.1 2 i (fun h => by first | exact (h : False).elim | omega)) (funext fun i => h2.1.1 180 i (fun h => by first | exact (h : False).elim | omega)) Pal_M1
  have Pst_M2 : li_st (M2.1 6) (M2.1 177) ((M2.1 5 0).toInt) := li_st_mv (funext fun i => h2.1.1 6 i (fun h => by first | exact (h : False).elim | omega)) (funext fun i => h2.1.1 177 i (fun h => by first | exact (h : False).elim | omega)) (by omega) Pst_M1
  refine l3_pop dL_law_284 rfl ?_
  refine l3_goto 1344 dL_law_285 (by decide) ?_
  exact KK _ M2 hJ (by omega) (by omega) (by omega) Pal_M2 Pst_M2
set_option maxRecDepth 100000 in
set_option maxHeartbeats 4000000 in
theorem lc_4 {l : Launch} {Z : li_Z} {b L kc : Nat} {xs : Nat → Int32} {x4 : Int32} {M : li_M} {Q : Option Value → li_M → Prop} (htr : l.stackTraces = false) (hk : kc ≤ 512) (hJ : li_J M) (v1 : vp_in (x4 + 1) L) (v2 : vp_in (x4 + 2) L) (v3 : vp_in (x4 + 3) L) (v4 : vp_in (x4 + 4) L) (hR0 : (M.1 1 1).toInt = (M.1 175 7).toInt) (hR1 : (M.1 5 0).toInt = (M.1 175 1).toInt) (Pal_M : li_al (M.1 2) (M.1 180)) (Pst_M : li_st (M.1 6) (M.1 177) ((M.1 5 0).toInt)) (KK : ∀ (k : Nat) (M : li_M), li_J M → k ≤ kc + 1 → (M.1 1 1).toInt = (M.1 175 7).toInt → (M.1 5 0).toInt = (M.1 175 1).toInt → li_al (M.1 2) (M.1 180) → li_st (M.1 6) (M.1 177) ((M.1 5 0).toInt) → l3_T l Z b L xs k 1344 [(4, .int x4), (0, .ref b), (1, .ref (Z.2.2 0)), (2, .ref (Z.2.2 175)), (3, .ref (Z.2.2 204))] [] M Q) : l3_T l Z b L xs kc 288 [(4, .int x4), (0, .ref b), (1, .ref (Z.2.2 0)), (2, .ref (Z.2.2 175)), (3, .ref (Z.2.2 204))] [] M Q := by
  have rJ7 := J_sl7 (M := M) hJ
  have rJ1 := J_sl1 (M := M) hJ
  refine l3_aload_n 2 dL_law_288 rfl ?_
  refine l3_callV (n := 0) (As := []) (by omega) dL_law_289 (k9_X11_rule 1000 (by omega)  M) (Nat.le_of_ble_eq_true rfl) (Nat.le_of_ble_eq_true rfl) w_743 w_744 w_745 w_101 w_746 (by decide +kernel) rfl (by decide) sh_0 rfl rfl (Nat.le_of_ble_eq_true rfl) (fun r M1 h1 => ?_)
  obtain ⟨⟨y1, rfl, ky1⟩, h1⟩ := h1
  have hJ := l3_J hJ h1 (fun i h => by first | exact (h : False).elim | omega)
  have oM1_175_7 : (M1.1 175 7).toInt = (M.1 175 7).toInt := tl_slot (congrFun (h1.1 175 (fun h => by first | exact (h : False).elim | omega)) 7)
  have oM1_5_0 : (M1.1 5 0).toInt = (M.1 5 0).toInt := tl_slot (congrFun (h1.1 5 (fun h => by first | exact (h : False).elim | omega)) 0)
  have oM1_175_1 : (M1.1 175 1).toInt = (M.1 175 1).toInt := tl_slot (congrFun (h1.1 175 (fun h => by first | exact (h : False).elim | omega)) 1)
  have Pal_M1 : li_al (M1.1 2) (M1.1 180) := li_al_mv (h1.1 2 (fun h => by first | exact (h : False).elim | omega)) (h1.1 180 (fun h => by first | exact (h : False).elim | omega)) Pal_M
  have Pst_M1 : li_st (M1.1 6) (M1.1 177) ((M1.1 5 0).toInt) := li_st_mv (h1.1 6 (fun h => by first | exact (h : False).elim | omega)) (h1.1 177 (fun h => by first | exact (h : False).elim | omega)) (by omega) Pst_M
  refine l3_pop dL_law_292 rfl ?_
  refine l3_aload_n 3 dL_law_293 rfl ?_
  refine l3_callV (n := 0) (As := []) (by omega) dL_law_294 (k3_X12_rule 1000 (by omega)  M1 hJ ) (Nat.le_of_ble_eq_true rfl) (Nat.le_of_ble_eq_true rfl) w_1617 w_1618 w_1619 w_112 w_1620 (by decide +kernel) rfl (by decide) sh_175 rfl rfl (Nat.le_of_ble_eq_true rfl) (fun r M2 h2 => ?_)
  have jh2 := h2
  obtain ⟨⟨y2, rfl⟩, h2⟩ := h2
  have hJ := h2.2.1
  have nh2 := h2.2.2
  have oM2_1_1 : (M2.1 1 1).toInt = (M1.1 1 1).toInt := tl_slot (h2.1.1 1 1 (fun h => by first | exact (h : False).elim | omega))
  have oM2_5_0 : (M2.1 5 0).toInt = (M1.1 5 0).toInt := tl_slot (h2.1.1 5 0 (fun h => by first | exact (h : False).elim | omega))
  have oM2_175_1 : (M2.1 175 1).toInt = (M1.1 175 1).toInt := tl_slot (h2.1.1 175 1 (fun h => by first | exact (h : False).elim | omega))
  have Pal_M2 : li_al (M2.1 2) (M2.1 180) := li_al_mv (funext fun i => h2.1.1 2 i (fun h => by first | exact (h : False).elim | omega)) (funext fun i => h2.1.1 180 i (fun h => by first | exact (h : False).elim | omega)) Pal_M1
  have Pst_M2 : li_st (M2.1 6) (M2.1 177) ((M2.1 5 0).toInt) := li_st_mv (funext fun i => h2.1.1 6 i (fun h => by first | exact (h : False).elim | omega)) (funext fun i => h2.1.1 177 i (fun h => by first | exact (h : False).elim | omega)) (by omega) Pst_M1
  refine l3_pop dL_law_297 rfl ?_
  refine l3_goto 1344 dL_law_298 (by decide) ?_
  exact KK _ M2 hJ (by omega) (by omega) (by omega) Pal_M2 Pst_M2
set_option maxRecDepth 100000 in
set_option maxHeartbeats 4000000 in
theorem lc_5 {l : Launch} {Z : li_Z} {b L kc : Nat} {xs : Nat → Int32} {x4 : Int32} {M : li_M} {Q : Option Value → li_M → Prop} (htr : l.stackTraces = false) (hk : kc ≤ 512) (hJ : li_J M) (v1 : vp_in (x4 + 1) L) (v2 : vp_in (x4 + 2) L) (v3 : vp_in (x4 + 3) L) (v4 : vp_in (x4 + 4) L) (hR0 : (M.1 1 1).toInt = (M.1 175 7).toInt) (hR1 : (M.1 5 0).toInt = (M.1 175 1).toInt) (Pal_M : li_al (M.1 2) (M.1 180)) (Pst_M : li_st (M.1 6) (M.1 177) ((M.1 5 0).toInt)) (KK : ∀ (k : Nat) (M : li_M), li_J M → k ≤ kc + 1 → (M.1 1 1).toInt = (M.1 175 7).toInt → (M.1 5 0).toInt = (M.1 175 1).toInt → li_al (M.1 2) (M.1 180) → li_st (M.1 6) (M.1 177) ((M.1 5 0).toInt) → l3_T l Z b L xs k 1344 [(4, .int x4), (0, .ref b), (1, .ref (Z.2.2 0)), (2, .ref (Z.2.2 175)), (3, .ref (Z.2.2 204))] [] M Q) : l3_T l Z b L xs kc 301 [(4, .int x4), (0, .ref b), (1, .ref (Z.2.2 0)), (2, .ref (Z.2.2 175)), (3, .ref (Z.2.2 204))] [] M Q := by
  have rJ7 := J_sl7 (M := M) hJ
  have rJ1 := J_sl1 (M := M) hJ
  refine l3_aload_n 2 dL_law_301 rfl ?_
  refine l3_aload_n 1 dL_law_302 rfl ?_
  refine l3_iload 0 dL_law_303 rfl ?_
  refine l3_iconst 1 dL_law_305 (by decide) ?_
  refine l3_iadd dL_law_306 ?_
  refine l3_sld dL_law_307 v1 ?_
  refine l3_aload_n 1 dL_law_308 rfl ?_
  refine l3_iload 0 dL_law_309 rfl ?_
  refine l3_iconst 2 dL_law_311 (by decide) ?_
  refine l3_iadd dL_law_312 ?_
  refine l3_sld dL_law_313 v2 ?_
  refine l3_aload_n 4 dL_law_314 rfl ?_
  refine l3_callH (n := 4) (As := [.ref (Z.2.2 0), .int (xs (x4 + 1 : Int32).toNatClampNeg), .int (xs (x4 + 2 : Int32).toNatClampNeg), .ref (Z.2.2 204)]) (by omega) dL_law_315 (lh_person htr (xs (x4 + 1 : Int32).toNatClampNeg) (xs (x4 + 2 : Int32).toNatClampNeg) M) (Nat.le_of_ble_eq_true rfl) w_1295 w_1296 w_100 w_1297 (by decide +kernel) rfl rfl (Nat.le_of_ble_eq_true rfl) (fun r M1 h1 => ?_)
  obtain ⟨⟨y1, rfl⟩, h1⟩ := h1
  have hJ := l3_J hJ h1 (fun i h => by omega)
  have oM1_1_1 : (M1.1 1 1).toInt = (M.1 1 1).toInt := tl_slot (congrFun (h1.1 1 (fun h => by first | exact (h : False).elim | omega)) 1)
  have oM1_175_7 : (M1.1 175 7).toInt = (M.1 175 7).toInt := tl_slot (congrFun (h1.1 175 (fun h => by first | exact (h : False).elim | omega)) 7)
  have oM1_5_0 : (M1.1 5 0).toInt = (M.1 5 0).toInt := tl_slot (congrFun (h1.1 5 (fun h => by first | exact (h : False).elim | omega)) 0)
  have oM1_175_1 : (M1.1 175 1).toInt = (M.1 175 1).toInt := tl_slot (congrFun (h1.1 175 (fun h => by first | exact (h : False).elim | omega)) 1)
  have Pal_M1 : li_al (M1.1 2) (M1.1 180) := li_al_mv (h1.1 2 (fun h => by first | exact (h : False).elim | omega)) (h1.1 180 (fun h => by first | exact (h : False).elim | omega)) Pal_M
  have Pst_M1 : li_st (M1.1 6) (M1.1 177) ((M1.1 5 0).toInt) := li_st_mv (h1.1 6 (fun h => by first | exact (h : False).elim | omega)) (h1.1 177 (fun h => by first | exact (h : False).elim | omega)) (by omega) Pst_M
  refine l3_istore [(5, .int y1), (4, .int x4), (0, .ref b), (1, .ref (Z.2.2 0)), (2, .ref (Z.2.2 175)), (3, .ref (Z.2.2 204))] dL_law_318 (by decide) rfl ?_
  refine l3_aload_n 4 dL_law_320 rfl ?_
  refine l3_aload_n 2 dL_law_321 rfl ?_
  refine l3_iload 1 dL_law_322 rfl ?_
  refine l3_iconst 1 dL_law_324 (by decide) ?_
  refine l3_iadd dL_law_325 ?_
  refine l3_sld dL_law_326 v1 ?_
  refine l3_aload_n 2 dL_law_327 rfl ?_
  refine l3_iload 1 dL_law_328 rfl ?_
  refine l3_iconst 2 dL_law_330 (by decide) ?_
  refine l3_iadd dL_law_331 ?_
  refine l3_sld dL_law_332 v2 ?_
  refine l3_callV (n := 2) (As := [.int (xs (x4 + 1 : Int32).toNatClampNeg), .int (xs (x4 + 2 : Int32).toNatClampNeg)]) (by omega) dL_law_333 (k_X12_person 1000 (by omega) (xs (x4 + 1 : Int32).toNatClampNeg) (xs (x4 + 2 : Int32).toNatClampNeg) M1 hJ ) (Nat.le_of_ble_eq_true rfl) (Nat.le_of_ble_eq_true rfl) w_1644 w_1645 w_1646 w_112 w_1647 (by decide +kernel) rfl (by decide) sh_175 rfl rfl (Nat.le_of_ble_eq_true rfl) (fun r M2 h2 => ?_)
  have jh2 := h2
  obtain ⟨y2, rfl⟩ : ∃ y : Int32, r = some (.int y) := by first | exact ⟨_, h2.1.choose_spec⟩ | exact ⟨_, h2.1.choose_spec.1⟩ | (rcases h2.1 with ⟨e, -⟩ | ⟨e, -⟩ <;> exact ⟨_, e⟩)
  have hJ : li_J M2 := by first | exact h2.2.2 | exact h2.2.2.1
  have oM2_1_1 : (M2.1 1 1).toInt = (M1.1 1 1).toInt := tl_slot (h2.2.1.1 1 1 (fun h => by first | exact (h : False).elim | omega))
  have oM2_175_7 : (M2.1 175 7).toInt = (M1.1 175 7).toInt := tl_slot (h2.2.1.1 175 7 (fun h => by first | exact (h : False).elim | omega))
  have oM2_5_0 : (M2.1 5 0).toInt = (M1.1 5 0).toInt := tl_slot (h2.2.1.1 5 0 (fun h => by first | exact (h : False).elim | omega))
  have oM2_175_1 : (M2.1 175 1).toInt = (M1.1 175 1).toInt := tl_slot (h2.2.1.1 175 1 (fun h => by first | exact (h : False).elim | omega))
  have Pal_M2 : li_al (M2.1 2) (M2.1 180) := li_al_mv (funext fun i => h2.2.1.1 2 i (fun h => by first | exact (h : False).elim | omega)) (funext fun i => h2.2.1.1 180 i (fun h => by first | exact (h : False).elim | omega)) Pal_M1
  have Pst_M2 : li_st (M2.1 6) (M2.1 177) ((M2.1 5 0).toInt) := li_st_mv (funext fun i => h2.2.1.1 6 i (fun h => by first | exact (h : False).elim | omega)) (funext fun i => h2.2.1.1 177 i (fun h => by first | exact (h : False).elim | omega)) (by omega) Pst_M1
  refine l3_istore [(6, .int y2), (5, .int y1), (4, .int x4), (0, .ref b), (1, .ref (Z.2.2 0)), (2, .ref (Z.2.2 175)), (3, .ref (Z.2.2 204))] dL_law_336 (by decide) rfl ?_
  refine l3_goto 1344 dL_law_338 (by decide) ?_
  refine l3_pick [2, 3, 4, 5, 6] [(4, .int x4), (0, .ref b), (1, .ref (Z.2.2 0)), (2, .ref (Z.2.2 175)), (3, .ref (Z.2.2 204))] rfl ?_
  exact KK _ M2 hJ (by omega) (by omega) (by omega) Pal_M2 Pst_M2
set_option maxRecDepth 100000 in
set_option maxHeartbeats 4000000 in
theorem lc_6 {l : Launch} {Z : li_Z} {b L kc : Nat} {xs : Nat → Int32} {x4 : Int32} {M : li_M} {Q : Option Value → li_M → Prop} (htr : l.stackTraces = false) (hk : kc ≤ 512) (hJ : li_J M) (v1 : vp_in (x4 + 1) L) (v2 : vp_in (x4 + 2) L) (v3 : vp_in (x4 + 3) L) (v4 : vp_in (x4 + 4) L) (hR0 : (M.1 1 1).toInt = (M.1 175 7).toInt) (hR1 : (M.1 5 0).toInt = (M.1 175 1).toInt) (Pal_M : li_al (M.1 2) (M.1 180)) (Pst_M : li_st (M.1 6) (M.1 177) ((M.1 5 0).toInt)) (KK : ∀ (k : Nat) (M : li_M), li_J M → k ≤ kc + 1 → (M.1 1 1).toInt = (M.1 175 7).toInt → (M.1 5 0).toInt = (M.1 175 1).toInt → li_al (M.1 2) (M.1 180) → li_st (M.1 6) (M.1 177) ((M.1 5 0).toInt) → l3_T l Z b L xs k 1344 [(4, .int x4), (0, .ref b), (1, .ref (Z.2.2 0)), (2, .ref (Z.2.2 175)), (3, .ref (Z.2.2 204))] [] M Q) : l3_T l Z b L xs kc 341 [(4, .int x4), (0, .ref b), (1, .ref (Z.2.2 0)), (2, .ref (Z.2.2 175)), (3, .ref (Z.2.2 204))] [] M Q := by
  have rJ7 := J_sl7 (M := M) hJ
  have rJ1 := J_sl1 (M := M) hJ
  refine l3_aload_n 2 dL_law_341 rfl ?_
  refine l3_aload_n 1 dL_law_342 rfl ?_
  refine l3_iload 0 dL_law_343 rfl ?_
  refine l3_iconst 1 dL_law_345 (by decide) ?_
  refine l3_iadd dL_law_346 ?_
  refine l3_sld dL_law_347 v1 ?_
  refine l3_aload_n 1 dL_law_348 rfl ?_
  refine l3_iload 0 dL_law_349 rfl ?_
  refine l3_iconst 2 dL_law_351 (by decide) ?_
  refine l3_iadd dL_law_352 ?_
  refine l3_sld dL_law_353 v2 ?_
  refine l3_aload_n 4 dL_law_354 rfl ?_
  refine l3_callH (n := 4) (As := [.ref (Z.2.2 0), .int (xs (x4 + 1 : Int32).toNatClampNeg), .int (xs (x4 + 2 : Int32).toNatClampNeg), .ref (Z.2.2 204)]) (by omega) dL_law_355 (lh_thing htr (xs (x4 + 1 : Int32).toNatClampNeg) (xs (x4 + 2 : Int32).toNatClampNeg) M) (Nat.le_of_ble_eq_true rfl) w_1371 w_1372 w_100 w_1373 (by decide +kernel) rfl rfl (Nat.le_of_ble_eq_true rfl) (fun r M1 h1 => ?_)
  obtain ⟨⟨y1, rfl⟩, h1⟩ := h1
  have hJ := l3_J hJ h1 (fun i h => by omega)
  have oM1_1_1 : (M1.1 1 1).toInt = (M.1 1 1).toInt := tl_slot (congrFun (h1.1 1 (fun h => by first | exact (h : False).elim | omega)) 1)
  have oM1_175_7 : (M1.1 175 7).toInt = (M.1 175 7).toInt := tl_slot (congrFun (h1.1 175 (fun h => by first | exact (h : False).elim | omega)) 7)
  have oM1_5_0 : (M1.1 5 0).toInt = (M.1 5 0).toInt := tl_slot (congrFun (h1.1 5 (fun h => by first | exact (h : False).elim | omega)) 0)
  have oM1_175_1 : (M1.1 175 1).toInt = (M.1 175 1).toInt := tl_slot (congrFun (h1.1 175 (fun h => by first | exact (h : False).elim | omega)) 1)
  have Pal_M1 : li_al (M1.1 2) (M1.1 180) := li_al_mv (h1.1 2 (fun h => by first | exact (h : False).elim | omega)) (h1.1 180 (fun h => by first | exact (h : False).elim | omega)) Pal_M
  have Pst_M1 : li_st (M1.1 6) (M1.1 177) ((M1.1 5 0).toInt) := li_st_mv (h1.1 6 (fun h => by first | exact (h : False).elim | omega)) (h1.1 177 (fun h => by first | exact (h : False).elim | omega)) (by omega) Pst_M
  refine l3_istore [(5, .int y1), (4, .int x4), (0, .ref b), (1, .ref (Z.2.2 0)), (2, .ref (Z.2.2 175)), (3, .ref (Z.2.2 204))] dL_law_358 (by decide) rfl ?_
  refine l3_aload_n 4 dL_law_360 rfl ?_
  refine l3_aload_n 2 dL_law_361 rfl ?_
  refine l3_iload 1 dL_law_362 rfl ?_
  refine l3_iconst 1 dL_law_364 (by decide) ?_
  refine l3_iadd dL_law_365 ?_
  refine l3_sld dL_law_366 v1 ?_
  refine l3_aload_n 2 dL_law_367 rfl ?_
  refine l3_iload 1 dL_law_368 rfl ?_
  refine l3_iconst 2 dL_law_370 (by decide) ?_
  refine l3_iadd dL_law_371 ?_
  refine l3_sld dL_law_372 v2 ?_
  refine l3_callV (n := 2) (As := [.int (xs (x4 + 1 : Int32).toNatClampNeg), .int (xs (x4 + 2 : Int32).toNatClampNeg)]) (by omega) dL_law_373 (k_X12_thing 1000 (by omega) (xs (x4 + 1 : Int32).toNatClampNeg) (xs (x4 + 2 : Int32).toNatClampNeg) M1 hJ ) (Nat.le_of_ble_eq_true rfl) (Nat.le_of_ble_eq_true rfl) w_1660 w_1661 w_1662 w_112 w_1663 (by decide +kernel) rfl (by decide) sh_175 rfl rfl (Nat.le_of_ble_eq_true rfl) (fun r M2 h2 => ?_)
  have jh2 := h2
  obtain ⟨y2, rfl⟩ : ∃ y : Int32, r = some (.int y) := by first | exact ⟨_, h2.1.choose_spec⟩ | exact ⟨_, h2.1.choose_spec.1⟩ | (rcases h2.1 with ⟨e, -⟩ | ⟨e, -⟩ <;> exact ⟨_, e⟩)
  have hJ : li_J M2 := by first | exact h2.2.2 | exact h2.2.2.1
  have oM2_1_1 : (M2.1 1 1).toInt = (M1.1 1 1).toInt := tl_slot (h2.2.1.1 1 1 (fun h => by first | exact (h : False).elim | omega))
  have oM2_175_7 : (M2.1 175 7).toInt = (M1.1 175 7).toInt := tl_slot (h2.2.1.1 175 7 (fun h => by first | exact (h : False).elim | omega))
  have oM2_5_0 : (M2.1 5 0).toInt = (M1.1 5 0).toInt := tl_slot (h2.2.1.1 5 0 (fun h => by first | exact (h : False).elim | omega))
  have oM2_175_1 : (M2.1 175 1).toInt = (M1.1 175 1).toInt := tl_slot (h2.2.1.1 175 1 (fun h => by first | exact (h : False).elim | omega))
  have Pal_M2 : li_al (M2.1 2) (M2.1 180) := li_al_mv (funext fun i => h2.2.1.1 2 i (fun h => by first | exact (h : False).elim | omega)) (funext fun i => h2.2.1.1 180 i (fun h => by first | exact (h : False).elim | omega)) Pal_M1
  have Pst_M2 : li_st (M2.1 6) (M2.1 177) ((M2.1 5 0).toInt) := li_st_mv (funext fun i => h2.2.1.1 6 i (fun h => by first | exact (h : False).elim | omega)) (funext fun i => h2.2.1.1 177 i (fun h => by first | exact (h : False).elim | omega)) (by omega) Pst_M1
  refine l3_istore [(6, .int y2), (5, .int y1), (4, .int x4), (0, .ref b), (1, .ref (Z.2.2 0)), (2, .ref (Z.2.2 175)), (3, .ref (Z.2.2 204))] dL_law_376 (by decide) rfl ?_
  refine l3_goto 1344 dL_law_378 (by decide) ?_
  refine l3_pick [2, 3, 4, 5, 6] [(4, .int x4), (0, .ref b), (1, .ref (Z.2.2 0)), (2, .ref (Z.2.2 175)), (3, .ref (Z.2.2 204))] rfl ?_
  exact KK _ M2 hJ (by omega) (by omega) (by omega) Pal_M2 Pst_M2
set_option maxRecDepth 100000 in
set_option maxHeartbeats 4000000 in
theorem lc_7 {l : Launch} {Z : li_Z} {b L kc : Nat} {xs : Nat → Int32} {x4 : Int32} {M : li_M} {Q : Option Value → li_M → Prop} (htr : l.stackTraces = false) (hk : kc ≤ 512) (hJ : li_J M) (v1 : vp_in (x4 + 1) L) (v2 : vp_in (x4 + 2) L) (v3 : vp_in (x4 + 3) L) (v4 : vp_in (x4 + 4) L) (hR0 : (M.1 1 1).toInt = (M.1 175 7).toInt) (hR1 : (M.1 5 0).toInt = (M.1 175 1).toInt) (Pal_M : li_al (M.1 2) (M.1 180)) (Pst_M : li_st (M.1 6) (M.1 177) ((M.1 5 0).toInt)) (KK : ∀ (k : Nat) (M : li_M), li_J M → k ≤ kc + 1 → (M.1 1 1).toInt = (M.1 175 7).toInt → (M.1 5 0).toInt = (M.1 175 1).toInt → li_al (M.1 2) (M.1 180) → li_st (M.1 6) (M.1 177) ((M.1 5 0).toInt) → l3_T l Z b L xs k 1344 [(4, .int x4), (0, .ref b), (1, .ref (Z.2.2 0)), (2, .ref (Z.2.2 175)), (3, .ref (Z.2.2 204))] [] M Q) : l3_T l Z b L xs kc 381 [(4, .int x4), (0, .ref b), (1, .ref (Z.2.2 0)), (2, .ref (Z.2.2 175)), (3, .ref (Z.2.2 204))] [] M Q := by
  have rJ7 := J_sl7 (M := M) hJ
  have rJ1 := J_sl1 (M := M) hJ
  refine l3_aload_n 2 dL_law_381 rfl ?_
  refine l3_aload_n 1 dL_law_382 rfl ?_
  refine l3_iload 0 dL_law_383 rfl ?_
  refine l3_iconst 1 dL_law_385 (by decide) ?_
  refine l3_iadd dL_law_386 ?_
  refine l3_sld dL_law_387 v1 ?_
  refine l3_aload_n 1 dL_law_388 rfl ?_
  refine l3_iload 0 dL_law_389 rfl ?_
  refine l3_iconst 2 dL_law_391 (by decide) ?_
  refine l3_iadd dL_law_392 ?_
  refine l3_sld dL_law_393 v2 ?_
  refine l3_aload_n 4 dL_law_394 rfl ?_
  refine l3_callH (n := 4) (As := [.ref (Z.2.2 0), .int (xs (x4 + 1 : Int32).toNatClampNeg), .int (xs (x4 + 2 : Int32).toNatClampNeg), .ref (Z.2.2 204)]) (by omega) dL_law_395 (lh_loan htr (xs (x4 + 1 : Int32).toNatClampNeg) (xs (x4 + 2 : Int32).toNatClampNeg) M) (Nat.le_of_ble_eq_true rfl) w_1380 w_1381 w_100 w_1382 (by decide +kernel) rfl rfl (Nat.le_of_ble_eq_true rfl) (fun r M1 h1 => ?_)
  obtain ⟨⟨y1, rfl⟩, h1⟩ := h1
  have hJ := l3_J hJ h1 (fun i h => by omega)
  have oM1_1_1 : (M1.1 1 1).toInt = (M.1 1 1).toInt := tl_slot (congrFun (h1.1 1 (fun h => by first | exact (h : False).elim | omega)) 1)
  have oM1_175_7 : (M1.1 175 7).toInt = (M.1 175 7).toInt := tl_slot (congrFun (h1.1 175 (fun h => by first | exact (h : False).elim | omega)) 7)
  have oM1_5_0 : (M1.1 5 0).toInt = (M.1 5 0).toInt := tl_slot (congrFun (h1.1 5 (fun h => by first | exact (h : False).elim | omega)) 0)
  have oM1_175_1 : (M1.1 175 1).toInt = (M.1 175 1).toInt := tl_slot (congrFun (h1.1 175 (fun h => by first | exact (h : False).elim | omega)) 1)
  have Pal_M1 : li_al (M1.1 2) (M1.1 180) := li_al_mv (h1.1 2 (fun h => by first | exact (h : False).elim | omega)) (h1.1 180 (fun h => by first | exact (h : False).elim | omega)) Pal_M
  have Pst_M1 : li_st (M1.1 6) (M1.1 177) ((M1.1 5 0).toInt) := li_st_mv (h1.1 6 (fun h => by first | exact (h : False).elim | omega)) (h1.1 177 (fun h => by first | exact (h : False).elim | omega)) (by omega) Pst_M
  refine l3_istore [(5, .int y1), (4, .int x4), (0, .ref b), (1, .ref (Z.2.2 0)), (2, .ref (Z.2.2 175)), (3, .ref (Z.2.2 204))] dL_law_398 (by decide) rfl ?_
  refine l3_aload_n 4 dL_law_400 rfl ?_
  refine l3_aload_n 2 dL_law_401 rfl ?_
  refine l3_iload 1 dL_law_402 rfl ?_
  refine l3_iconst 1 dL_law_404 (by decide) ?_
  refine l3_iadd dL_law_405 ?_
  refine l3_sld dL_law_406 v1 ?_
  refine l3_aload_n 2 dL_law_407 rfl ?_
  refine l3_iload 1 dL_law_408 rfl ?_
  refine l3_iconst 2 dL_law_410 (by decide) ?_
  refine l3_iadd dL_law_411 ?_
  refine l3_sld dL_law_412 v2 ?_
  refine l3_callV (n := 2) (As := [.int (xs (x4 + 1 : Int32).toNatClampNeg), .int (xs (x4 + 2 : Int32).toNatClampNeg)]) (by omega) dL_law_413 (k_X12_loan 1000 (by omega) (xs (x4 + 1 : Int32).toNatClampNeg) (xs (x4 + 2 : Int32).toNatClampNeg) M1 hJ ) (Nat.le_of_ble_eq_true rfl) (Nat.le_of_ble_eq_true rfl) w_1702 w_1703 w_1704 w_112 w_1705 (by decide +kernel) rfl (by decide) sh_175 rfl rfl (Nat.le_of_ble_eq_true rfl) (fun r M2 h2 => ?_)
  have jh2 := h2
  obtain ⟨y2, rfl⟩ : ∃ y : Int32, r = some (.int y) := by first | exact ⟨_, h2.1.choose_spec⟩ | exact ⟨_, h2.1.choose_spec.1⟩ | (rcases h2.1 with ⟨e, -⟩ | ⟨e, -⟩ <;> exact ⟨_, e⟩)
  have hJ : li_J M2 := by first | exact h2.2.2 | exact h2.2.2.1
  have oM2_1_1 : (M2.1 1 1).toInt = (M1.1 1 1).toInt := tl_slot (h2.2.1.1 1 1 (fun h => by first | exact (h : False).elim | omega))
  have oM2_175_7 : (M2.1 175 7).toInt = (M1.1 175 7).toInt := tl_slot (h2.2.1.1 175 7 (fun h => by first | exact (h : False).elim | omega))
  have oM2_5_0 : (M2.1 5 0).toInt = (M1.1 5 0).toInt := tl_slot (h2.2.1.1 5 0 (fun h => by first | exact (h : False).elim | omega))
  have oM2_175_1 : (M2.1 175 1).toInt = (M1.1 175 1).toInt := tl_slot (h2.2.1.1 175 1 (fun h => by first | exact (h : False).elim | omega))
  have Pal_M2 : li_al (M2.1 2) (M2.1 180) := li_al_mv (funext fun i => h2.2.1.1 2 i (fun h => by first | exact (h : False).elim | omega)) (funext fun i => h2.2.1.1 180 i (fun h => by first | exact (h : False).elim | omega)) Pal_M1
  have Pst_M2 : li_st (M2.1 6) (M2.1 177) ((M2.1 5 0).toInt) := li_st_mv (funext fun i => h2.2.1.1 6 i (fun h => by first | exact (h : False).elim | omega)) (funext fun i => h2.2.1.1 177 i (fun h => by first | exact (h : False).elim | omega)) (by omega) Pst_M1
  refine l3_istore [(6, .int y2), (5, .int y1), (4, .int x4), (0, .ref b), (1, .ref (Z.2.2 0)), (2, .ref (Z.2.2 175)), (3, .ref (Z.2.2 204))] dL_law_416 (by decide) rfl ?_
  refine l3_goto 1344 dL_law_418 (by decide) ?_
  refine l3_pick [2, 3, 4, 5, 6] [(4, .int x4), (0, .ref b), (1, .ref (Z.2.2 0)), (2, .ref (Z.2.2 175)), (3, .ref (Z.2.2 204))] rfl ?_
  exact KK _ M2 hJ (by omega) (by omega) (by omega) Pal_M2 Pst_M2
set_option maxRecDepth 100000 in
set_option maxHeartbeats 4000000 in
theorem lc_8 {l : Launch} {Z : li_Z} {b L kc : Nat} {xs : Nat → Int32} {x4 : Int32} {M : li_M} {Q : Option Value → li_M → Prop} (htr : l.stackTraces = false) (hk : kc ≤ 512) (hJ : li_J M) (v1 : vp_in (x4 + 1) L) (v2 : vp_in (x4 + 2) L) (v3 : vp_in (x4 + 3) L) (v4 : vp_in (x4 + 4) L) (hR0 : (M.1 1 1).toInt = (M.1 175 7).toInt) (hR1 : (M.1 5 0).toInt = (M.1 175 1).toInt) (Pal_M : li_al (M.1 2) (M.1 180)) (Pst_M : li_st (M.1 6) (M.1 177) ((M.1 5 0).toInt)) (KK : ∀ (k : Nat) (M : li_M), li_J M → k ≤ kc + 1 → (M.1 1 1).toInt = (M.1 175 7).toInt → (M.1 5 0).toInt = (M.1 175 1).toInt → li_al (M.1 2) (M.1 180) → li_st (M.1 6) (M.1 177) ((M.1 5 0).toInt) → l3_T l Z b L xs k 1344 [(4, .int x4), (0, .ref b), (1, .ref (Z.2.2 0)), (2, .ref (Z.2.2 175)), (3, .ref (Z.2.2 204))] [] M Q) : l3_T l Z b L xs kc 421 [(4, .int x4), (0, .ref b), (1, .ref (Z.2.2 0)), (2, .ref (Z.2.2 175)), (3, .ref (Z.2.2 204))] [] M Q := by
  have rJ7 := J_sl7 (M := M) hJ
  have rJ1 := J_sl1 (M := M) hJ
  refine l3_aload_n 2 dL_law_421 rfl ?_
  refine l3_aload_n 1 dL_law_422 rfl ?_
  refine l3_iload 0 dL_law_423 rfl ?_
  refine l3_iconst 1 dL_law_425 (by decide) ?_
  refine l3_iadd dL_law_426 ?_
  refine l3_sld dL_law_427 v1 ?_
  refine l3_aload_n 1 dL_law_428 rfl ?_
  refine l3_iload 0 dL_law_429 rfl ?_
  refine l3_iconst 2 dL_law_431 (by decide) ?_
  refine l3_iadd dL_law_432 ?_
  refine l3_sld dL_law_433 v2 ?_
  refine l3_callV (n := 2) (As := [.int (xs (x4 + 1 : Int32).toNatClampNeg), .int (xs (x4 + 2 : Int32).toNatClampNeg)]) (by omega) dL_law_434 (k8_X11_move 1000 (by omega) (xs (x4 + 1 : Int32).toNatClampNeg) (xs (x4 + 2 : Int32).toNatClampNeg) M (by omega) _ rfl) (Nat.le_of_ble_eq_true rfl) (Nat.le_of_ble_eq_true rfl) w_754 w_755 w_756 w_101 w_757 (by decide +kernel) rfl (by decide) sh_0 rfl rfl (Nat.le_of_ble_eq_true rfl) (fun r M1 h1 => ?_)
  obtain ⟨⟨y1, rfl, ky1⟩, h1⟩ := h1
  have hJ := l3_J hJ h1 (fun i h => by first | exact (h : False).elim | omega)
  have oM1_1_1 : (M1.1 1 1).toInt = (M.1 1 1).toInt := tl_slot (congrFun (h1.1 1 (fun h => by first | exact (h : False).elim | omega)) 1)
  have oM1_175_7 : (M1.1 175 7).toInt = (M.1 175 7).toInt := tl_slot (congrFun (h1.1 175 (fun h => by first | exact (h : False).elim | omega)) 7)
  have oM1_5_0 : (M1.1 5 0).toInt = (M.1 5 0).toInt := tl_slot (congrFun (h1.1 5 (fun h => by first | exact (h : False).elim | omega)) 0)
  have oM1_175_1 : (M1.1 175 1).toInt = (M.1 175 1).toInt := tl_slot (congrFun (h1.1 175 (fun h => by first | exact (h : False).elim | omega)) 1)
  have Pal_M1 : li_al (M1.1 2) (M1.1 180) := li_al_mv (h1.1 2 (fun h => by first | exact (h : False).elim | omega)) (h1.1 180 (fun h => by first | exact (h : False).elim | omega)) Pal_M
  have i2 : 0 ≤ (xs (x4 + 1 : Int32).toNatClampNeg).toInt → (xs (x4 + 1 : Int32).toNatClampNeg).toInt < (M.1 5 0).toInt → (M.1 6 ((xs (x4 + 1 : Int32).toNatClampNeg)).toNatClampNeg).toInt = (M1.1 177 ((xs (x4 + 1 : Int32).toNatClampNeg)).toNatClampNeg).toInt := fun a b => by rw [h1.1 177 (fun h => by first | exact (h : False).elim | omega)]; exact tl_slot (Pst_M _ (by have := li_cl a; omega))
  refine l3_aload_n 3 dL_law_437 rfl ?_
  refine l3_aload_n 1 dL_law_438 rfl ?_
  refine l3_iload 0 dL_law_439 rfl ?_
  refine l3_iconst 1 dL_law_441 (by decide) ?_
  refine l3_iadd dL_law_442 ?_
  refine l3_sld dL_law_443 v1 ?_
  refine l3_aload_n 1 dL_law_444 rfl ?_
  refine l3_iload 0 dL_law_445 rfl ?_
  refine l3_iconst 2 dL_law_447 (by decide) ?_
  refine l3_iadd dL_law_448 ?_
  refine l3_sld dL_law_449 v2 ?_
  refine l3_callV (n := 2) (As := [.int (xs (x4 + 1 : Int32).toNatClampNeg), .int (xs (x4 + 2 : Int32).toNatClampNeg)]) (by omega) dL_law_450 (k8_X12_move 1000 (by omega) (xs (x4 + 1 : Int32).toNatClampNeg) (xs (x4 + 2 : Int32).toNatClampNeg) M1 hJ _ rfl) (Nat.le_of_ble_eq_true rfl) (Nat.le_of_ble_eq_true rfl) w_1706 w_1707 w_1708 w_112 w_1709 (by decide +kernel) rfl (by decide) sh_175 rfl rfl (Nat.le_of_ble_eq_true rfl) (fun r M2 h2 => ?_)
  have jh2 := h2
  obtain ⟨⟨y2, rfl, ky2⟩, h2⟩ := h2
  have hJ := h2.2
  have oM2_1_1 : (M2.1 1 1).toInt = (M1.1 1 1).toInt := tl_slot (h2.1.1 1 1 (fun h => by first | exact (h : False).elim | omega))
  have oM2_175_7 : (M2.1 175 7).toInt = (M1.1 175 7).toInt := tl_slot (h2.1.1 175 7 (fun h => by first | exact (h : False).elim | omega))
  have oM2_5_0 : (M2.1 5 0).toInt = (M1.1 5 0).toInt := tl_slot (h2.1.1 5 0 (fun h => by first | exact (h : False).elim | omega))
  have oM2_175_1 : (M2.1 175 1).toInt = (M1.1 175 1).toInt := tl_slot (h2.1.1 175 1 (fun h => by first | exact (h : False).elim | omega))
  have Pal_M2 : li_al (M2.1 2) (M2.1 180) := li_al_mv (funext fun i => h2.1.1 2 i (fun h => by first | exact (h : False).elim | omega)) (funext fun i => h2.1.1 180 i (fun h => by first | exact (h : False).elim | omega)) Pal_M1
  have Pst_M2 : li_st (M2.1 6) (M2.1 177) ((M2.1 5 0).toInt) := li_st_mo Pst_M (show li_mo (M2.1 6) (M.1 6) (xs (x4 + 1 : Int32).toNatClampNeg) (xs (x4 + 2 : Int32).toNatClampNeg) ((M.1 5 0).toInt) by rw [show M2.1 6 = M1.1 6 from funext fun i => h2.1.1 6 i (fun h => by first | exact (h : False).elim | omega)]; exact ky1.2) (show li_mo (M2.1 177) (M.1 177) (xs (x4 + 1 : Int32).toNatClampNeg) (xs (x4 + 2 : Int32).toNatClampNeg) ((M1.1 175 1).toInt) by rw [← h1.1 177 (fun h => by first | exact (h : False).elim | omega)]; exact ky2.2) (by omega) (by omega)
  refine l3_icmp_eq 1344 dL_law_453 (by decide) (fun c => ?_) (fun c => absurd (Int32.toInt_inj.mp (show (y1 : Int32).toInt = (y2 : Int32).toInt by omega)) c)
  exact KK _ M2 hJ (by omega) (by omega) (by omega) Pal_M2 Pst_M2
set_option maxRecDepth 100000 in
set_option maxHeartbeats 4000000 in
theorem lc_9 {l : Launch} {Z : li_Z} {b L kc : Nat} {xs : Nat → Int32} {x4 : Int32} {M : li_M} {Q : Option Value → li_M → Prop} (htr : l.stackTraces = false) (hk : kc ≤ 512) (hJ : li_J M) (v1 : vp_in (x4 + 1) L) (v2 : vp_in (x4 + 2) L) (v3 : vp_in (x4 + 3) L) (v4 : vp_in (x4 + 4) L) (hR0 : (M.1 1 1).toInt = (M.1 175 7).toInt) (hR1 : (M.1 5 0).toInt = (M.1 175 1).toInt) (Pal_M : li_al (M.1 2) (M.1 180)) (Pst_M : li_st (M.1 6) (M.1 177) ((M.1 5 0).toInt)) (KK : ∀ (k : Nat) (M : li_M), li_J M → k ≤ kc + 1 → (M.1 1 1).toInt = (M.1 175 7).toInt → (M.1 5 0).toInt = (M.1 175 1).toInt → li_al (M.1 2) (M.1 180) → li_st (M.1 6) (M.1 177) ((M.1 5 0).toInt) → l3_T l Z b L xs k 1344 [(4, .int x4), (0, .ref b), (1, .ref (Z.2.2 0)), (2, .ref (Z.2.2 175)), (3, .ref (Z.2.2 204))] [] M Q) : l3_T l Z b L xs kc 458 [(4, .int x4), (0, .ref b), (1, .ref (Z.2.2 0)), (2, .ref (Z.2.2 175)), (3, .ref (Z.2.2 204))] [] M Q := by
  have rJ7 := J_sl7 (M := M) hJ
  have rJ1 := J_sl1 (M := M) hJ
  refine l3_aload_n 2 dL_law_458 rfl ?_
  refine l3_aload_n 1 dL_law_459 rfl ?_
  refine l3_iload 0 dL_law_460 rfl ?_
  refine l3_iconst 1 dL_law_462 (by decide) ?_
  refine l3_iadd dL_law_463 ?_
  refine l3_sld dL_law_464 v1 ?_
  refine l3_aload_n 1 dL_law_465 rfl ?_
  refine l3_iload 0 dL_law_466 rfl ?_
  refine l3_iconst 2 dL_law_468 (by decide) ?_
  refine l3_iadd dL_law_469 ?_
  refine l3_sld dL_law_470 v2 ?_
  refine l3_aload_n 1 dL_law_471 rfl ?_
  refine l3_iload 0 dL_law_472 rfl ?_
  refine l3_iconst 3 dL_law_474 (by decide) ?_
  refine l3_iadd dL_law_475 ?_
  refine l3_sld dL_law_476 v3 ?_
  refine l3_aload_n 1 dL_law_477 rfl ?_
  refine l3_iload 0 dL_law_478 rfl ?_
  refine l3_iconst 4 dL_law_480 (by decide) ?_
  refine l3_iadd dL_law_481 ?_
  refine l3_sld dL_law_482 v4 ?_
  refine l3_callV (n := 4) (As := [.int (xs (x4 + 1 : Int32).toNatClampNeg), .int (xs (x4 + 2 : Int32).toNatClampNeg), .int (xs (x4 + 3 : Int32).toNatClampNeg), .int (xs (x4 + 4 : Int32).toNatClampNeg)]) (by omega) dL_law_483 (k_X11_sheet 1000 (by omega) (xs (x4 + 1 : Int32).toNatClampNeg) (xs (x4 + 2 : Int32).toNatClampNeg) (xs (x4 + 3 : Int32).toNatClampNeg) (xs (x4 + 4 : Int32).toNatClampNeg) M) (Nat.le_of_ble_eq_true rfl) (Nat.le_of_ble_eq_true rfl) w_764 w_765 w_766 w_101 w_767 (by decide +kernel) rfl (by decide) sh_0 rfl rfl (Nat.le_of_ble_eq_true rfl) (fun r M1 h1 => ?_)
  obtain ⟨⟨y1, rfl⟩, h1⟩ := h1
  have hJ := l3_J hJ h1 (fun i h => by first | exact (h : False).elim | omega)
  have oM1_1_1 : (M1.1 1 1).toInt = (M.1 1 1).toInt := tl_slot (congrFun (h1.1 1 (fun h => by first | exact (h : False).elim | omega)) 1)
  have oM1_175_7 : (M1.1 175 7).toInt = (M.1 175 7).toInt := tl_slot (congrFun (h1.1 175 (fun h => by first | exact (h : False).elim | omega)) 7)
  have oM1_5_0 : (M1.1 5 0).toInt = (M.1 5 0).toInt := tl_slot (congrFun (h1.1 5 (fun h => by first | exact (h : False).elim | omega)) 0)
  have oM1_175_1 : (M1.1 175 1).toInt = (M.1 175 1).toInt := tl_slot (congrFun (h1.1 175 (fun h => by first | exact (h : False).elim | omega)) 1)
  have Pal_M1 : li_al (M1.1 2) (M1.1 180) := li_al_mv (h1.1 2 (fun h => by first | exact (h : False).elim | omega)) (h1.1 180 (fun h => by first | exact (h : False).elim | omega)) Pal_M
  have Pst_M1 : li_st (M1.1 6) (M1.1 177) ((M1.1 5 0).toInt) := li_st_mv (h1.1 6 (fun h => by first | exact (h : False).elim | omega)) (h1.1 177 (fun h => by first | exact (h : False).elim | omega)) (by omega) Pst_M
  refine l3_pop dL_law_486 rfl ?_
  refine l3_aload_n 3 dL_law_487 rfl ?_
  refine l3_aload_n 1 dL_law_488 rfl ?_
  refine l3_iload 0 dL_law_489 rfl ?_
  refine l3_iconst 1 dL_law_491 (by decide) ?_
  refine l3_iadd dL_law_492 ?_
  refine l3_sld dL_law_493 v1 ?_
  refine l3_aload_n 1 dL_law_494 rfl ?_
  refine l3_iload 0 dL_law_495 rfl ?_
  refine l3_iconst 2 dL_law_497 (by decide) ?_
  refine l3_iadd dL_law_498 ?_
  refine l3_sld dL_law_499 v2 ?_
  refine l3_aload_n 1 dL_law_500 rfl ?_
  refine l3_iload 0 dL_law_501 rfl ?_
  refine l3_iconst 3 dL_law_503 (by decide) ?_
  refine l3_iadd dL_law_504 ?_
  refine l3_sld dL_law_505 v3 ?_
  refine l3_aload_n 1 dL_law_506 rfl ?_
  refine l3_iload 0 dL_law_507 rfl ?_
  refine l3_iconst 4 dL_law_509 (by decide) ?_
  refine l3_iadd dL_law_510 ?_
  refine l3_sld dL_law_511 v4 ?_
  refine l3_callV (n := 4) (As := [.int (xs (x4 + 1 : Int32).toNatClampNeg), .int (xs (x4 + 2 : Int32).toNatClampNeg), .int (xs (x4 + 3 : Int32).toNatClampNeg), .int (xs (x4 + 4 : Int32).toNatClampNeg)]) (by omega) dL_law_512 (k_X12_sheet 1000 (by omega) (xs (x4 + 1 : Int32).toNatClampNeg) (xs (x4 + 2 : Int32).toNatClampNeg) (xs (x4 + 3 : Int32).toNatClampNeg) (xs (x4 + 4 : Int32).toNatClampNeg) M1 hJ ) (Nat.le_of_ble_eq_true rfl) (Nat.le_of_ble_eq_true rfl) w_1710 w_1711 w_1712 w_112 w_1713 (by decide +kernel) rfl (by decide) sh_175 rfl rfl (Nat.le_of_ble_eq_true rfl) (fun r M2 h2 => ?_)
  have jh2 := h2
  obtain ⟨y2, rfl⟩ : ∃ y : Int32, r = some (.int y) := by first | exact ⟨_, h2.1.choose_spec⟩ | exact ⟨_, h2.1.choose_spec.1⟩ | (rcases h2.1 with ⟨e, -⟩ | ⟨e, -⟩ <;> exact ⟨_, e⟩)
  have hJ : li_J M2 := by first | exact h2.2.2 | exact h2.2.2.1
  have oM2_1_1 : (M2.1 1 1).toInt = (M1.1 1 1).toInt := tl_slot (h2.2.1.1 1 1 (fun h => by first | exact (h : False).elim | omega))
  have oM2_175_7 : (M2.1 175 7).toInt = (M1.1 175 7).toInt := tl_slot (h2.2.1.1 175 7 (fun h => by first | exact (h : False).elim | omega))
  have oM2_5_0 : (M2.1 5 0).toInt = (M1.1 5 0).toInt := tl_slot (h2.2.1.1 5 0 (fun h => by first | exact (h : False).elim | omega))
  have oM2_175_1 : (M2.1 175 1).toInt = (M1.1 175 1).toInt := tl_slot (h2.2.1.1 175 1 (fun h => by first | exact (h : False).elim | omega))
  have Pal_M2 : li_al (M2.1 2) (M2.1 180) := li_al_mv (funext fun i => h2.2.1.1 2 i (fun h => by first | exact (h : False).elim | omega)) (funext fun i => h2.2.1.1 180 i (fun h => by first | exact (h : False).elim | omega)) Pal_M1
  have Pst_M2 : li_st (M2.1 6) (M2.1 177) ((M2.1 5 0).toInt) := li_st_mv (funext fun i => h2.2.1.1 6 i (fun h => by first | exact (h : False).elim | omega)) (funext fun i => h2.2.1.1 177 i (fun h => by first | exact (h : False).elim | omega)) (by omega) Pst_M1
  refine l3_pop dL_law_515 rfl ?_
  refine l3_goto 1344 dL_law_516 (by decide) ?_
  exact KK _ M2 hJ (by omega) (by omega) (by omega) Pal_M2 Pst_M2
set_option maxRecDepth 100000 in
set_option maxHeartbeats 4000000 in
theorem lc_10 {l : Launch} {Z : li_Z} {b L kc : Nat} {xs : Nat → Int32} {x4 : Int32} {M : li_M} {Q : Option Value → li_M → Prop} (htr : l.stackTraces = false) (hk : kc ≤ 512) (hJ : li_J M) (v1 : vp_in (x4 + 1) L) (v2 : vp_in (x4 + 2) L) (v3 : vp_in (x4 + 3) L) (v4 : vp_in (x4 + 4) L) (hR0 : (M.1 1 1).toInt = (M.1 175 7).toInt) (hR1 : (M.1 5 0).toInt = (M.1 175 1).toInt) (Pal_M : li_al (M.1 2) (M.1 180)) (Pst_M : li_st (M.1 6) (M.1 177) ((M.1 5 0).toInt)) (KK : ∀ (k : Nat) (M : li_M), li_J M → k ≤ kc + 1 → (M.1 1 1).toInt = (M.1 175 7).toInt → (M.1 5 0).toInt = (M.1 175 1).toInt → li_al (M.1 2) (M.1 180) → li_st (M.1 6) (M.1 177) ((M.1 5 0).toInt) → l3_T l Z b L xs k 1344 [(4, .int x4), (0, .ref b), (1, .ref (Z.2.2 0)), (2, .ref (Z.2.2 175)), (3, .ref (Z.2.2 204))] [] M Q) : l3_T l Z b L xs kc 519 [(4, .int x4), (0, .ref b), (1, .ref (Z.2.2 0)), (2, .ref (Z.2.2 175)), (3, .ref (Z.2.2 204))] [] M Q := by
  have rJ7 := J_sl7 (M := M) hJ
  have rJ1 := J_sl1 (M := M) hJ
  refine l3_aload_n 2 dL_law_519 rfl ?_
  refine l3_aload_n 1 dL_law_520 rfl ?_
  refine l3_iload 0 dL_law_521 rfl ?_
  refine l3_iconst 1 dL_law_523 (by decide) ?_
  refine l3_iadd dL_law_524 ?_
  refine l3_sld dL_law_525 v1 ?_
  refine l3_aload_n 1 dL_law_526 rfl ?_
  refine l3_iload 0 dL_law_527 rfl ?_
  refine l3_iconst 2 dL_law_529 (by decide) ?_
  refine l3_iadd dL_law_530 ?_
  refine l3_sld dL_law_531 v2 ?_
  refine l3_callV (n := 2) (As := [.int (xs (x4 + 1 : Int32).toNatClampNeg), .int (xs (x4 + 2 : Int32).toNatClampNeg)]) (by omega) dL_law_532 (k_X11_cost 1000 (by omega) (xs (x4 + 1 : Int32).toNatClampNeg) (xs (x4 + 2 : Int32).toNatClampNeg) M) (Nat.le_of_ble_eq_true rfl) (Nat.le_of_ble_eq_true rfl) w_780 w_781 w_782 w_101 w_783 (by decide +kernel) rfl (by decide) sh_0 rfl rfl (Nat.le_of_ble_eq_true rfl) (fun r M1 h1 => ?_)
  obtain ⟨⟨y1, rfl⟩, h1⟩ := h1
  have hJ := l3_J hJ h1 (fun i h => by first | exact (h : False).elim | omega)
  have oM1_1_1 : (M1.1 1 1).toInt = (M.1 1 1).toInt := tl_slot (congrFun (h1.1 1 (fun h => by first | exact (h : False).elim | omega)) 1)
  have oM1_175_7 : (M1.1 175 7).toInt = (M.1 175 7).toInt := tl_slot (congrFun (h1.1 175 (fun h => by first | exact (h : False).elim | omega)) 7)
  have oM1_5_0 : (M1.1 5 0).toInt = (M.1 5 0).toInt := tl_slot (congrFun (h1.1 5 (fun h => by first | exact (h : False).elim | omega)) 0)
  have oM1_175_1 : (M1.1 175 1).toInt = (M.1 175 1).toInt := tl_slot (congrFun (h1.1 175 (fun h => by first | exact (h : False).elim | omega)) 1)
  have Pal_M1 : li_al (M1.1 2) (M1.1 180) := li_al_mv (h1.1 2 (fun h => by first | exact (h : False).elim | omega)) (h1.1 180 (fun h => by first | exact (h : False).elim | omega)) Pal_M
  have Pst_M1 : li_st (M1.1 6) (M1.1 177) ((M1.1 5 0).toInt) := li_st_mv (h1.1 6 (fun h => by first | exact (h : False).elim | omega)) (h1.1 177 (fun h => by first | exact (h : False).elim | omega)) (by omega) Pst_M
  refine l3_pop dL_law_535 rfl ?_
  refine l3_aload_n 3 dL_law_536 rfl ?_
  refine l3_aload_n 1 dL_law_537 rfl ?_
  refine l3_iload 0 dL_law_538 rfl ?_
  refine l3_iconst 1 dL_law_540 (by decide) ?_
  refine l3_iadd dL_law_541 ?_
  refine l3_sld dL_law_542 v1 ?_
  refine l3_aload_n 1 dL_law_543 rfl ?_
  refine l3_iload 0 dL_law_544 rfl ?_
  refine l3_iconst 2 dL_law_546 (by decide) ?_
  refine l3_iadd dL_law_547 ?_
  refine l3_sld dL_law_548 v2 ?_
  refine l3_callV (n := 2) (As := [.int (xs (x4 + 1 : Int32).toNatClampNeg), .int (xs (x4 + 2 : Int32).toNatClampNeg)]) (by omega) dL_law_549 (k_X12_cost 1000 (by omega) (xs (x4 + 1 : Int32).toNatClampNeg) (xs (x4 + 2 : Int32).toNatClampNeg) M1 hJ ) (Nat.le_of_ble_eq_true rfl) (Nat.le_of_ble_eq_true rfl) w_1714 w_1715 w_1716 w_112 w_1717 (by decide +kernel) rfl (by decide) sh_175 rfl rfl (Nat.le_of_ble_eq_true rfl) (fun r M2 h2 => ?_)
  have jh2 := h2
  obtain ⟨y2, rfl⟩ : ∃ y : Int32, r = some (.int y) := by first | exact ⟨_, h2.1.choose_spec⟩ | exact ⟨_, h2.1.choose_spec.1⟩ | (rcases h2.1 with ⟨e, -⟩ | ⟨e, -⟩ <;> exact ⟨_, e⟩)
  have hJ : li_J M2 := by first | exact h2.2.2 | exact h2.2.2.1
  have oM2_1_1 : (M2.1 1 1).toInt = (M1.1 1 1).toInt := tl_slot (h2.2.1.1 1 1 (fun h => by first | exact (h : False).elim | omega))
  have oM2_175_7 : (M2.1 175 7).toInt = (M1.1 175 7).toInt := tl_slot (h2.2.1.1 175 7 (fun h => by first | exact (h : False).elim | omega))
  have oM2_5_0 : (M2.1 5 0).toInt = (M1.1 5 0).toInt := tl_slot (h2.2.1.1 5 0 (fun h => by first | exact (h : False).elim | omega))
  have oM2_175_1 : (M2.1 175 1).toInt = (M1.1 175 1).toInt := tl_slot (h2.2.1.1 175 1 (fun h => by first | exact (h : False).elim | omega))
  have Pal_M2 : li_al (M2.1 2) (M2.1 180) := li_al_mv (funext fun i => h2.2.1.1 2 i (fun h => by first | exact (h : False).elim | omega)) (funext fun i => h2.2.1.1 180 i (fun h => by first | exact (h : False).elim | omega)) Pal_M1
  have Pst_M2 : li_st (M2.1 6) (M2.1 177) ((M2.1 5 0).toInt) := li_st_mv (funext fun i => h2.2.1.1 6 i (fun h => by first | exact (h : False).elim | omega)) (funext fun i => h2.2.1.1 177 i (fun h => by first | exact (h : False).elim | omega)) (by omega) Pst_M1
  refine l3_pop dL_law_552 rfl ?_
  refine l3_goto 1344 dL_law_553 (by decide) ?_
  exact KK _ M2 hJ (by omega) (by omega) (by omega) Pal_M2 Pst_M2
set_option maxRecDepth 100000 in
set_option maxHeartbeats 4000000 in
theorem lc_11 {l : Launch} {Z : li_Z} {b L kc : Nat} {xs : Nat → Int32} {x4 : Int32} {M : li_M} {Q : Option Value → li_M → Prop} (htr : l.stackTraces = false) (hk : kc ≤ 512) (hJ : li_J M) (v1 : vp_in (x4 + 1) L) (v2 : vp_in (x4 + 2) L) (v3 : vp_in (x4 + 3) L) (v4 : vp_in (x4 + 4) L) (hR0 : (M.1 1 1).toInt = (M.1 175 7).toInt) (hR1 : (M.1 5 0).toInt = (M.1 175 1).toInt) (Pal_M : li_al (M.1 2) (M.1 180)) (Pst_M : li_st (M.1 6) (M.1 177) ((M.1 5 0).toInt)) (KK : ∀ (k : Nat) (M : li_M), li_J M → k ≤ kc + 1 → (M.1 1 1).toInt = (M.1 175 7).toInt → (M.1 5 0).toInt = (M.1 175 1).toInt → li_al (M.1 2) (M.1 180) → li_st (M.1 6) (M.1 177) ((M.1 5 0).toInt) → l3_T l Z b L xs k 1344 [(4, .int x4), (0, .ref b), (1, .ref (Z.2.2 0)), (2, .ref (Z.2.2 175)), (3, .ref (Z.2.2 204))] [] M Q) : l3_T l Z b L xs kc 556 [(4, .int x4), (0, .ref b), (1, .ref (Z.2.2 0)), (2, .ref (Z.2.2 175)), (3, .ref (Z.2.2 204))] [] M Q := by
  have rJ7 := J_sl7 (M := M) hJ
  have rJ1 := J_sl1 (M := M) hJ
  refine l3_aload_n 2 dL_law_556 rfl ?_
  refine l3_aload_n 1 dL_law_557 rfl ?_
  refine l3_iload 0 dL_law_558 rfl ?_
  refine l3_iconst 1 dL_law_560 (by decide) ?_
  refine l3_iadd dL_law_561 ?_
  refine l3_sld dL_law_562 v1 ?_
  refine l3_aload_n 1 dL_law_563 rfl ?_
  refine l3_iload 0 dL_law_564 rfl ?_
  refine l3_iconst 2 dL_law_566 (by decide) ?_
  refine l3_iadd dL_law_567 ?_
  refine l3_sld dL_law_568 v2 ?_
  refine l3_callV (n := 2) (As := [.int (xs (x4 + 1 : Int32).toNatClampNeg), .int (xs (x4 + 2 : Int32).toNatClampNeg)]) (by omega) dL_law_569 (k_X11_say 1000 (by omega) (xs (x4 + 1 : Int32).toNatClampNeg) (xs (x4 + 2 : Int32).toNatClampNeg) M) (Nat.le_of_ble_eq_true rfl) (Nat.le_of_ble_eq_true rfl) w_839 w_840 w_841 w_101 w_842 (by decide +kernel) rfl (by decide) sh_0 rfl rfl (Nat.le_of_ble_eq_true rfl) (fun r M1 h1 => ?_)
  obtain ⟨⟨y1, rfl⟩, h1⟩ := h1
  have hJ := l3_J hJ h1 (fun i h => by first | exact (h : False).elim | omega)
  have oM1_1_1 : (M1.1 1 1).toInt = (M.1 1 1).toInt := tl_slot (congrFun (h1.1 1 (fun h => by first | exact (h : False).elim | omega)) 1)
  have oM1_175_7 : (M1.1 175 7).toInt = (M.1 175 7).toInt := tl_slot (congrFun (h1.1 175 (fun h => by first | exact (h : False).elim | omega)) 7)
  have oM1_5_0 : (M1.1 5 0).toInt = (M.1 5 0).toInt := tl_slot (congrFun (h1.1 5 (fun h => by first | exact (h : False).elim | omega)) 0)
  have oM1_175_1 : (M1.1 175 1).toInt = (M.1 175 1).toInt := tl_slot (congrFun (h1.1 175 (fun h => by first | exact (h : False).elim | omega)) 1)
  have Pal_M1 : li_al (M1.1 2) (M1.1 180) := li_al_mv (h1.1 2 (fun h => by first | exact (h : False).elim | omega)) (h1.1 180 (fun h => by first | exact (h : False).elim | omega)) Pal_M
  have Pst_M1 : li_st (M1.1 6) (M1.1 177) ((M1.1 5 0).toInt) := li_st_mv (h1.1 6 (fun h => by first | exact (h : False).elim | omega)) (h1.1 177 (fun h => by first | exact (h : False).elim | omega)) (by omega) Pst_M
  refine l3_pop dL_law_572 rfl ?_
  refine l3_aload_n 3 dL_law_573 rfl ?_
  refine l3_aload_n 1 dL_law_574 rfl ?_
  refine l3_iload 0 dL_law_575 rfl ?_
  refine l3_iconst 1 dL_law_577 (by decide) ?_
  refine l3_iadd dL_law_578 ?_
  refine l3_sld dL_law_579 v1 ?_
  refine l3_aload_n 1 dL_law_580 rfl ?_
  refine l3_iload 0 dL_law_581 rfl ?_
  refine l3_iconst 2 dL_law_583 (by decide) ?_
  refine l3_iadd dL_law_584 ?_
  refine l3_sld dL_law_585 v2 ?_
  refine l3_callV (n := 2) (As := [.int (xs (x4 + 1 : Int32).toNatClampNeg), .int (xs (x4 + 2 : Int32).toNatClampNeg)]) (by omega) dL_law_586 (k_X12_say 1000 (by omega) (xs (x4 + 1 : Int32).toNatClampNeg) (xs (x4 + 2 : Int32).toNatClampNeg) M1 hJ ) (Nat.le_of_ble_eq_true rfl) (Nat.le_of_ble_eq_true rfl) w_1726 w_1727 w_1728 w_112 w_1729 (by decide +kernel) rfl (by decide) sh_175 rfl rfl (Nat.le_of_ble_eq_true rfl) (fun r M2 h2 => ?_)
  have jh2 := h2
  obtain ⟨y2, rfl⟩ : ∃ y : Int32, r = some (.int y) := by first | exact ⟨_, h2.1.choose_spec⟩ | exact ⟨_, h2.1.choose_spec.1⟩ | (rcases h2.1 with ⟨e, -⟩ | ⟨e, -⟩ <;> exact ⟨_, e⟩)
  have hJ : li_J M2 := by first | exact h2.2.2 | exact h2.2.2.1
  have oM2_1_1 : (M2.1 1 1).toInt = (M1.1 1 1).toInt := tl_slot (h2.2.1.1 1 1 (fun h => by first | exact (h : False).elim | omega))
  have oM2_175_7 : (M2.1 175 7).toInt = (M1.1 175 7).toInt := tl_slot (h2.2.1.1 175 7 (fun h => by first | exact (h : False).elim | omega))
  have oM2_5_0 : (M2.1 5 0).toInt = (M1.1 5 0).toInt := tl_slot (h2.2.1.1 5 0 (fun h => by first | exact (h : False).elim | omega))
  have oM2_175_1 : (M2.1 175 1).toInt = (M1.1 175 1).toInt := tl_slot (h2.2.1.1 175 1 (fun h => by first | exact (h : False).elim | omega))
  have Pal_M2 : li_al (M2.1 2) (M2.1 180) := li_al_mv (funext fun i => h2.2.1.1 2 i (fun h => by first | exact (h : False).elim | omega)) (funext fun i => h2.2.1.1 180 i (fun h => by first | exact (h : False).elim | omega)) Pal_M1
  have Pst_M2 : li_st (M2.1 6) (M2.1 177) ((M2.1 5 0).toInt) := li_st_mv (funext fun i => h2.2.1.1 6 i (fun h => by first | exact (h : False).elim | omega)) (funext fun i => h2.2.1.1 177 i (fun h => by first | exact (h : False).elim | omega)) (by omega) Pst_M1
  refine l3_pop dL_law_589 rfl ?_
  refine l3_goto 1344 dL_law_590 (by decide) ?_
  exact KK _ M2 hJ (by omega) (by omega) (by omega) Pal_M2 Pst_M2
set_option maxRecDepth 100000 in
set_option maxHeartbeats 4000000 in
theorem lc_12 {l : Launch} {Z : li_Z} {b L kc : Nat} {xs : Nat → Int32} {x4 : Int32} {M : li_M} {Q : Option Value → li_M → Prop} (htr : l.stackTraces = false) (hk : kc ≤ 512) (hJ : li_J M) (v1 : vp_in (x4 + 1) L) (v2 : vp_in (x4 + 2) L) (v3 : vp_in (x4 + 3) L) (v4 : vp_in (x4 + 4) L) (hR0 : (M.1 1 1).toInt = (M.1 175 7).toInt) (hR1 : (M.1 5 0).toInt = (M.1 175 1).toInt) (Pal_M : li_al (M.1 2) (M.1 180)) (Pst_M : li_st (M.1 6) (M.1 177) ((M.1 5 0).toInt)) (KK : ∀ (k : Nat) (M : li_M), li_J M → k ≤ kc + 1 → (M.1 1 1).toInt = (M.1 175 7).toInt → (M.1 5 0).toInt = (M.1 175 1).toInt → li_al (M.1 2) (M.1 180) → li_st (M.1 6) (M.1 177) ((M.1 5 0).toInt) → l3_T l Z b L xs k 1344 [(4, .int x4), (0, .ref b), (1, .ref (Z.2.2 0)), (2, .ref (Z.2.2 175)), (3, .ref (Z.2.2 204))] [] M Q) : l3_T l Z b L xs kc 593 [(4, .int x4), (0, .ref b), (1, .ref (Z.2.2 0)), (2, .ref (Z.2.2 175)), (3, .ref (Z.2.2 204))] [] M Q := by
  have rJ7 := J_sl7 (M := M) hJ
  have rJ1 := J_sl1 (M := M) hJ
  refine l3_aload_n 2 dL_law_593 rfl ?_
  refine l3_aload_n 1 dL_law_594 rfl ?_
  refine l3_iload 0 dL_law_595 rfl ?_
  refine l3_iconst 1 dL_law_597 (by decide) ?_
  refine l3_iadd dL_law_598 ?_
  refine l3_sld dL_law_599 v1 ?_
  refine l3_aload_n 1 dL_law_600 rfl ?_
  refine l3_iload 0 dL_law_601 rfl ?_
  refine l3_iconst 2 dL_law_603 (by decide) ?_
  refine l3_iadd dL_law_604 ?_
  refine l3_sld dL_law_605 v2 ?_
  refine l3_aload_n 1 dL_law_606 rfl ?_
  refine l3_iload 0 dL_law_607 rfl ?_
  refine l3_iconst 3 dL_law_609 (by decide) ?_
  refine l3_iadd dL_law_610 ?_
  refine l3_sld dL_law_611 v3 ?_
  refine l3_callV (n := 3) (As := [.int (xs (x4 + 1 : Int32).toNatClampNeg), .int (xs (x4 + 2 : Int32).toNatClampNeg), .int (xs (x4 + 3 : Int32).toNatClampNeg)]) (by omega) dL_law_612 (k_X11_give 1000 (by omega) (xs (x4 + 1 : Int32).toNatClampNeg) (xs (x4 + 2 : Int32).toNatClampNeg) (xs (x4 + 3 : Int32).toNatClampNeg) M) (Nat.le_of_ble_eq_true rfl) (Nat.le_of_ble_eq_true rfl) w_876 w_877 w_878 w_101 w_879 (by decide +kernel) rfl (by decide) sh_0 rfl rfl (Nat.le_of_ble_eq_true rfl) (fun r M1 h1 => ?_)
  obtain ⟨⟨y1, rfl⟩, h1⟩ := h1
  have hJ := l3_J hJ h1 (fun i h => by first | exact (h : False).elim | omega)
  have oM1_1_1 : (M1.1 1 1).toInt = (M.1 1 1).toInt := tl_slot (congrFun (h1.1 1 (fun h => by first | exact (h : False).elim | omega)) 1)
  have oM1_175_7 : (M1.1 175 7).toInt = (M.1 175 7).toInt := tl_slot (congrFun (h1.1 175 (fun h => by first | exact (h : False).elim | omega)) 7)
  have oM1_5_0 : (M1.1 5 0).toInt = (M.1 5 0).toInt := tl_slot (congrFun (h1.1 5 (fun h => by first | exact (h : False).elim | omega)) 0)
  have oM1_175_1 : (M1.1 175 1).toInt = (M.1 175 1).toInt := tl_slot (congrFun (h1.1 175 (fun h => by first | exact (h : False).elim | omega)) 1)
  have Pal_M1 : li_al (M1.1 2) (M1.1 180) := li_al_mv (h1.1 2 (fun h => by first | exact (h : False).elim | omega)) (h1.1 180 (fun h => by first | exact (h : False).elim | omega)) Pal_M
  have Pst_M1 : li_st (M1.1 6) (M1.1 177) ((M1.1 5 0).toInt) := li_st_mv (h1.1 6 (fun h => by first | exact (h : False).elim | omega)) (h1.1 177 (fun h => by first | exact (h : False).elim | omega)) (by omega) Pst_M
  refine l3_pop dL_law_615 rfl ?_
  refine l3_aload_n 3 dL_law_616 rfl ?_
  refine l3_aload_n 1 dL_law_617 rfl ?_
  refine l3_iload 0 dL_law_618 rfl ?_
  refine l3_iconst 1 dL_law_620 (by decide) ?_
  refine l3_iadd dL_law_621 ?_
  refine l3_sld dL_law_622 v1 ?_
  refine l3_aload_n 1 dL_law_623 rfl ?_
  refine l3_iload 0 dL_law_624 rfl ?_
  refine l3_iconst 2 dL_law_626 (by decide) ?_
  refine l3_iadd dL_law_627 ?_
  refine l3_sld dL_law_628 v2 ?_
  refine l3_aload_n 1 dL_law_629 rfl ?_
  refine l3_iload 0 dL_law_630 rfl ?_
  refine l3_iconst 3 dL_law_632 (by decide) ?_
  refine l3_iadd dL_law_633 ?_
  refine l3_sld dL_law_634 v3 ?_
  refine l3_callV (n := 3) (As := [.int (xs (x4 + 1 : Int32).toNatClampNeg), .int (xs (x4 + 2 : Int32).toNatClampNeg), .int (xs (x4 + 3 : Int32).toNatClampNeg)]) (by omega) dL_law_635 (k_X12_give 1000 (by omega) (xs (x4 + 1 : Int32).toNatClampNeg) (xs (x4 + 2 : Int32).toNatClampNeg) (xs (x4 + 3 : Int32).toNatClampNeg) M1 hJ ) (Nat.le_of_ble_eq_true rfl) (Nat.le_of_ble_eq_true rfl) w_1752 w_1753 w_1754 w_112 w_1755 (by decide +kernel) rfl (by decide) sh_175 rfl rfl (Nat.le_of_ble_eq_true rfl) (fun r M2 h2 => ?_)
  have jh2 := h2
  obtain ⟨y2, rfl⟩ : ∃ y : Int32, r = some (.int y) := by first | exact ⟨_, h2.1.choose_spec⟩ | exact ⟨_, h2.1.choose_spec.1⟩ | (rcases h2.1 with ⟨e, -⟩ | ⟨e, -⟩ <;> exact ⟨_, e⟩)
  have hJ : li_J M2 := by first | exact h2.2.2 | exact h2.2.2.1
  have oM2_1_1 : (M2.1 1 1).toInt = (M1.1 1 1).toInt := tl_slot (h2.2.1.1 1 1 (fun h => by first | exact (h : False).elim | omega))
  have oM2_175_7 : (M2.1 175 7).toInt = (M1.1 175 7).toInt := tl_slot (h2.2.1.1 175 7 (fun h => by first | exact (h : False).elim | omega))
  have oM2_5_0 : (M2.1 5 0).toInt = (M1.1 5 0).toInt := tl_slot (h2.2.1.1 5 0 (fun h => by first | exact (h : False).elim | omega))
  have oM2_175_1 : (M2.1 175 1).toInt = (M1.1 175 1).toInt := tl_slot (h2.2.1.1 175 1 (fun h => by first | exact (h : False).elim | omega))
  have Pal_M2 : li_al (M2.1 2) (M2.1 180) := li_al_mv (funext fun i => h2.2.1.1 2 i (fun h => by first | exact (h : False).elim | omega)) (funext fun i => h2.2.1.1 180 i (fun h => by first | exact (h : False).elim | omega)) Pal_M1
  have Pst_M2 : li_st (M2.1 6) (M2.1 177) ((M2.1 5 0).toInt) := li_st_mv (funext fun i => h2.2.1.1 6 i (fun h => by first | exact (h : False).elim | omega)) (funext fun i => h2.2.1.1 177 i (fun h => by first | exact (h : False).elim | omega)) (by omega) Pst_M1
  refine l3_pop dL_law_638 rfl ?_
  refine l3_goto 1344 dL_law_639 (by decide) ?_
  exact KK _ M2 hJ (by omega) (by omega) (by omega) Pal_M2 Pst_M2
set_option maxRecDepth 100000 in
set_option maxHeartbeats 4000000 in
theorem lc_13 {l : Launch} {Z : li_Z} {b L kc : Nat} {xs : Nat → Int32} {x4 : Int32} {M : li_M} {Q : Option Value → li_M → Prop} (htr : l.stackTraces = false) (hk : kc ≤ 512) (hJ : li_J M) (v1 : vp_in (x4 + 1) L) (v2 : vp_in (x4 + 2) L) (v3 : vp_in (x4 + 3) L) (v4 : vp_in (x4 + 4) L) (hR0 : (M.1 1 1).toInt = (M.1 175 7).toInt) (hR1 : (M.1 5 0).toInt = (M.1 175 1).toInt) (Pal_M : li_al (M.1 2) (M.1 180)) (Pst_M : li_st (M.1 6) (M.1 177) ((M.1 5 0).toInt)) (KK : ∀ (k : Nat) (M : li_M), li_J M → k ≤ kc + 1 → (M.1 1 1).toInt = (M.1 175 7).toInt → (M.1 5 0).toInt = (M.1 175 1).toInt → li_al (M.1 2) (M.1 180) → li_st (M.1 6) (M.1 177) ((M.1 5 0).toInt) → l3_T l Z b L xs k 1344 [(4, .int x4), (0, .ref b), (1, .ref (Z.2.2 0)), (2, .ref (Z.2.2 175)), (3, .ref (Z.2.2 204))] [] M Q) : l3_T l Z b L xs kc 642 [(4, .int x4), (0, .ref b), (1, .ref (Z.2.2 0)), (2, .ref (Z.2.2 175)), (3, .ref (Z.2.2 204))] [] M Q := by
  have rJ7 := J_sl7 (M := M) hJ
  have rJ1 := J_sl1 (M := M) hJ
  refine l3_aload_n 2 dL_law_642 rfl ?_
  refine l3_aload_n 1 dL_law_643 rfl ?_
  refine l3_iload 0 dL_law_644 rfl ?_
  refine l3_iconst 1 dL_law_646 (by decide) ?_
  refine l3_iadd dL_law_647 ?_
  refine l3_sld dL_law_648 v1 ?_
  refine l3_aload_n 1 dL_law_649 rfl ?_
  refine l3_iload 0 dL_law_650 rfl ?_
  refine l3_iconst 2 dL_law_652 (by decide) ?_
  refine l3_iadd dL_law_653 ?_
  refine l3_sld dL_law_654 v2 ?_
  refine l3_aload_n 1 dL_law_655 rfl ?_
  refine l3_iload 0 dL_law_656 rfl ?_
  refine l3_iconst 3 dL_law_658 (by decide) ?_
  refine l3_iadd dL_law_659 ?_
  refine l3_sld dL_law_660 v3 ?_
  refine l3_aload_n 1 dL_law_661 rfl ?_
  refine l3_iload 0 dL_law_662 rfl ?_
  refine l3_iconst 4 dL_law_664 (by decide) ?_
  refine l3_iadd dL_law_665 ?_
  refine l3_sld dL_law_666 v4 ?_
  refine l3_callV (n := 4) (As := [.int (xs (x4 + 1 : Int32).toNatClampNeg), .int (xs (x4 + 2 : Int32).toNatClampNeg), .int (xs (x4 + 3 : Int32).toNatClampNeg), .int (xs (x4 + 4 : Int32).toNatClampNeg)]) (by omega) dL_law_667 (k_X11_lend 1000 (by omega) (xs (x4 + 1 : Int32).toNatClampNeg) (xs (x4 + 2 : Int32).toNatClampNeg) (xs (x4 + 3 : Int32).toNatClampNeg) (xs (x4 + 4 : Int32).toNatClampNeg) M) (Nat.le_of_ble_eq_true rfl) (Nat.le_of_ble_eq_true rfl) w_894 w_895 w_896 w_101 w_897 (by decide +kernel) rfl (by decide) sh_0 rfl rfl (Nat.le_of_ble_eq_true rfl) (fun r M1 h1 => ?_)
  obtain ⟨⟨y1, rfl⟩, h1⟩ := h1
  have hJ := l3_J hJ h1 (fun i h => by first | exact (h : False).elim | omega)
  have oM1_1_1 : (M1.1 1 1).toInt = (M.1 1 1).toInt := tl_slot (congrFun (h1.1 1 (fun h => by first | exact (h : False).elim | omega)) 1)
  have oM1_175_7 : (M1.1 175 7).toInt = (M.1 175 7).toInt := tl_slot (congrFun (h1.1 175 (fun h => by first | exact (h : False).elim | omega)) 7)
  have oM1_5_0 : (M1.1 5 0).toInt = (M.1 5 0).toInt := tl_slot (congrFun (h1.1 5 (fun h => by first | exact (h : False).elim | omega)) 0)
  have oM1_175_1 : (M1.1 175 1).toInt = (M.1 175 1).toInt := tl_slot (congrFun (h1.1 175 (fun h => by first | exact (h : False).elim | omega)) 1)
  have Pal_M1 : li_al (M1.1 2) (M1.1 180) := li_al_mv (h1.1 2 (fun h => by first | exact (h : False).elim | omega)) (h1.1 180 (fun h => by first | exact (h : False).elim | omega)) Pal_M
  have Pst_M1 : li_st (M1.1 6) (M1.1 177) ((M1.1 5 0).toInt) := li_st_mv (h1.1 6 (fun h => by first | exact (h : False).elim | omega)) (h1.1 177 (fun h => by first | exact (h : False).elim | omega)) (by omega) Pst_M
  refine l3_pop dL_law_670 rfl ?_
  refine l3_aload_n 3 dL_law_671 rfl ?_
  refine l3_aload_n 1 dL_law_672 rfl ?_
  refine l3_iload 0 dL_law_673 rfl ?_
  refine l3_iconst 1 dL_law_675 (by decide) ?_
  refine l3_iadd dL_law_676 ?_
  refine l3_sld dL_law_677 v1 ?_
  refine l3_aload_n 1 dL_law_678 rfl ?_
  refine l3_iload 0 dL_law_679 rfl ?_
  refine l3_iconst 2 dL_law_681 (by decide) ?_
  refine l3_iadd dL_law_682 ?_
  refine l3_sld dL_law_683 v2 ?_
  refine l3_aload_n 1 dL_law_684 rfl ?_
  refine l3_iload 0 dL_law_685 rfl ?_
  refine l3_iconst 3 dL_law_687 (by decide) ?_
  refine l3_iadd dL_law_688 ?_
  refine l3_sld dL_law_689 v3 ?_
  refine l3_aload_n 1 dL_law_690 rfl ?_
  refine l3_iload 0 dL_law_691 rfl ?_
  refine l3_iconst 4 dL_law_693 (by decide) ?_
  refine l3_iadd dL_law_694 ?_
  refine l3_sld dL_law_695 v4 ?_
  refine l3_callV (n := 4) (As := [.int (xs (x4 + 1 : Int32).toNatClampNeg), .int (xs (x4 + 2 : Int32).toNatClampNeg), .int (xs (x4 + 3 : Int32).toNatClampNeg), .int (xs (x4 + 4 : Int32).toNatClampNeg)]) (by omega) dL_law_696 (k_X12_lend 1000 (by omega) (xs (x4 + 1 : Int32).toNatClampNeg) (xs (x4 + 2 : Int32).toNatClampNeg) (xs (x4 + 3 : Int32).toNatClampNeg) (xs (x4 + 4 : Int32).toNatClampNeg) M1 hJ ) (Nat.le_of_ble_eq_true rfl) (Nat.le_of_ble_eq_true rfl) w_1767 w_1768 w_1769 w_112 w_1770 (by decide +kernel) rfl (by decide) sh_175 rfl rfl (Nat.le_of_ble_eq_true rfl) (fun r M2 h2 => ?_)
  have jh2 := h2
  obtain ⟨y2, rfl⟩ : ∃ y : Int32, r = some (.int y) := by first | exact ⟨_, h2.1.choose_spec⟩ | exact ⟨_, h2.1.choose_spec.1⟩ | (rcases h2.1 with ⟨e, -⟩ | ⟨e, -⟩ <;> exact ⟨_, e⟩)
  have hJ : li_J M2 := by first | exact h2.2.2 | exact h2.2.2.1
  have oM2_1_1 : (M2.1 1 1).toInt = (M1.1 1 1).toInt := tl_slot (h2.2.1.1 1 1 (fun h => by first | exact (h : False).elim | omega))
  have oM2_175_7 : (M2.1 175 7).toInt = (M1.1 175 7).toInt := tl_slot (h2.2.1.1 175 7 (fun h => by first | exact (h : False).elim | omega))
  have oM2_5_0 : (M2.1 5 0).toInt = (M1.1 5 0).toInt := tl_slot (h2.2.1.1 5 0 (fun h => by first | exact (h : False).elim | omega))
  have oM2_175_1 : (M2.1 175 1).toInt = (M1.1 175 1).toInt := tl_slot (h2.2.1.1 175 1 (fun h => by first | exact (h : False).elim | omega))
  have Pal_M2 : li_al (M2.1 2) (M2.1 180) := li_al_mv (funext fun i => h2.2.1.1 2 i (fun h => by first | exact (h : False).elim | omega)) (funext fun i => h2.2.1.1 180 i (fun h => by first | exact (h : False).elim | omega)) Pal_M1
  have Pst_M2 : li_st (M2.1 6) (M2.1 177) ((M2.1 5 0).toInt) := li_st_mv (funext fun i => h2.2.1.1 6 i (fun h => by first | exact (h : False).elim | omega)) (funext fun i => h2.2.1.1 177 i (fun h => by first | exact (h : False).elim | omega)) (by omega) Pst_M1
  refine l3_pop dL_law_699 rfl ?_
  refine l3_goto 1344 dL_law_700 (by decide) ?_
  exact KK _ M2 hJ (by omega) (by omega) (by omega) Pal_M2 Pst_M2
set_option maxRecDepth 100000 in
set_option maxHeartbeats 4000000 in
theorem lc_14 {l : Launch} {Z : li_Z} {b L kc : Nat} {xs : Nat → Int32} {x4 : Int32} {M : li_M} {Q : Option Value → li_M → Prop} (htr : l.stackTraces = false) (hk : kc ≤ 512) (hJ : li_J M) (v1 : vp_in (x4 + 1) L) (v2 : vp_in (x4 + 2) L) (v3 : vp_in (x4 + 3) L) (v4 : vp_in (x4 + 4) L) (hR0 : (M.1 1 1).toInt = (M.1 175 7).toInt) (hR1 : (M.1 5 0).toInt = (M.1 175 1).toInt) (Pal_M : li_al (M.1 2) (M.1 180)) (Pst_M : li_st (M.1 6) (M.1 177) ((M.1 5 0).toInt)) (KK : ∀ (k : Nat) (M : li_M), li_J M → k ≤ kc + 1 → (M.1 1 1).toInt = (M.1 175 7).toInt → (M.1 5 0).toInt = (M.1 175 1).toInt → li_al (M.1 2) (M.1 180) → li_st (M.1 6) (M.1 177) ((M.1 5 0).toInt) → l3_T l Z b L xs k 1344 [(4, .int x4), (0, .ref b), (1, .ref (Z.2.2 0)), (2, .ref (Z.2.2 175)), (3, .ref (Z.2.2 204))] [] M Q) : l3_T l Z b L xs kc 703 [(4, .int x4), (0, .ref b), (1, .ref (Z.2.2 0)), (2, .ref (Z.2.2 175)), (3, .ref (Z.2.2 204))] [] M Q := by
  have rJ7 := J_sl7 (M := M) hJ
  have rJ1 := J_sl1 (M := M) hJ
  refine l3_aload_n 2 dL_law_703 rfl ?_
  refine l3_aload_n 1 dL_law_704 rfl ?_
  refine l3_iload 0 dL_law_705 rfl ?_
  refine l3_iconst 1 dL_law_707 (by decide) ?_
  refine l3_iadd dL_law_708 ?_
  refine l3_sld dL_law_709 v1 ?_
  refine l3_callV (n := 1) (As := [.int (xs (x4 + 1 : Int32).toNatClampNeg)]) (by omega) dL_law_710 (k_X11_days 1000 (by omega) (xs (x4 + 1 : Int32).toNatClampNeg) M) (Nat.le_of_ble_eq_true rfl) (Nat.le_of_ble_eq_true rfl) w_905 w_906 w_907 w_101 w_908 (by decide +kernel) rfl (by decide) sh_0 rfl rfl (Nat.le_of_ble_eq_true rfl) (fun r M1 h1 => ?_)
  obtain ⟨⟨y1, rfl⟩, h1⟩ := h1
  have hJ := l3_J hJ h1 (fun i h => by first | exact (h : False).elim | omega)
  have oM1_1_1 : (M1.1 1 1).toInt = (M.1 1 1).toInt := tl_slot (congrFun (h1.1 1 (fun h => by first | exact (h : False).elim | omega)) 1)
  have oM1_175_7 : (M1.1 175 7).toInt = (M.1 175 7).toInt := tl_slot (congrFun (h1.1 175 (fun h => by first | exact (h : False).elim | omega)) 7)
  have oM1_5_0 : (M1.1 5 0).toInt = (M.1 5 0).toInt := tl_slot (congrFun (h1.1 5 (fun h => by first | exact (h : False).elim | omega)) 0)
  have oM1_175_1 : (M1.1 175 1).toInt = (M.1 175 1).toInt := tl_slot (congrFun (h1.1 175 (fun h => by first | exact (h : False).elim | omega)) 1)
  have Pal_M1 : li_al (M1.1 2) (M1.1 180) := li_al_mv (h1.1 2 (fun h => by first | exact (h : False).elim | omega)) (h1.1 180 (fun h => by first | exact (h : False).elim | omega)) Pal_M
  have Pst_M1 : li_st (M1.1 6) (M1.1 177) ((M1.1 5 0).toInt) := li_st_mv (h1.1 6 (fun h => by first | exact (h : False).elim | omega)) (h1.1 177 (fun h => by first | exact (h : False).elim | omega)) (by omega) Pst_M
  refine l3_pop dL_law_713 rfl ?_
  refine l3_aload_n 3 dL_law_714 rfl ?_
  refine l3_aload_n 1 dL_law_715 rfl ?_
  refine l3_iload 0 dL_law_716 rfl ?_
  refine l3_iconst 1 dL_law_718 (by decide) ?_
  refine l3_iadd dL_law_719 ?_
  refine l3_sld dL_law_720 v1 ?_
  refine l3_callV (n := 1) (As := [.int (xs (x4 + 1 : Int32).toNatClampNeg)]) (by omega) dL_law_721 (k_X12_days 1000 (by omega) (xs (x4 + 1 : Int32).toNatClampNeg) M1 hJ ) (Nat.le_of_ble_eq_true rfl) (Nat.le_of_ble_eq_true rfl) w_1771 w_1772 w_1773 w_112 w_1774 (by decide +kernel) rfl (by decide) sh_175 rfl rfl (Nat.le_of_ble_eq_true rfl) (fun r M2 h2 => ?_)
  have jh2 := h2
  obtain ⟨y2, rfl⟩ : ∃ y : Int32, r = some (.int y) := by first | exact ⟨_, h2.1.choose_spec⟩ | exact ⟨_, h2.1.choose_spec.1⟩ | (rcases h2.1 with ⟨e, -⟩ | ⟨e, -⟩ <;> exact ⟨_, e⟩)
  have hJ : li_J M2 := by first | exact h2.2.2 | exact h2.2.2.1
  have oM2_1_1 : (M2.1 1 1).toInt = (M1.1 1 1).toInt := tl_slot (h2.2.1.1 1 1 (fun h => by first | exact (h : False).elim | omega))
  have oM2_175_7 : (M2.1 175 7).toInt = (M1.1 175 7).toInt := tl_slot (h2.2.1.1 175 7 (fun h => by first | exact (h : False).elim | omega))
  have oM2_5_0 : (M2.1 5 0).toInt = (M1.1 5 0).toInt := tl_slot (h2.2.1.1 5 0 (fun h => by first | exact (h : False).elim | omega))
  have oM2_175_1 : (M2.1 175 1).toInt = (M1.1 175 1).toInt := tl_slot (h2.2.1.1 175 1 (fun h => by first | exact (h : False).elim | omega))
  have Pal_M2 : li_al (M2.1 2) (M2.1 180) := li_al_mv (funext fun i => h2.2.1.1 2 i (fun h => by first | exact (h : False).elim | omega)) (funext fun i => h2.2.1.1 180 i (fun h => by first | exact (h : False).elim | omega)) Pal_M1
  have Pst_M2 : li_st (M2.1 6) (M2.1 177) ((M2.1 5 0).toInt) := li_st_mv (funext fun i => h2.2.1.1 6 i (fun h => by first | exact (h : False).elim | omega)) (funext fun i => h2.2.1.1 177 i (fun h => by first | exact (h : False).elim | omega)) (by omega) Pst_M1
  refine l3_pop dL_law_724 rfl ?_
  refine l3_goto 1344 dL_law_725 (by decide) ?_
  exact KK _ M2 hJ (by omega) (by omega) (by omega) Pal_M2 Pst_M2
set_option maxRecDepth 100000 in
set_option maxHeartbeats 4000000 in
theorem lc_15 {l : Launch} {Z : li_Z} {b L kc : Nat} {xs : Nat → Int32} {x4 : Int32} {M : li_M} {Q : Option Value → li_M → Prop} (htr : l.stackTraces = false) (hk : kc ≤ 512) (hJ : li_J M) (v1 : vp_in (x4 + 1) L) (v2 : vp_in (x4 + 2) L) (v3 : vp_in (x4 + 3) L) (v4 : vp_in (x4 + 4) L) (hR0 : (M.1 1 1).toInt = (M.1 175 7).toInt) (hR1 : (M.1 5 0).toInt = (M.1 175 1).toInt) (Pal_M : li_al (M.1 2) (M.1 180)) (Pst_M : li_st (M.1 6) (M.1 177) ((M.1 5 0).toInt)) (KK : ∀ (k : Nat) (M : li_M), li_J M → k ≤ kc + 1 → (M.1 1 1).toInt = (M.1 175 7).toInt → (M.1 5 0).toInt = (M.1 175 1).toInt → li_al (M.1 2) (M.1 180) → li_st (M.1 6) (M.1 177) ((M.1 5 0).toInt) → l3_T l Z b L xs k 1344 [(4, .int x4), (0, .ref b), (1, .ref (Z.2.2 0)), (2, .ref (Z.2.2 175)), (3, .ref (Z.2.2 204))] [] M Q) : l3_T l Z b L xs kc 728 [(4, .int x4), (0, .ref b), (1, .ref (Z.2.2 0)), (2, .ref (Z.2.2 175)), (3, .ref (Z.2.2 204))] [] M Q := by
  have rJ7 := J_sl7 (M := M) hJ
  have rJ1 := J_sl1 (M := M) hJ
  refine l3_aload_n 2 dL_law_728 rfl ?_
  refine l3_callV (n := 0) (As := []) (by omega) dL_law_729 (k9_X11_talk 1000 (by omega)  M) (Nat.le_of_ble_eq_true rfl) (Nat.le_of_ble_eq_true rfl) w_956 w_957 w_958 w_101 w_959 (by decide +kernel) rfl (by decide) sh_0 rfl rfl (Nat.le_of_ble_eq_true rfl) (fun r M1 h1 => ?_)
  obtain ⟨⟨y1, rfl, ky1⟩, h1⟩ := h1
  have hJ := l3_J hJ h1 (fun i h => by first | exact (h : False).elim | omega)
  have oM1_175_7 : (M1.1 175 7).toInt = (M.1 175 7).toInt := tl_slot (congrFun (h1.1 175 (fun h => by first | exact (h : False).elim | omega)) 7)
  have oM1_5_0 : (M1.1 5 0).toInt = (M.1 5 0).toInt := tl_slot (congrFun (h1.1 5 (fun h => by first | exact (h : False).elim | omega)) 0)
  have oM1_175_1 : (M1.1 175 1).toInt = (M.1 175 1).toInt := tl_slot (congrFun (h1.1 175 (fun h => by first | exact (h : False).elim | omega)) 1)
  have Pal_M1 : li_al (M1.1 2) (M1.1 180) := li_al_mv (h1.1 2 (fun h => by first | exact (h : False).elim | omega)) (h1.1 180 (fun h => by first | exact (h : False).elim | omega)) Pal_M
  have Pst_M1 : li_st (M1.1 6) (M1.1 177) ((M1.1 5 0).toInt) := li_st_mv (h1.1 6 (fun h => by first | exact (h : False).elim | omega)) (h1.1 177 (fun h => by first | exact (h : False).elim | omega)) (by omega) Pst_M
  refine l3_pop dL_law_732 rfl ?_
  refine l3_aload_n 3 dL_law_733 rfl ?_
  refine l3_callV (n := 0) (As := []) (by omega) dL_law_734 (k3_X12_talk 1000 (by omega)  M1 hJ ) (Nat.le_of_ble_eq_true rfl) (Nat.le_of_ble_eq_true rfl) w_1787 w_1788 w_1789 w_112 w_1790 (by decide +kernel) rfl (by decide) sh_175 rfl rfl (Nat.le_of_ble_eq_true rfl) (fun r M2 h2 => ?_)
  have jh2 := h2
  obtain ⟨⟨y2, rfl⟩, h2⟩ := h2
  have hJ := h2.2.1
  have nh2 := h2.2.2
  have oM2_1_1 : (M2.1 1 1).toInt = (M1.1 1 1).toInt := tl_slot (h2.1.1 1 1 (fun h => by first | exact (h : False).elim | omega))
  have oM2_5_0 : (M2.1 5 0).toInt = (M1.1 5 0).toInt := tl_slot (h2.1.1 5 0 (fun h => by first | exact (h : False).elim | omega))
  have oM2_175_1 : (M2.1 175 1).toInt = (M1.1 175 1).toInt := tl_slot (h2.1.1 175 1 (fun h => by first | exact (h : False).elim | omega))
  have Pal_M2 : li_al (M2.1 2) (M2.1 180) := li_al_mv (funext fun i => h2.1.1 2 i (fun h => by first | exact (h : False).elim | omega)) (funext fun i => h2.1.1 180 i (fun h => by first | exact (h : False).elim | omega)) Pal_M1
  have Pst_M2 : li_st (M2.1 6) (M2.1 177) ((M2.1 5 0).toInt) := li_st_mv (funext fun i => h2.1.1 6 i (fun h => by first | exact (h : False).elim | omega)) (funext fun i => h2.1.1 177 i (fun h => by first | exact (h : False).elim | omega)) (by omega) Pst_M1
  refine l3_pop dL_law_737 rfl ?_
  refine l3_goto 1344 dL_law_738 (by decide) ?_
  exact KK _ M2 hJ (by omega) (by omega) (by omega) Pal_M2 Pst_M2
set_option maxRecDepth 100000 in
set_option maxHeartbeats 4000000 in
theorem lc_16 {l : Launch} {Z : li_Z} {b L kc : Nat} {xs : Nat → Int32} {x4 : Int32} {M : li_M} {Q : Option Value → li_M → Prop} (htr : l.stackTraces = false) (hk : kc ≤ 512) (hJ : li_J M) (v1 : vp_in (x4 + 1) L) (v2 : vp_in (x4 + 2) L) (v3 : vp_in (x4 + 3) L) (v4 : vp_in (x4 + 4) L) (hR0 : (M.1 1 1).toInt = (M.1 175 7).toInt) (hR1 : (M.1 5 0).toInt = (M.1 175 1).toInt) (Pal_M : li_al (M.1 2) (M.1 180)) (Pst_M : li_st (M.1 6) (M.1 177) ((M.1 5 0).toInt)) (KK : ∀ (k : Nat) (M : li_M), li_J M → k ≤ kc + 1 → (M.1 1 1).toInt = (M.1 175 7).toInt → (M.1 5 0).toInt = (M.1 175 1).toInt → li_al (M.1 2) (M.1 180) → li_st (M.1 6) (M.1 177) ((M.1 5 0).toInt) → l3_T l Z b L xs k 1344 [(4, .int x4), (0, .ref b), (1, .ref (Z.2.2 0)), (2, .ref (Z.2.2 175)), (3, .ref (Z.2.2 204))] [] M Q) : l3_T l Z b L xs kc 741 [(4, .int x4), (0, .ref b), (1, .ref (Z.2.2 0)), (2, .ref (Z.2.2 175)), (3, .ref (Z.2.2 204))] [] M Q := by
  have rJ7 := J_sl7 (M := M) hJ
  have rJ1 := J_sl1 (M := M) hJ
  refine l3_aload_n 2 dL_law_741 rfl ?_
  refine l3_callV (n := 0) (As := []) (by omega) dL_law_742 (k_X11_undo 1000 (by omega)  M) (Nat.le_of_ble_eq_true rfl) (Nat.le_of_ble_eq_true rfl) w_976 w_977 w_978 w_101 w_979 (by decide +kernel) rfl (by decide) sh_0 rfl rfl (Nat.le_of_ble_eq_true rfl) (fun r M1 h1 => ?_)
  obtain ⟨⟨y1, rfl⟩, h1⟩ := h1
  have hJ := l3_J hJ h1 (fun i h => by first | exact (h : False).elim | omega)
  have oM1_1_1 : (M1.1 1 1).toInt = (M.1 1 1).toInt := tl_slot (congrFun (h1.1 1 (fun h => by first | exact (h : False).elim | omega)) 1)
  have oM1_175_7 : (M1.1 175 7).toInt = (M.1 175 7).toInt := tl_slot (congrFun (h1.1 175 (fun h => by first | exact (h : False).elim | omega)) 7)
  have oM1_5_0 : (M1.1 5 0).toInt = (M.1 5 0).toInt := tl_slot (congrFun (h1.1 5 (fun h => by first | exact (h : False).elim | omega)) 0)
  have oM1_175_1 : (M1.1 175 1).toInt = (M.1 175 1).toInt := tl_slot (congrFun (h1.1 175 (fun h => by first | exact (h : False).elim | omega)) 1)
  have Pal_M1 : li_al (M1.1 2) (M1.1 180) := li_al_mv (h1.1 2 (fun h => by first | exact (h : False).elim | omega)) (h1.1 180 (fun h => by first | exact (h : False).elim | omega)) Pal_M
  have Pst_M1 : li_st (M1.1 6) (M1.1 177) ((M1.1 5 0).toInt) := li_st_mv (h1.1 6 (fun h => by first | exact (h : False).elim | omega)) (h1.1 177 (fun h => by first | exact (h : False).elim | omega)) (by omega) Pst_M
  refine l3_pop dL_law_745 rfl ?_
  refine l3_aload_n 3 dL_law_746 rfl ?_
  refine l3_callV (n := 0) (As := []) (by omega) dL_law_747 (k_X12_undo 1000 (by omega)  M1 hJ ) (Nat.le_of_ble_eq_true rfl) (Nat.le_of_ble_eq_true rfl) w_1799 w_1800 w_1801 w_112 w_1802 (by decide +kernel) rfl (by decide) sh_175 rfl rfl (Nat.le_of_ble_eq_true rfl) (fun r M2 h2 => ?_)
  have jh2 := h2
  obtain ⟨y2, rfl⟩ : ∃ y : Int32, r = some (.int y) := by first | exact ⟨_, h2.1.choose_spec⟩ | exact ⟨_, h2.1.choose_spec.1⟩ | (rcases h2.1 with ⟨e, -⟩ | ⟨e, -⟩ <;> exact ⟨_, e⟩)
  have hJ : li_J M2 := by first | exact h2.2.2 | exact h2.2.2.1
  have oM2_1_1 : (M2.1 1 1).toInt = (M1.1 1 1).toInt := tl_slot (h2.2.1.1 1 1 (fun h => by first | exact (h : False).elim | omega))
  have oM2_175_7 : (M2.1 175 7).toInt = (M1.1 175 7).toInt := tl_slot (h2.2.1.1 175 7 (fun h => by first | exact (h : False).elim | omega))
  have oM2_5_0 : (M2.1 5 0).toInt = (M1.1 5 0).toInt := tl_slot (h2.2.1.1 5 0 (fun h => by first | exact (h : False).elim | omega))
  have oM2_175_1 : (M2.1 175 1).toInt = (M1.1 175 1).toInt := tl_slot (h2.2.1.1 175 1 (fun h => by first | exact (h : False).elim | omega))
  have Pal_M2 : li_al (M2.1 2) (M2.1 180) := li_al_mv (funext fun i => h2.2.1.1 2 i (fun h => by first | exact (h : False).elim | omega)) (funext fun i => h2.2.1.1 180 i (fun h => by first | exact (h : False).elim | omega)) Pal_M1
  have Pst_M2 : li_st (M2.1 6) (M2.1 177) ((M2.1 5 0).toInt) := li_st_mv (funext fun i => h2.2.1.1 6 i (fun h => by first | exact (h : False).elim | omega)) (funext fun i => h2.2.1.1 177 i (fun h => by first | exact (h : False).elim | omega)) (by omega) Pst_M1
  refine l3_pop dL_law_750 rfl ?_
  refine l3_goto 1344 dL_law_751 (by decide) ?_
  exact KK _ M2 hJ (by omega) (by omega) (by omega) Pal_M2 Pst_M2
set_option maxRecDepth 100000 in
set_option maxHeartbeats 4000000 in
theorem lc_17 {l : Launch} {Z : li_Z} {b L kc : Nat} {xs : Nat → Int32} {x4 : Int32} {M : li_M} {Q : Option Value → li_M → Prop} (htr : l.stackTraces = false) (hk : kc ≤ 512) (hJ : li_J M) (v1 : vp_in (x4 + 1) L) (v2 : vp_in (x4 + 2) L) (v3 : vp_in (x4 + 3) L) (v4 : vp_in (x4 + 4) L) (hR0 : (M.1 1 1).toInt = (M.1 175 7).toInt) (hR1 : (M.1 5 0).toInt = (M.1 175 1).toInt) (Pal_M : li_al (M.1 2) (M.1 180)) (Pst_M : li_st (M.1 6) (M.1 177) ((M.1 5 0).toInt)) (KK : ∀ (k : Nat) (M : li_M), li_J M → k ≤ kc + 1 → (M.1 1 1).toInt = (M.1 175 7).toInt → (M.1 5 0).toInt = (M.1 175 1).toInt → li_al (M.1 2) (M.1 180) → li_st (M.1 6) (M.1 177) ((M.1 5 0).toInt) → l3_T l Z b L xs k 1344 [(4, .int x4), (0, .ref b), (1, .ref (Z.2.2 0)), (2, .ref (Z.2.2 175)), (3, .ref (Z.2.2 204))] [] M Q) : l3_T l Z b L xs kc 754 [(4, .int x4), (0, .ref b), (1, .ref (Z.2.2 0)), (2, .ref (Z.2.2 175)), (3, .ref (Z.2.2 204))] [] M Q := by
  have rJ7 := J_sl7 (M := M) hJ
  have rJ1 := J_sl1 (M := M) hJ
  refine l3_aload_n 2 dL_law_754 rfl ?_
  refine l3_aload_n 1 dL_law_755 rfl ?_
  refine l3_iload 0 dL_law_756 rfl ?_
  refine l3_iconst 1 dL_law_758 (by decide) ?_
  refine l3_iadd dL_law_759 ?_
  refine l3_sld dL_law_760 v1 ?_
  refine l3_callV (n := 1) (As := [.int (xs (x4 + 1 : Int32).toNatClampNeg)]) (by omega) dL_law_761 (k_X11_best 1000 (by omega) (xs (x4 + 1 : Int32).toNatClampNeg) M) (Nat.le_of_ble_eq_true rfl) (Nat.le_of_ble_eq_true rfl) w_984 w_985 w_986 w_101 w_987 (by decide +kernel) rfl (by decide) sh_0 rfl rfl (Nat.le_of_ble_eq_true rfl) (fun r M1 h1 => ?_)
  obtain ⟨⟨y1, rfl⟩, h1⟩ := h1
  have hJ := l3_J hJ h1 (fun i h => by first | exact (h : False).elim | omega)
  have oM1_1_1 : (M1.1 1 1).toInt = (M.1 1 1).toInt := tl_slot (congrFun (h1.1 1 (fun h => by first | exact (h : False).elim | omega)) 1)
  have oM1_175_7 : (M1.1 175 7).toInt = (M.1 175 7).toInt := tl_slot (congrFun (h1.1 175 (fun h => by first | exact (h : False).elim | omega)) 7)
  have oM1_5_0 : (M1.1 5 0).toInt = (M.1 5 0).toInt := tl_slot (congrFun (h1.1 5 (fun h => by first | exact (h : False).elim | omega)) 0)
  have oM1_175_1 : (M1.1 175 1).toInt = (M.1 175 1).toInt := tl_slot (congrFun (h1.1 175 (fun h => by first | exact (h : False).elim | omega)) 1)
  have Pal_M1 : li_al (M1.1 2) (M1.1 180) := li_al_mv (h1.1 2 (fun h => by first | exact (h : False).elim | omega)) (h1.1 180 (fun h => by first | exact (h : False).elim | omega)) Pal_M
  have Pst_M1 : li_st (M1.1 6) (M1.1 177) ((M1.1 5 0).toInt) := li_st_mv (h1.1 6 (fun h => by first | exact (h : False).elim | omega)) (h1.1 177 (fun h => by first | exact (h : False).elim | omega)) (by omega) Pst_M
  refine l3_pop dL_law_764 rfl ?_
  refine l3_aload_n 3 dL_law_765 rfl ?_
  refine l3_aload_n 1 dL_law_766 rfl ?_
  refine l3_iload 0 dL_law_767 rfl ?_
  refine l3_iconst 1 dL_law_769 (by decide) ?_
  refine l3_iadd dL_law_770 ?_
  refine l3_sld dL_law_771 v1 ?_
  refine l3_callV (n := 1) (As := [.int (xs (x4 + 1 : Int32).toNatClampNeg)]) (by omega) dL_law_772 (k_X12_best 1000 (by omega) (xs (x4 + 1 : Int32).toNatClampNeg) M1 hJ ) (Nat.le_of_ble_eq_true rfl) (Nat.le_of_ble_eq_true rfl) w_1803 w_1804 w_1805 w_112 w_1806 (by decide +kernel) rfl (by decide) sh_175 rfl rfl (Nat.le_of_ble_eq_true rfl) (fun r M2 h2 => ?_)
  have jh2 := h2
  obtain ⟨y2, rfl⟩ : ∃ y : Int32, r = some (.int y) := by first | exact ⟨_, h2.1.choose_spec⟩ | exact ⟨_, h2.1.choose_spec.1⟩ | (rcases h2.1 with ⟨e, -⟩ | ⟨e, -⟩ <;> exact ⟨_, e⟩)
  have hJ : li_J M2 := by first | exact h2.2.2 | exact h2.2.2.1
  have oM2_1_1 : (M2.1 1 1).toInt = (M1.1 1 1).toInt := tl_slot (h2.2.1.1 1 1 (fun h => by first | exact (h : False).elim | omega))
  have oM2_175_7 : (M2.1 175 7).toInt = (M1.1 175 7).toInt := tl_slot (h2.2.1.1 175 7 (fun h => by first | exact (h : False).elim | omega))
  have oM2_5_0 : (M2.1 5 0).toInt = (M1.1 5 0).toInt := tl_slot (h2.2.1.1 5 0 (fun h => by first | exact (h : False).elim | omega))
  have oM2_175_1 : (M2.1 175 1).toInt = (M1.1 175 1).toInt := tl_slot (h2.2.1.1 175 1 (fun h => by first | exact (h : False).elim | omega))
  have Pal_M2 : li_al (M2.1 2) (M2.1 180) := li_al_mv (funext fun i => h2.2.1.1 2 i (fun h => by first | exact (h : False).elim | omega)) (funext fun i => h2.2.1.1 180 i (fun h => by first | exact (h : False).elim | omega)) Pal_M1
  have Pst_M2 : li_st (M2.1 6) (M2.1 177) ((M2.1 5 0).toInt) := li_st_mv (funext fun i => h2.2.1.1 6 i (fun h => by first | exact (h : False).elim | omega)) (funext fun i => h2.2.1.1 177 i (fun h => by first | exact (h : False).elim | omega)) (by omega) Pst_M1
  refine l3_pop dL_law_775 rfl ?_
  refine l3_goto 1344 dL_law_776 (by decide) ?_
  exact KK _ M2 hJ (by omega) (by omega) (by omega) Pal_M2 Pst_M2
set_option maxRecDepth 100000 in
set_option maxHeartbeats 4000000 in
theorem lc_18 {l : Launch} {Z : li_Z} {b L kc : Nat} {xs : Nat → Int32} {x4 : Int32} {M : li_M} {Q : Option Value → li_M → Prop} (htr : l.stackTraces = false) (hk : kc ≤ 512) (hJ : li_J M) (v1 : vp_in (x4 + 1) L) (v2 : vp_in (x4 + 2) L) (v3 : vp_in (x4 + 3) L) (v4 : vp_in (x4 + 4) L) (hR0 : (M.1 1 1).toInt = (M.1 175 7).toInt) (hR1 : (M.1 5 0).toInt = (M.1 175 1).toInt) (Pal_M : li_al (M.1 2) (M.1 180)) (Pst_M : li_st (M.1 6) (M.1 177) ((M.1 5 0).toInt)) (KK : ∀ (k : Nat) (M : li_M), li_J M → k ≤ kc + 1 → (M.1 1 1).toInt = (M.1 175 7).toInt → (M.1 5 0).toInt = (M.1 175 1).toInt → li_al (M.1 2) (M.1 180) → li_st (M.1 6) (M.1 177) ((M.1 5 0).toInt) → l3_T l Z b L xs k 1344 [(4, .int x4), (0, .ref b), (1, .ref (Z.2.2 0)), (2, .ref (Z.2.2 175)), (3, .ref (Z.2.2 204))] [] M Q) : l3_T l Z b L xs kc 779 [(4, .int x4), (0, .ref b), (1, .ref (Z.2.2 0)), (2, .ref (Z.2.2 175)), (3, .ref (Z.2.2 204))] [] M Q := by
  have rJ7 := J_sl7 (M := M) hJ
  have rJ1 := J_sl1 (M := M) hJ
  refine l3_aload_n 2 dL_law_779 rfl ?_
  refine l3_aload_n 1 dL_law_780 rfl ?_
  refine l3_iload 0 dL_law_781 rfl ?_
  refine l3_iconst 1 dL_law_783 (by decide) ?_
  refine l3_iadd dL_law_784 ?_
  refine l3_sld dL_law_785 v1 ?_
  refine l3_callV (n := 1) (As := [.int (xs (x4 + 1 : Int32).toNatClampNeg)]) (by omega) dL_law_786 (k_X11_lacks 1000 (by omega) (xs (x4 + 1 : Int32).toNatClampNeg) M) (Nat.le_of_ble_eq_true rfl) (Nat.le_of_ble_eq_true rfl) w_1021 w_1022 w_1023 w_101 w_1024 (by decide +kernel) rfl (by decide) sh_0 rfl rfl (Nat.le_of_ble_eq_true rfl) (fun r M1 h1 => ?_)
  obtain ⟨⟨y1, rfl⟩, h1⟩ := h1
  have hJ := l3_J hJ h1 (fun i h => by first | exact (h : False).elim | omega)
  have oM1_1_1 : (M1.1 1 1).toInt = (M.1 1 1).toInt := tl_slot (congrFun (h1.1 1 (fun h => by first | exact (h : False).elim | omega)) 1)
  have oM1_175_7 : (M1.1 175 7).toInt = (M.1 175 7).toInt := tl_slot (congrFun (h1.1 175 (fun h => by first | exact (h : False).elim | omega)) 7)
  have oM1_5_0 : (M1.1 5 0).toInt = (M.1 5 0).toInt := tl_slot (congrFun (h1.1 5 (fun h => by first | exact (h : False).elim | omega)) 0)
  have oM1_175_1 : (M1.1 175 1).toInt = (M.1 175 1).toInt := tl_slot (congrFun (h1.1 175 (fun h => by first | exact (h : False).elim | omega)) 1)
  have Pal_M1 : li_al (M1.1 2) (M1.1 180) := li_al_mv (h1.1 2 (fun h => by first | exact (h : False).elim | omega)) (h1.1 180 (fun h => by first | exact (h : False).elim | omega)) Pal_M
  have Pst_M1 : li_st (M1.1 6) (M1.1 177) ((M1.1 5 0).toInt) := li_st_mv (h1.1 6 (fun h => by first | exact (h : False).elim | omega)) (h1.1 177 (fun h => by first | exact (h : False).elim | omega)) (by omega) Pst_M
  refine l3_pop dL_law_789 rfl ?_
  refine l3_aload_n 3 dL_law_790 rfl ?_
  refine l3_aload_n 1 dL_law_791 rfl ?_
  refine l3_iload 0 dL_law_792 rfl ?_
  refine l3_iconst 1 dL_law_794 (by decide) ?_
  refine l3_iadd dL_law_795 ?_
  refine l3_sld dL_law_796 v1 ?_
  refine l3_callV (n := 1) (As := [.int (xs (x4 + 1 : Int32).toNatClampNeg)]) (by omega) dL_law_797 (k_X12_lacks 1000 (by omega) (xs (x4 + 1 : Int32).toNatClampNeg) M1 hJ ) (Nat.le_of_ble_eq_true rfl) (Nat.le_of_ble_eq_true rfl) w_1835 w_1836 w_1837 w_112 w_1838 (by decide +kernel) rfl (by decide) sh_175 rfl rfl (Nat.le_of_ble_eq_true rfl) (fun r M2 h2 => ?_)
  have jh2 := h2
  obtain ⟨y2, rfl⟩ : ∃ y : Int32, r = some (.int y) := by first | exact ⟨_, h2.1.choose_spec⟩ | exact ⟨_, h2.1.choose_spec.1⟩ | (rcases h2.1 with ⟨e, -⟩ | ⟨e, -⟩ <;> exact ⟨_, e⟩)
  have hJ : li_J M2 := by first | exact h2.2.2 | exact h2.2.2.1
  have oM2_1_1 : (M2.1 1 1).toInt = (M1.1 1 1).toInt := tl_slot (h2.2.1.1 1 1 (fun h => by first | exact (h : False).elim | omega))
  have oM2_175_7 : (M2.1 175 7).toInt = (M1.1 175 7).toInt := tl_slot (h2.2.1.1 175 7 (fun h => by first | exact (h : False).elim | omega))
  have oM2_5_0 : (M2.1 5 0).toInt = (M1.1 5 0).toInt := tl_slot (h2.2.1.1 5 0 (fun h => by first | exact (h : False).elim | omega))
  have oM2_175_1 : (M2.1 175 1).toInt = (M1.1 175 1).toInt := tl_slot (h2.2.1.1 175 1 (fun h => by first | exact (h : False).elim | omega))
  have Pal_M2 : li_al (M2.1 2) (M2.1 180) := li_al_mv (funext fun i => h2.2.1.1 2 i (fun h => by first | exact (h : False).elim | omega)) (funext fun i => h2.2.1.1 180 i (fun h => by first | exact (h : False).elim | omega)) Pal_M1
  have Pst_M2 : li_st (M2.1 6) (M2.1 177) ((M2.1 5 0).toInt) := li_st_mv (funext fun i => h2.2.1.1 6 i (fun h => by first | exact (h : False).elim | omega)) (funext fun i => h2.2.1.1 177 i (fun h => by first | exact (h : False).elim | omega)) (by omega) Pst_M1
  refine l3_pop dL_law_800 rfl ?_
  refine l3_goto 1344 dL_law_801 (by decide) ?_
  exact KK _ M2 hJ (by omega) (by omega) (by omega) Pal_M2 Pst_M2
set_option maxRecDepth 100000 in
set_option maxHeartbeats 4000000 in
theorem lc_19 {l : Launch} {Z : li_Z} {b L kc : Nat} {xs : Nat → Int32} {x4 : Int32} {M : li_M} {Q : Option Value → li_M → Prop} (htr : l.stackTraces = false) (hk : kc ≤ 512) (hJ : li_J M) (v1 : vp_in (x4 + 1) L) (v2 : vp_in (x4 + 2) L) (v3 : vp_in (x4 + 3) L) (v4 : vp_in (x4 + 4) L) (hR0 : (M.1 1 1).toInt = (M.1 175 7).toInt) (hR1 : (M.1 5 0).toInt = (M.1 175 1).toInt) (Pal_M : li_al (M.1 2) (M.1 180)) (Pst_M : li_st (M.1 6) (M.1 177) ((M.1 5 0).toInt)) (KK : ∀ (k : Nat) (M : li_M), li_J M → k ≤ kc + 1 → (M.1 1 1).toInt = (M.1 175 7).toInt → (M.1 5 0).toInt = (M.1 175 1).toInt → li_al (M.1 2) (M.1 180) → li_st (M.1 6) (M.1 177) ((M.1 5 0).toInt) → l3_T l Z b L xs k 1344 [(4, .int x4), (0, .ref b), (1, .ref (Z.2.2 0)), (2, .ref (Z.2.2 175)), (3, .ref (Z.2.2 204))] [] M Q) : l3_T l Z b L xs kc 804 [(4, .int x4), (0, .ref b), (1, .ref (Z.2.2 0)), (2, .ref (Z.2.2 175)), (3, .ref (Z.2.2 204))] [] M Q := by
  have rJ7 := J_sl7 (M := M) hJ
  have rJ1 := J_sl1 (M := M) hJ
  refine l3_aload_n 2 dL_law_804 rfl ?_
  refine l3_callV (n := 0) (As := []) (by omega) dL_law_805 (k_X11_pool 1000 (by omega)  M) (Nat.le_of_ble_eq_true rfl) (Nat.le_of_ble_eq_true rfl) w_1031 w_1032 w_1033 w_101 w_1034 (by decide +kernel) rfl (by decide) sh_0 rfl rfl (Nat.le_of_ble_eq_true rfl) (fun r M1 h1 => ?_)
  obtain ⟨⟨y1, rfl⟩, h1⟩ := h1
  have hJ := l3_J hJ h1 (fun i h => by first | exact (h : False).elim | omega)
  have oM1_1_1 : (M1.1 1 1).toInt = (M.1 1 1).toInt := tl_slot (congrFun (h1.1 1 (fun h => by first | exact (h : False).elim | omega)) 1)
  have oM1_175_7 : (M1.1 175 7).toInt = (M.1 175 7).toInt := tl_slot (congrFun (h1.1 175 (fun h => by first | exact (h : False).elim | omega)) 7)
  have oM1_5_0 : (M1.1 5 0).toInt = (M.1 5 0).toInt := tl_slot (congrFun (h1.1 5 (fun h => by first | exact (h : False).elim | omega)) 0)
  have oM1_175_1 : (M1.1 175 1).toInt = (M.1 175 1).toInt := tl_slot (congrFun (h1.1 175 (fun h => by first | exact (h : False).elim | omega)) 1)
  have Pal_M1 : li_al (M1.1 2) (M1.1 180) := li_al_mv (h1.1 2 (fun h => by first | exact (h : False).elim | omega)) (h1.1 180 (fun h => by first | exact (h : False).elim | omega)) Pal_M
  have Pst_M1 : li_st (M1.1 6) (M1.1 177) ((M1.1 5 0).toInt) := li_st_mv (h1.1 6 (fun h => by first | exact (h : False).elim | omega)) (h1.1 177 (fun h => by first | exact (h : False).elim | omega)) (by omega) Pst_M
  refine l3_pop dL_law_808 rfl ?_
  refine l3_aload_n 3 dL_law_809 rfl ?_
  refine l3_callV (n := 0) (As := []) (by omega) dL_law_810 (k_X12_pool 1000 (by omega)  M1 hJ ) (Nat.le_of_ble_eq_true rfl) (Nat.le_of_ble_eq_true rfl) w_1839 w_1840 w_1841 w_112 w_1842 (by decide +kernel) rfl (by decide) sh_175 rfl rfl (Nat.le_of_ble_eq_true rfl) (fun r M2 h2 => ?_)
  have jh2 := h2
  obtain ⟨y2, rfl⟩ : ∃ y : Int32, r = some (.int y) := by first | exact ⟨_, h2.1.choose_spec⟩ | exact ⟨_, h2.1.choose_spec.1⟩ | (rcases h2.1 with ⟨e, -⟩ | ⟨e, -⟩ <;> exact ⟨_, e⟩)
  have hJ : li_J M2 := by first | exact h2.2.2 | exact h2.2.2.1
  have oM2_1_1 : (M2.1 1 1).toInt = (M1.1 1 1).toInt := tl_slot (h2.2.1.1 1 1 (fun h => by first | exact (h : False).elim | omega))
  have oM2_175_7 : (M2.1 175 7).toInt = (M1.1 175 7).toInt := tl_slot (h2.2.1.1 175 7 (fun h => by first | exact (h : False).elim | omega))
  have oM2_5_0 : (M2.1 5 0).toInt = (M1.1 5 0).toInt := tl_slot (h2.2.1.1 5 0 (fun h => by first | exact (h : False).elim | omega))
  have oM2_175_1 : (M2.1 175 1).toInt = (M1.1 175 1).toInt := tl_slot (h2.2.1.1 175 1 (fun h => by first | exact (h : False).elim | omega))
  have Pal_M2 : li_al (M2.1 2) (M2.1 180) := li_al_mv (funext fun i => h2.2.1.1 2 i (fun h => by first | exact (h : False).elim | omega)) (funext fun i => h2.2.1.1 180 i (fun h => by first | exact (h : False).elim | omega)) Pal_M1
  have Pst_M2 : li_st (M2.1 6) (M2.1 177) ((M2.1 5 0).toInt) := li_st_mv (funext fun i => h2.2.1.1 6 i (fun h => by first | exact (h : False).elim | omega)) (funext fun i => h2.2.1.1 177 i (fun h => by first | exact (h : False).elim | omega)) (by omega) Pst_M1
  refine l3_pop dL_law_813 rfl ?_
  refine l3_goto 1344 dL_law_814 (by decide) ?_
  exact KK _ M2 hJ (by omega) (by omega) (by omega) Pal_M2 Pst_M2
set_option maxRecDepth 100000 in
set_option maxHeartbeats 4000000 in
theorem lc_20 {l : Launch} {Z : li_Z} {b L kc : Nat} {xs : Nat → Int32} {x4 : Int32} {M : li_M} {Q : Option Value → li_M → Prop} (htr : l.stackTraces = false) (hk : kc ≤ 512) (hJ : li_J M) (v1 : vp_in (x4 + 1) L) (v2 : vp_in (x4 + 2) L) (v3 : vp_in (x4 + 3) L) (v4 : vp_in (x4 + 4) L) (hR0 : (M.1 1 1).toInt = (M.1 175 7).toInt) (hR1 : (M.1 5 0).toInt = (M.1 175 1).toInt) (Pal_M : li_al (M.1 2) (M.1 180)) (Pst_M : li_st (M.1 6) (M.1 177) ((M.1 5 0).toInt)) (KK : ∀ (k : Nat) (M : li_M), li_J M → k ≤ kc + 1 → (M.1 1 1).toInt = (M.1 175 7).toInt → (M.1 5 0).toInt = (M.1 175 1).toInt → li_al (M.1 2) (M.1 180) → li_st (M.1 6) (M.1 177) ((M.1 5 0).toInt) → l3_T l Z b L xs k 1344 [(4, .int x4), (0, .ref b), (1, .ref (Z.2.2 0)), (2, .ref (Z.2.2 175)), (3, .ref (Z.2.2 204))] [] M Q) : l3_T l Z b L xs kc 817 [(4, .int x4), (0, .ref b), (1, .ref (Z.2.2 0)), (2, .ref (Z.2.2 175)), (3, .ref (Z.2.2 204))] [] M Q := by
  have rJ7 := J_sl7 (M := M) hJ
  have rJ1 := J_sl1 (M := M) hJ
  refine l3_aload_n 2 dL_law_817 rfl ?_
  refine l3_aload_n 1 dL_law_818 rfl ?_
  refine l3_iload 0 dL_law_819 rfl ?_
  refine l3_iconst 1 dL_law_821 (by decide) ?_
  refine l3_iadd dL_law_822 ?_
  refine l3_sld dL_law_823 v1 ?_
  refine l3_callV (n := 1) (As := [.int (xs (x4 + 1 : Int32).toNatClampNeg)]) (by omega) dL_law_824 (k_X11_gifts 1000 (by omega) (xs (x4 + 1 : Int32).toNatClampNeg) M) (Nat.le_of_ble_eq_true rfl) (Nat.le_of_ble_eq_true rfl) w_1037 w_1038 w_1039 w_101 w_1040 (by decide +kernel) rfl (by decide) sh_0 rfl rfl (Nat.le_of_ble_eq_true rfl) (fun r M1 h1 => ?_)
  obtain ⟨⟨y1, rfl⟩, h1⟩ := h1
  have hJ := l3_J hJ h1 (fun i h => by first | exact (h : False).elim | omega)
  have oM1_1_1 : (M1.1 1 1).toInt = (M.1 1 1).toInt := tl_slot (congrFun (h1.1 1 (fun h => by first | exact (h : False).elim | omega)) 1)
  have oM1_175_7 : (M1.1 175 7).toInt = (M.1 175 7).toInt := tl_slot (congrFun (h1.1 175 (fun h => by first | exact (h : False).elim | omega)) 7)
  have oM1_5_0 : (M1.1 5 0).toInt = (M.1 5 0).toInt := tl_slot (congrFun (h1.1 5 (fun h => by first | exact (h : False).elim | omega)) 0)
  have oM1_175_1 : (M1.1 175 1).toInt = (M.1 175 1).toInt := tl_slot (congrFun (h1.1 175 (fun h => by first | exact (h : False).elim | omega)) 1)
  have Pal_M1 : li_al (M1.1 2) (M1.1 180) := li_al_mv (h1.1 2 (fun h => by first | exact (h : False).elim | omega)) (h1.1 180 (fun h => by first | exact (h : False).elim | omega)) Pal_M
  have Pst_M1 : li_st (M1.1 6) (M1.1 177) ((M1.1 5 0).toInt) := li_st_mv (h1.1 6 (fun h => by first | exact (h : False).elim | omega)) (h1.1 177 (fun h => by first | exact (h : False).elim | omega)) (by omega) Pst_M
  refine l3_pop dL_law_827 rfl ?_
  refine l3_aload_n 3 dL_law_828 rfl ?_
  refine l3_aload_n 1 dL_law_829 rfl ?_
  refine l3_iload 0 dL_law_830 rfl ?_
  refine l3_iconst 1 dL_law_832 (by decide) ?_
  refine l3_iadd dL_law_833 ?_
  refine l3_sld dL_law_834 v1 ?_
  refine l3_callV (n := 1) (As := [.int (xs (x4 + 1 : Int32).toNatClampNeg)]) (by omega) dL_law_835 (k_X12_gifts 1000 (by omega) (xs (x4 + 1 : Int32).toNatClampNeg) M1 hJ ) (Nat.le_of_ble_eq_true rfl) (Nat.le_of_ble_eq_true rfl) w_1847 w_1848 w_1849 w_112 w_1850 (by decide +kernel) rfl (by decide) sh_175 rfl rfl (Nat.le_of_ble_eq_true rfl) (fun r M2 h2 => ?_)
  have jh2 := h2
  obtain ⟨y2, rfl⟩ : ∃ y : Int32, r = some (.int y) := by first | exact ⟨_, h2.1.choose_spec⟩ | exact ⟨_, h2.1.choose_spec.1⟩ | (rcases h2.1 with ⟨e, -⟩ | ⟨e, -⟩ <;> exact ⟨_, e⟩)
  have hJ : li_J M2 := by first | exact h2.2.2 | exact h2.2.2.1
  have oM2_1_1 : (M2.1 1 1).toInt = (M1.1 1 1).toInt := tl_slot (h2.2.1.1 1 1 (fun h => by first | exact (h : False).elim | omega))
  have oM2_175_7 : (M2.1 175 7).toInt = (M1.1 175 7).toInt := tl_slot (h2.2.1.1 175 7 (fun h => by first | exact (h : False).elim | omega))
  have oM2_5_0 : (M2.1 5 0).toInt = (M1.1 5 0).toInt := tl_slot (h2.2.1.1 5 0 (fun h => by first | exact (h : False).elim | omega))
  have oM2_175_1 : (M2.1 175 1).toInt = (M1.1 175 1).toInt := tl_slot (h2.2.1.1 175 1 (fun h => by first | exact (h : False).elim | omega))
  have Pal_M2 : li_al (M2.1 2) (M2.1 180) := li_al_mv (funext fun i => h2.2.1.1 2 i (fun h => by first | exact (h : False).elim | omega)) (funext fun i => h2.2.1.1 180 i (fun h => by first | exact (h : False).elim | omega)) Pal_M1
  have Pst_M2 : li_st (M2.1 6) (M2.1 177) ((M2.1 5 0).toInt) := li_st_mv (funext fun i => h2.2.1.1 6 i (fun h => by first | exact (h : False).elim | omega)) (funext fun i => h2.2.1.1 177 i (fun h => by first | exact (h : False).elim | omega)) (by omega) Pst_M1
  refine l3_pop dL_law_838 rfl ?_
  refine l3_goto 1344 dL_law_839 (by decide) ?_
  exact KK _ M2 hJ (by omega) (by omega) (by omega) Pal_M2 Pst_M2
set_option maxRecDepth 100000 in
set_option maxHeartbeats 4000000 in
theorem lc_21 {l : Launch} {Z : li_Z} {b L kc : Nat} {xs : Nat → Int32} {x4 : Int32} {M : li_M} {Q : Option Value → li_M → Prop} (htr : l.stackTraces = false) (hk : kc ≤ 512) (hJ : li_J M) (v1 : vp_in (x4 + 1) L) (v2 : vp_in (x4 + 2) L) (v3 : vp_in (x4 + 3) L) (v4 : vp_in (x4 + 4) L) (hR0 : (M.1 1 1).toInt = (M.1 175 7).toInt) (hR1 : (M.1 5 0).toInt = (M.1 175 1).toInt) (Pal_M : li_al (M.1 2) (M.1 180)) (Pst_M : li_st (M.1 6) (M.1 177) ((M.1 5 0).toInt)) (KK : ∀ (k : Nat) (M : li_M), li_J M → k ≤ kc + 1 → (M.1 1 1).toInt = (M.1 175 7).toInt → (M.1 5 0).toInt = (M.1 175 1).toInt → li_al (M.1 2) (M.1 180) → li_st (M.1 6) (M.1 177) ((M.1 5 0).toInt) → l3_T l Z b L xs k 1344 [(4, .int x4), (0, .ref b), (1, .ref (Z.2.2 0)), (2, .ref (Z.2.2 175)), (3, .ref (Z.2.2 204))] [] M Q) : l3_T l Z b L xs kc 842 [(4, .int x4), (0, .ref b), (1, .ref (Z.2.2 0)), (2, .ref (Z.2.2 175)), (3, .ref (Z.2.2 204))] [] M Q := by
  have rJ7 := J_sl7 (M := M) hJ
  have rJ1 := J_sl1 (M := M) hJ
  refine l3_aload_n 2 dL_law_842 rfl ?_
  refine l3_callV (n := 0) (As := []) (by omega) dL_law_843 (k_X11_mute 1000 (by omega)  M) (Nat.le_of_ble_eq_true rfl) (Nat.le_of_ble_eq_true rfl) w_1049 w_1050 w_1051 w_101 w_1052 (by decide +kernel) rfl (by decide) sh_0 rfl rfl (Nat.le_of_ble_eq_true rfl) (fun r M1 h1 => ?_)
  obtain ⟨⟨y1, rfl⟩, h1⟩ := h1
  have hJ := l3_J hJ h1 (fun i h => by first | exact (h : False).elim | omega)
  have oM1_1_1 : (M1.1 1 1).toInt = (M.1 1 1).toInt := tl_slot (congrFun (h1.1 1 (fun h => by first | exact (h : False).elim | omega)) 1)
  have oM1_175_7 : (M1.1 175 7).toInt = (M.1 175 7).toInt := tl_slot (congrFun (h1.1 175 (fun h => by first | exact (h : False).elim | omega)) 7)
  have oM1_5_0 : (M1.1 5 0).toInt = (M.1 5 0).toInt := tl_slot (congrFun (h1.1 5 (fun h => by first | exact (h : False).elim | omega)) 0)
  have oM1_175_1 : (M1.1 175 1).toInt = (M.1 175 1).toInt := tl_slot (congrFun (h1.1 175 (fun h => by first | exact (h : False).elim | omega)) 1)
  have Pal_M1 : li_al (M1.1 2) (M1.1 180) := li_al_mv (h1.1 2 (fun h => by first | exact (h : False).elim | omega)) (h1.1 180 (fun h => by first | exact (h : False).elim | omega)) Pal_M
  have Pst_M1 : li_st (M1.1 6) (M1.1 177) ((M1.1 5 0).toInt) := li_st_mv (h1.1 6 (fun h => by first | exact (h : False).elim | omega)) (h1.1 177 (fun h => by first | exact (h : False).elim | omega)) (by omega) Pst_M
  refine l3_pop dL_law_846 rfl ?_
  refine l3_aload_n 3 dL_law_847 rfl ?_
  refine l3_callV (n := 0) (As := []) (by omega) dL_law_848 (k_X12_mute 1000 (by omega)  M1 hJ ) (Nat.le_of_ble_eq_true rfl) (Nat.le_of_ble_eq_true rfl) w_1851 w_1852 w_1853 w_112 w_1854 (by decide +kernel) rfl (by decide) sh_175 rfl rfl (Nat.le_of_ble_eq_true rfl) (fun r M2 h2 => ?_)
  have jh2 := h2
  obtain ⟨y2, rfl⟩ : ∃ y : Int32, r = some (.int y) := by first | exact ⟨_, h2.1.choose_spec⟩ | exact ⟨_, h2.1.choose_spec.1⟩ | (rcases h2.1 with ⟨e, -⟩ | ⟨e, -⟩ <;> exact ⟨_, e⟩)
  have hJ : li_J M2 := by first | exact h2.2.2 | exact h2.2.2.1
  have oM2_1_1 : (M2.1 1 1).toInt = (M1.1 1 1).toInt := tl_slot (h2.2.1.1 1 1 (fun h => by first | exact (h : False).elim | omega))
  have oM2_175_7 : (M2.1 175 7).toInt = (M1.1 175 7).toInt := tl_slot (h2.2.1.1 175 7 (fun h => by first | exact (h : False).elim | omega))
  have oM2_5_0 : (M2.1 5 0).toInt = (M1.1 5 0).toInt := tl_slot (h2.2.1.1 5 0 (fun h => by first | exact (h : False).elim | omega))
  have oM2_175_1 : (M2.1 175 1).toInt = (M1.1 175 1).toInt := tl_slot (h2.2.1.1 175 1 (fun h => by first | exact (h : False).elim | omega))
  have Pal_M2 : li_al (M2.1 2) (M2.1 180) := li_al_mv (funext fun i => h2.2.1.1 2 i (fun h => by first | exact (h : False).elim | omega)) (funext fun i => h2.2.1.1 180 i (fun h => by first | exact (h : False).elim | omega)) Pal_M1
  have Pst_M2 : li_st (M2.1 6) (M2.1 177) ((M2.1 5 0).toInt) := li_st_mv (funext fun i => h2.2.1.1 6 i (fun h => by first | exact (h : False).elim | omega)) (funext fun i => h2.2.1.1 177 i (fun h => by first | exact (h : False).elim | omega)) (by omega) Pst_M1
  refine l3_pop dL_law_851 rfl ?_
  refine l3_goto 1344 dL_law_852 (by decide) ?_
  exact KK _ M2 hJ (by omega) (by omega) (by omega) Pal_M2 Pst_M2
set_option maxRecDepth 100000 in
set_option maxHeartbeats 4000000 in
theorem lc_22 {l : Launch} {Z : li_Z} {b L kc : Nat} {xs : Nat → Int32} {x4 : Int32} {M : li_M} {Q : Option Value → li_M → Prop} (htr : l.stackTraces = false) (hk : kc ≤ 512) (hJ : li_J M) (v1 : vp_in (x4 + 1) L) (v2 : vp_in (x4 + 2) L) (v3 : vp_in (x4 + 3) L) (v4 : vp_in (x4 + 4) L) (hR0 : (M.1 1 1).toInt = (M.1 175 7).toInt) (hR1 : (M.1 5 0).toInt = (M.1 175 1).toInt) (Pal_M : li_al (M.1 2) (M.1 180)) (Pst_M : li_st (M.1 6) (M.1 177) ((M.1 5 0).toInt)) (KK : ∀ (k : Nat) (M : li_M), li_J M → k ≤ kc + 1 → (M.1 1 1).toInt = (M.1 175 7).toInt → (M.1 5 0).toInt = (M.1 175 1).toInt → li_al (M.1 2) (M.1 180) → li_st (M.1 6) (M.1 177) ((M.1 5 0).toInt) → l3_T l Z b L xs k 1344 [(4, .int x4), (0, .ref b), (1, .ref (Z.2.2 0)), (2, .ref (Z.2.2 175)), (3, .ref (Z.2.2 204))] [] M Q) : l3_T l Z b L xs kc 855 [(4, .int x4), (0, .ref b), (1, .ref (Z.2.2 0)), (2, .ref (Z.2.2 175)), (3, .ref (Z.2.2 204))] [] M Q := by
  have rJ7 := J_sl7 (M := M) hJ
  have rJ1 := J_sl1 (M := M) hJ
  refine l3_aload_n 2 dL_law_855 rfl ?_
  refine l3_aload_n 1 dL_law_856 rfl ?_
  refine l3_iload 0 dL_law_857 rfl ?_
  refine l3_iconst 1 dL_law_859 (by decide) ?_
  refine l3_iadd dL_law_860 ?_
  refine l3_sld dL_law_861 v1 ?_
  refine l3_aload_n 1 dL_law_862 rfl ?_
  refine l3_iload 0 dL_law_863 rfl ?_
  refine l3_iconst 2 dL_law_865 (by decide) ?_
  refine l3_iadd dL_law_866 ?_
  refine l3_sld dL_law_867 v2 ?_
  refine l3_aload_n 1 dL_law_868 rfl ?_
  refine l3_iload 0 dL_law_869 rfl ?_
  refine l3_iconst 3 dL_law_871 (by decide) ?_
  refine l3_iadd dL_law_872 ?_
  refine l3_sld dL_law_873 v3 ?_
  refine l3_callV (n := 3) (As := [.int (xs (x4 + 1 : Int32).toNatClampNeg), .int (xs (x4 + 2 : Int32).toNatClampNeg), .int (xs (x4 + 3 : Int32).toNatClampNeg)]) (by omega) dL_law_874 (k_X11_relay 1000 (by omega) (xs (x4 + 1 : Int32).toNatClampNeg) (xs (x4 + 2 : Int32).toNatClampNeg) (xs (x4 + 3 : Int32).toNatClampNeg) M) (Nat.le_of_ble_eq_true rfl) (Nat.le_of_ble_eq_true rfl) w_1057 w_1058 w_1059 w_101 w_1060 (by decide +kernel) rfl (by decide) sh_0 rfl rfl (Nat.le_of_ble_eq_true rfl) (fun r M1 h1 => ?_)
  obtain ⟨⟨y1, rfl⟩, h1⟩ := h1
  have hJ := l3_J hJ h1 (fun i h => by first | exact (h : False).elim | omega)
  have oM1_1_1 : (M1.1 1 1).toInt = (M.1 1 1).toInt := tl_slot (congrFun (h1.1 1 (fun h => by first | exact (h : False).elim | omega)) 1)
  have oM1_175_7 : (M1.1 175 7).toInt = (M.1 175 7).toInt := tl_slot (congrFun (h1.1 175 (fun h => by first | exact (h : False).elim | omega)) 7)
  have oM1_5_0 : (M1.1 5 0).toInt = (M.1 5 0).toInt := tl_slot (congrFun (h1.1 5 (fun h => by first | exact (h : False).elim | omega)) 0)
  have oM1_175_1 : (M1.1 175 1).toInt = (M.1 175 1).toInt := tl_slot (congrFun (h1.1 175 (fun h => by first | exact (h : False).elim | omega)) 1)
  have Pal_M1 : li_al (M1.1 2) (M1.1 180) := li_al_mv (h1.1 2 (fun h => by first | exact (h : False).elim | omega)) (h1.1 180 (fun h => by first | exact (h : False).elim | omega)) Pal_M
  have Pst_M1 : li_st (M1.1 6) (M1.1 177) ((M1.1 5 0).toInt) := li_st_mv (h1.1 6 (fun h => by first | exact (h : False).elim | omega)) (h1.1 177 (fun h => by first | exact (h : False).elim | omega)) (by omega) Pst_M
  refine l3_pop dL_law_877 rfl ?_
  refine l3_aload_n 3 dL_law_878 rfl ?_
  refine l3_aload_n 1 dL_law_879 rfl ?_
  refine l3_iload 0 dL_law_880 rfl ?_
  refine l3_iconst 1 dL_law_882 (by decide) ?_
  refine l3_iadd dL_law_883 ?_
  refine l3_sld dL_law_884 v1 ?_
  refine l3_aload_n 1 dL_law_885 rfl ?_
  refine l3_iload 0 dL_law_886 rfl ?_
  refine l3_iconst 2 dL_law_888 (by decide) ?_
  refine l3_iadd dL_law_889 ?_
  refine l3_sld dL_law_890 v2 ?_
  refine l3_aload_n 1 dL_law_891 rfl ?_
  refine l3_iload 0 dL_law_892 rfl ?_
  refine l3_iconst 3 dL_law_894 (by decide) ?_
  refine l3_iadd dL_law_895 ?_
  refine l3_sld dL_law_896 v3 ?_
  refine l3_callV (n := 3) (As := [.int (xs (x4 + 1 : Int32).toNatClampNeg), .int (xs (x4 + 2 : Int32).toNatClampNeg), .int (xs (x4 + 3 : Int32).toNatClampNeg)]) (by omega) dL_law_897 (k_X12_relay 1000 (by omega) (xs (x4 + 1 : Int32).toNatClampNeg) (xs (x4 + 2 : Int32).toNatClampNeg) (xs (x4 + 3 : Int32).toNatClampNeg) M1 hJ ) (Nat.le_of_ble_eq_true rfl) (Nat.le_of_ble_eq_true rfl) w_1855 w_1856 w_1857 w_112 w_1858 (by decide +kernel) rfl (by decide) sh_175 rfl rfl (Nat.le_of_ble_eq_true rfl) (fun r M2 h2 => ?_)
  have jh2 := h2
  obtain ⟨y2, rfl⟩ : ∃ y : Int32, r = some (.int y) := by first | exact ⟨_, h2.1.choose_spec⟩ | exact ⟨_, h2.1.choose_spec.1⟩ | (rcases h2.1 with ⟨e, -⟩ | ⟨e, -⟩ <;> exact ⟨_, e⟩)
  have hJ : li_J M2 := by first | exact h2.2.2 | exact h2.2.2.1
  have oM2_1_1 : (M2.1 1 1).toInt = (M1.1 1 1).toInt := tl_slot (h2.2.1.1 1 1 (fun h => by first | exact (h : False).elim | omega))
  have oM2_175_7 : (M2.1 175 7).toInt = (M1.1 175 7).toInt := tl_slot (h2.2.1.1 175 7 (fun h => by first | exact (h : False).elim | omega))
  have oM2_5_0 : (M2.1 5 0).toInt = (M1.1 5 0).toInt := tl_slot (h2.2.1.1 5 0 (fun h => by first | exact (h : False).elim | omega))
  have oM2_175_1 : (M2.1 175 1).toInt = (M1.1 175 1).toInt := tl_slot (h2.2.1.1 175 1 (fun h => by first | exact (h : False).elim | omega))
  have Pal_M2 : li_al (M2.1 2) (M2.1 180) := li_al_mv (funext fun i => h2.2.1.1 2 i (fun h => by first | exact (h : False).elim | omega)) (funext fun i => h2.2.1.1 180 i (fun h => by first | exact (h : False).elim | omega)) Pal_M1
  have Pst_M2 : li_st (M2.1 6) (M2.1 177) ((M2.1 5 0).toInt) := li_st_mv (funext fun i => h2.2.1.1 6 i (fun h => by first | exact (h : False).elim | omega)) (funext fun i => h2.2.1.1 177 i (fun h => by first | exact (h : False).elim | omega)) (by omega) Pst_M1
  refine l3_pop dL_law_900 rfl ?_
  refine l3_goto 1344 dL_law_901 (by decide) ?_
  exact KK _ M2 hJ (by omega) (by omega) (by omega) Pal_M2 Pst_M2
set_option maxRecDepth 100000 in
set_option maxHeartbeats 4000000 in
theorem lc_23 {l : Launch} {Z : li_Z} {b L kc : Nat} {xs : Nat → Int32} {x4 : Int32} {M : li_M} {Q : Option Value → li_M → Prop} (htr : l.stackTraces = false) (hk : kc ≤ 512) (hJ : li_J M) (v1 : vp_in (x4 + 1) L) (v2 : vp_in (x4 + 2) L) (v3 : vp_in (x4 + 3) L) (v4 : vp_in (x4 + 4) L) (hR0 : (M.1 1 1).toInt = (M.1 175 7).toInt) (hR1 : (M.1 5 0).toInt = (M.1 175 1).toInt) (Pal_M : li_al (M.1 2) (M.1 180)) (Pst_M : li_st (M.1 6) (M.1 177) ((M.1 5 0).toInt)) (KK : ∀ (k : Nat) (M : li_M), li_J M → k ≤ kc + 1 → (M.1 1 1).toInt = (M.1 175 7).toInt → (M.1 5 0).toInt = (M.1 175 1).toInt → li_al (M.1 2) (M.1 180) → li_st (M.1 6) (M.1 177) ((M.1 5 0).toInt) → l3_T l Z b L xs k 1344 [(4, .int x4), (0, .ref b), (1, .ref (Z.2.2 0)), (2, .ref (Z.2.2 175)), (3, .ref (Z.2.2 204))] [] M Q) : l3_T l Z b L xs kc 904 [(4, .int x4), (0, .ref b), (1, .ref (Z.2.2 0)), (2, .ref (Z.2.2 175)), (3, .ref (Z.2.2 204))] [] M Q := by
  have rJ7 := J_sl7 (M := M) hJ
  have rJ1 := J_sl1 (M := M) hJ
  refine l3_aload_n 2 dL_law_904 rfl ?_
  refine l3_aload_n 1 dL_law_905 rfl ?_
  refine l3_iload 0 dL_law_906 rfl ?_
  refine l3_iconst 1 dL_law_908 (by decide) ?_
  refine l3_iadd dL_law_909 ?_
  refine l3_sld dL_law_910 v1 ?_
  refine l3_aload_n 1 dL_law_911 rfl ?_
  refine l3_iload 0 dL_law_912 rfl ?_
  refine l3_iconst 2 dL_law_914 (by decide) ?_
  refine l3_iadd dL_law_915 ?_
  refine l3_sld dL_law_916 v2 ?_
  refine l3_aload_n 1 dL_law_917 rfl ?_
  refine l3_iload 0 dL_law_918 rfl ?_
  refine l3_iconst 3 dL_law_920 (by decide) ?_
  refine l3_iadd dL_law_921 ?_
  refine l3_sld dL_law_922 v3 ?_
  refine l3_callV (n := 3) (As := [.int (xs (x4 + 1 : Int32).toNatClampNeg), .int (xs (x4 + 2 : Int32).toNatClampNeg), .int (xs (x4 + 3 : Int32).toNatClampNeg)]) (by omega) dL_law_923 (k_X11_criers 1000 (by omega) (xs (x4 + 1 : Int32).toNatClampNeg) (xs (x4 + 2 : Int32).toNatClampNeg) (xs (x4 + 3 : Int32).toNatClampNeg) M) (Nat.le_of_ble_eq_true rfl) (Nat.le_of_ble_eq_true rfl) w_1086 w_1087 w_1088 w_101 w_1089 (by decide +kernel) rfl (by decide) sh_0 rfl rfl (Nat.le_of_ble_eq_true rfl) (fun r M1 h1 => ?_)
  obtain ⟨⟨y1, rfl⟩, h1⟩ := h1
  have hJ := l3_J hJ h1 (fun i h => by first | exact (h : False).elim | omega)
  have oM1_1_1 : (M1.1 1 1).toInt = (M.1 1 1).toInt := tl_slot (congrFun (h1.1 1 (fun h => by first | exact (h : False).elim | omega)) 1)
  have oM1_175_7 : (M1.1 175 7).toInt = (M.1 175 7).toInt := tl_slot (congrFun (h1.1 175 (fun h => by first | exact (h : False).elim | omega)) 7)
  have oM1_5_0 : (M1.1 5 0).toInt = (M.1 5 0).toInt := tl_slot (congrFun (h1.1 5 (fun h => by first | exact (h : False).elim | omega)) 0)
  have oM1_175_1 : (M1.1 175 1).toInt = (M.1 175 1).toInt := tl_slot (congrFun (h1.1 175 (fun h => by first | exact (h : False).elim | omega)) 1)
  have Pal_M1 : li_al (M1.1 2) (M1.1 180) := li_al_mv (h1.1 2 (fun h => by first | exact (h : False).elim | omega)) (h1.1 180 (fun h => by first | exact (h : False).elim | omega)) Pal_M
  have Pst_M1 : li_st (M1.1 6) (M1.1 177) ((M1.1 5 0).toInt) := li_st_mv (h1.1 6 (fun h => by first | exact (h : False).elim | omega)) (h1.1 177 (fun h => by first | exact (h : False).elim | omega)) (by omega) Pst_M
  refine l3_pop dL_law_926 rfl ?_
  refine l3_aload_n 3 dL_law_927 rfl ?_
  refine l3_aload_n 1 dL_law_928 rfl ?_
  refine l3_iload 0 dL_law_929 rfl ?_
  refine l3_iconst 1 dL_law_931 (by decide) ?_
  refine l3_iadd dL_law_932 ?_
  refine l3_sld dL_law_933 v1 ?_
  refine l3_aload_n 1 dL_law_934 rfl ?_
  refine l3_iload 0 dL_law_935 rfl ?_
  refine l3_iconst 2 dL_law_937 (by decide) ?_
  refine l3_iadd dL_law_938 ?_
  refine l3_sld dL_law_939 v2 ?_
  refine l3_aload_n 1 dL_law_940 rfl ?_
  refine l3_iload 0 dL_law_941 rfl ?_
  refine l3_iconst 3 dL_law_943 (by decide) ?_
  refine l3_iadd dL_law_944 ?_
  refine l3_sld dL_law_945 v3 ?_
  refine l3_callV (n := 3) (As := [.int (xs (x4 + 1 : Int32).toNatClampNeg), .int (xs (x4 + 2 : Int32).toNatClampNeg), .int (xs (x4 + 3 : Int32).toNatClampNeg)]) (by omega) dL_law_946 (k_X12_criers 1000 (by omega) (xs (x4 + 1 : Int32).toNatClampNeg) (xs (x4 + 2 : Int32).toNatClampNeg) (xs (x4 + 3 : Int32).toNatClampNeg) M1 hJ ) (Nat.le_of_ble_eq_true rfl) (Nat.le_of_ble_eq_true rfl) w_1868 w_1869 w_1870 w_112 w_1871 (by decide +kernel) rfl (by decide) sh_175 rfl rfl (Nat.le_of_ble_eq_true rfl) (fun r M2 h2 => ?_)
  have jh2 := h2
  obtain ⟨y2, rfl⟩ : ∃ y : Int32, r = some (.int y) := by first | exact ⟨_, h2.1.choose_spec⟩ | exact ⟨_, h2.1.choose_spec.1⟩ | (rcases h2.1 with ⟨e, -⟩ | ⟨e, -⟩ <;> exact ⟨_, e⟩)
  have hJ : li_J M2 := by first | exact h2.2.2 | exact h2.2.2.1
  have oM2_1_1 : (M2.1 1 1).toInt = (M1.1 1 1).toInt := tl_slot (h2.2.1.1 1 1 (fun h => by first | exact (h : False).elim | omega))
  have oM2_175_7 : (M2.1 175 7).toInt = (M1.1 175 7).toInt := tl_slot (h2.2.1.1 175 7 (fun h => by first | exact (h : False).elim | omega))
  have oM2_5_0 : (M2.1 5 0).toInt = (M1.1 5 0).toInt := tl_slot (h2.2.1.1 5 0 (fun h => by first | exact (h : False).elim | omega))
  have oM2_175_1 : (M2.1 175 1).toInt = (M1.1 175 1).toInt := tl_slot (h2.2.1.1 175 1 (fun h => by first | exact (h : False).elim | omega))
  have Pal_M2 : li_al (M2.1 2) (M2.1 180) := li_al_mv (funext fun i => h2.2.1.1 2 i (fun h => by first | exact (h : False).elim | omega)) (funext fun i => h2.2.1.1 180 i (fun h => by first | exact (h : False).elim | omega)) Pal_M1
  have Pst_M2 : li_st (M2.1 6) (M2.1 177) ((M2.1 5 0).toInt) := li_st_mv (funext fun i => h2.2.1.1 6 i (fun h => by first | exact (h : False).elim | omega)) (funext fun i => h2.2.1.1 177 i (fun h => by first | exact (h : False).elim | omega)) (by omega) Pst_M1
  refine l3_pop dL_law_949 rfl ?_
  refine l3_goto 1344 dL_law_950 (by decide) ?_
  exact KK _ M2 hJ (by omega) (by omega) (by omega) Pal_M2 Pst_M2
set_option maxRecDepth 100000 in
set_option maxHeartbeats 4000000 in
theorem lc_24 {l : Launch} {Z : li_Z} {b L kc : Nat} {xs : Nat → Int32} {x4 : Int32} {M : li_M} {Q : Option Value → li_M → Prop} (htr : l.stackTraces = false) (hk : kc ≤ 512) (hJ : li_J M) (v1 : vp_in (x4 + 1) L) (v2 : vp_in (x4 + 2) L) (v3 : vp_in (x4 + 3) L) (v4 : vp_in (x4 + 4) L) (hR0 : (M.1 1 1).toInt = (M.1 175 7).toInt) (hR1 : (M.1 5 0).toInt = (M.1 175 1).toInt) (Pal_M : li_al (M.1 2) (M.1 180)) (Pst_M : li_st (M.1 6) (M.1 177) ((M.1 5 0).toInt)) (KK : ∀ (k : Nat) (M : li_M), li_J M → k ≤ kc + 1 → (M.1 1 1).toInt = (M.1 175 7).toInt → (M.1 5 0).toInt = (M.1 175 1).toInt → li_al (M.1 2) (M.1 180) → li_st (M.1 6) (M.1 177) ((M.1 5 0).toInt) → l3_T l Z b L xs k 1344 [(4, .int x4), (0, .ref b), (1, .ref (Z.2.2 0)), (2, .ref (Z.2.2 175)), (3, .ref (Z.2.2 204))] [] M Q) : l3_T l Z b L xs kc 953 [(4, .int x4), (0, .ref b), (1, .ref (Z.2.2 0)), (2, .ref (Z.2.2 175)), (3, .ref (Z.2.2 204))] [] M Q := by
  have rJ7 := J_sl7 (M := M) hJ
  have rJ1 := J_sl1 (M := M) hJ
  refine l3_aload_n 2 dL_law_953 rfl ?_
  refine l3_aload_n 1 dL_law_954 rfl ?_
  refine l3_iload 0 dL_law_955 rfl ?_
  refine l3_iconst 1 dL_law_957 (by decide) ?_
  refine l3_iadd dL_law_958 ?_
  refine l3_sld dL_law_959 v1 ?_
  refine l3_aload_n 1 dL_law_960 rfl ?_
  refine l3_iload 0 dL_law_961 rfl ?_
  refine l3_iconst 2 dL_law_963 (by decide) ?_
  refine l3_iadd dL_law_964 ?_
  refine l3_sld dL_law_965 v2 ?_
  refine l3_aload_n 1 dL_law_966 rfl ?_
  refine l3_iload 0 dL_law_967 rfl ?_
  refine l3_iconst 3 dL_law_969 (by decide) ?_
  refine l3_iadd dL_law_970 ?_
  refine l3_sld dL_law_971 v3 ?_
  refine l3_callV (n := 3) (As := [.int (xs (x4 + 1 : Int32).toNatClampNeg), .int (xs (x4 + 2 : Int32).toNatClampNeg), .int (xs (x4 + 3 : Int32).toNatClampNeg)]) (by omega) dL_law_972 (k_X11_debate 1000 (by omega) (xs (x4 + 1 : Int32).toNatClampNeg) (xs (x4 + 2 : Int32).toNatClampNeg) (xs (x4 + 3 : Int32).toNatClampNeg) M) (Nat.le_of_ble_eq_true rfl) (Nat.le_of_ble_eq_true rfl) w_1104 w_1105 w_1106 w_101 w_1107 (by decide +kernel) rfl (by decide) sh_0 rfl rfl (Nat.le_of_ble_eq_true rfl) (fun r M1 h1 => ?_)
  obtain ⟨⟨y1, rfl⟩, h1⟩ := h1
  have hJ := l3_J hJ h1 (fun i h => by first | exact (h : False).elim | omega)
  have oM1_1_1 : (M1.1 1 1).toInt = (M.1 1 1).toInt := tl_slot (congrFun (h1.1 1 (fun h => by first | exact (h : False).elim | omega)) 1)
  have oM1_175_7 : (M1.1 175 7).toInt = (M.1 175 7).toInt := tl_slot (congrFun (h1.1 175 (fun h => by first | exact (h : False).elim | omega)) 7)
  have oM1_5_0 : (M1.1 5 0).toInt = (M.1 5 0).toInt := tl_slot (congrFun (h1.1 5 (fun h => by first | exact (h : False).elim | omega)) 0)
  have oM1_175_1 : (M1.1 175 1).toInt = (M.1 175 1).toInt := tl_slot (congrFun (h1.1 175 (fun h => by first | exact (h : False).elim | omega)) 1)
  have Pal_M1 : li_al (M1.1 2) (M1.1 180) := li_al_mv (h1.1 2 (fun h => by first | exact (h : False).elim | omega)) (h1.1 180 (fun h => by first | exact (h : False).elim | omega)) Pal_M
  have Pst_M1 : li_st (M1.1 6) (M1.1 177) ((M1.1 5 0).toInt) := li_st_mv (h1.1 6 (fun h => by first | exact (h : False).elim | omega)) (h1.1 177 (fun h => by first | exact (h : False).elim | omega)) (by omega) Pst_M
  refine l3_pop dL_law_975 rfl ?_
  refine l3_aload_n 3 dL_law_976 rfl ?_
  refine l3_aload_n 1 dL_law_977 rfl ?_
  refine l3_iload 0 dL_law_978 rfl ?_
  refine l3_iconst 1 dL_law_980 (by decide) ?_
  refine l3_iadd dL_law_981 ?_
  refine l3_sld dL_law_982 v1 ?_
  refine l3_aload_n 1 dL_law_983 rfl ?_
  refine l3_iload 0 dL_law_984 rfl ?_
  refine l3_iconst 2 dL_law_986 (by decide) ?_
  refine l3_iadd dL_law_987 ?_
  refine l3_sld dL_law_988 v2 ?_
  refine l3_aload_n 1 dL_law_989 rfl ?_
  refine l3_iload 0 dL_law_990 rfl ?_
  refine l3_iconst 3 dL_law_992 (by decide) ?_
  refine l3_iadd dL_law_993 ?_
  refine l3_sld dL_law_994 v3 ?_
  refine l3_callV (n := 3) (As := [.int (xs (x4 + 1 : Int32).toNatClampNeg), .int (xs (x4 + 2 : Int32).toNatClampNeg), .int (xs (x4 + 3 : Int32).toNatClampNeg)]) (by omega) dL_law_995 (k_X12_debate 1000 (by omega) (xs (x4 + 1 : Int32).toNatClampNeg) (xs (x4 + 2 : Int32).toNatClampNeg) (xs (x4 + 3 : Int32).toNatClampNeg) M1 hJ ) (Nat.le_of_ble_eq_true rfl) (Nat.le_of_ble_eq_true rfl) w_1880 w_1881 w_1882 w_112 w_1883 (by decide +kernel) rfl (by decide) sh_175 rfl rfl (Nat.le_of_ble_eq_true rfl) (fun r M2 h2 => ?_)
  have jh2 := h2
  obtain ⟨y2, rfl⟩ : ∃ y : Int32, r = some (.int y) := by first | exact ⟨_, h2.1.choose_spec⟩ | exact ⟨_, h2.1.choose_spec.1⟩ | (rcases h2.1 with ⟨e, -⟩ | ⟨e, -⟩ <;> exact ⟨_, e⟩)
  have hJ : li_J M2 := by first | exact h2.2.2 | exact h2.2.2.1
  have oM2_1_1 : (M2.1 1 1).toInt = (M1.1 1 1).toInt := tl_slot (h2.2.1.1 1 1 (fun h => by first | exact (h : False).elim | omega))
  have oM2_175_7 : (M2.1 175 7).toInt = (M1.1 175 7).toInt := tl_slot (h2.2.1.1 175 7 (fun h => by first | exact (h : False).elim | omega))
  have oM2_5_0 : (M2.1 5 0).toInt = (M1.1 5 0).toInt := tl_slot (h2.2.1.1 5 0 (fun h => by first | exact (h : False).elim | omega))
  have oM2_175_1 : (M2.1 175 1).toInt = (M1.1 175 1).toInt := tl_slot (h2.2.1.1 175 1 (fun h => by first | exact (h : False).elim | omega))
  have Pal_M2 : li_al (M2.1 2) (M2.1 180) := li_al_mv (funext fun i => h2.2.1.1 2 i (fun h => by first | exact (h : False).elim | omega)) (funext fun i => h2.2.1.1 180 i (fun h => by first | exact (h : False).elim | omega)) Pal_M1
  have Pst_M2 : li_st (M2.1 6) (M2.1 177) ((M2.1 5 0).toInt) := li_st_mv (funext fun i => h2.2.1.1 6 i (fun h => by first | exact (h : False).elim | omega)) (funext fun i => h2.2.1.1 177 i (fun h => by first | exact (h : False).elim | omega)) (by omega) Pst_M1
  refine l3_pop dL_law_998 rfl ?_
  refine l3_goto 1344 dL_law_999 (by decide) ?_
  exact KK _ M2 hJ (by omega) (by omega) (by omega) Pal_M2 Pst_M2
set_option maxRecDepth 100000 in
set_option maxHeartbeats 4000000 in
theorem lc_25 {l : Launch} {Z : li_Z} {b L kc : Nat} {xs : Nat → Int32} {x4 : Int32} {M : li_M} {Q : Option Value → li_M → Prop} (htr : l.stackTraces = false) (hk : kc ≤ 512) (hJ : li_J M) (v1 : vp_in (x4 + 1) L) (v2 : vp_in (x4 + 2) L) (v3 : vp_in (x4 + 3) L) (v4 : vp_in (x4 + 4) L) (hR0 : (M.1 1 1).toInt = (M.1 175 7).toInt) (hR1 : (M.1 5 0).toInt = (M.1 175 1).toInt) (Pal_M : li_al (M.1 2) (M.1 180)) (Pst_M : li_st (M.1 6) (M.1 177) ((M.1 5 0).toInt)) (KK : ∀ (k : Nat) (M : li_M), li_J M → k ≤ kc + 1 → (M.1 1 1).toInt = (M.1 175 7).toInt → (M.1 5 0).toInt = (M.1 175 1).toInt → li_al (M.1 2) (M.1 180) → li_st (M.1 6) (M.1 177) ((M.1 5 0).toInt) → l3_T l Z b L xs k 1344 [(4, .int x4), (0, .ref b), (1, .ref (Z.2.2 0)), (2, .ref (Z.2.2 175)), (3, .ref (Z.2.2 204))] [] M Q) : l3_T l Z b L xs kc 1002 [(4, .int x4), (0, .ref b), (1, .ref (Z.2.2 0)), (2, .ref (Z.2.2 175)), (3, .ref (Z.2.2 204))] [] M Q := by
  have rJ7 := J_sl7 (M := M) hJ
  have rJ1 := J_sl1 (M := M) hJ
  refine l3_aload_n 2 dL_law_1002 rfl ?_
  refine l3_aload_n 1 dL_law_1003 rfl ?_
  refine l3_iload 0 dL_law_1004 rfl ?_
  refine l3_iconst 1 dL_law_1006 (by decide) ?_
  refine l3_iadd dL_law_1007 ?_
  refine l3_sld dL_law_1008 v1 ?_
  refine l3_aload_n 1 dL_law_1009 rfl ?_
  refine l3_iload 0 dL_law_1010 rfl ?_
  refine l3_iconst 2 dL_law_1012 (by decide) ?_
  refine l3_iadd dL_law_1013 ?_
  refine l3_sld dL_law_1014 v2 ?_
  refine l3_callV (n := 2) (As := [.int (xs (x4 + 1 : Int32).toNatClampNeg), .int (xs (x4 + 2 : Int32).toNatClampNeg)]) (by omega) dL_law_1015 (k_X11_enough 1000 (by omega) (xs (x4 + 1 : Int32).toNatClampNeg) (xs (x4 + 2 : Int32).toNatClampNeg) M) (Nat.le_of_ble_eq_true rfl) (Nat.le_of_ble_eq_true rfl) w_1108 w_1109 w_1110 w_101 w_1111 (by decide +kernel) rfl (by decide) sh_0 rfl rfl (Nat.le_of_ble_eq_true rfl) (fun r M1 h1 => ?_)
  obtain ⟨⟨y1, rfl⟩, h1⟩ := h1
  have hJ := l3_J hJ h1 (fun i h => by first | exact (h : False).elim | omega)
  have oM1_1_1 : (M1.1 1 1).toInt = (M.1 1 1).toInt := tl_slot (congrFun (h1.1 1 (fun h => by first | exact (h : False).elim | omega)) 1)
  have oM1_175_7 : (M1.1 175 7).toInt = (M.1 175 7).toInt := tl_slot (congrFun (h1.1 175 (fun h => by first | exact (h : False).elim | omega)) 7)
  have oM1_5_0 : (M1.1 5 0).toInt = (M.1 5 0).toInt := tl_slot (congrFun (h1.1 5 (fun h => by first | exact (h : False).elim | omega)) 0)
  have oM1_175_1 : (M1.1 175 1).toInt = (M.1 175 1).toInt := tl_slot (congrFun (h1.1 175 (fun h => by first | exact (h : False).elim | omega)) 1)
  have Pal_M1 : li_al (M1.1 2) (M1.1 180) := li_al_mv (h1.1 2 (fun h => by first | exact (h : False).elim | omega)) (h1.1 180 (fun h => by first | exact (h : False).elim | omega)) Pal_M
  have Pst_M1 : li_st (M1.1 6) (M1.1 177) ((M1.1 5 0).toInt) := li_st_mv (h1.1 6 (fun h => by first | exact (h : False).elim | omega)) (h1.1 177 (fun h => by first | exact (h : False).elim | omega)) (by omega) Pst_M
  refine l3_pop dL_law_1018 rfl ?_
  refine l3_aload_n 3 dL_law_1019 rfl ?_
  refine l3_aload_n 1 dL_law_1020 rfl ?_
  refine l3_iload 0 dL_law_1021 rfl ?_
  refine l3_iconst 1 dL_law_1023 (by decide) ?_
  refine l3_iadd dL_law_1024 ?_
  refine l3_sld dL_law_1025 v1 ?_
  refine l3_aload_n 1 dL_law_1026 rfl ?_
  refine l3_iload 0 dL_law_1027 rfl ?_
  refine l3_iconst 2 dL_law_1029 (by decide) ?_
  refine l3_iadd dL_law_1030 ?_
  refine l3_sld dL_law_1031 v2 ?_
  refine l3_callV (n := 2) (As := [.int (xs (x4 + 1 : Int32).toNatClampNeg), .int (xs (x4 + 2 : Int32).toNatClampNeg)]) (by omega) dL_law_1032 (k_X12_enough 1000 (by omega) (xs (x4 + 1 : Int32).toNatClampNeg) (xs (x4 + 2 : Int32).toNatClampNeg) M1 hJ ) (Nat.le_of_ble_eq_true rfl) (Nat.le_of_ble_eq_true rfl) w_1894 w_1895 w_1896 w_112 w_1897 (by decide +kernel) rfl (by decide) sh_175 rfl rfl (Nat.le_of_ble_eq_true rfl) (fun r M2 h2 => ?_)
  have jh2 := h2
  obtain ⟨y2, rfl⟩ : ∃ y : Int32, r = some (.int y) := by first | exact ⟨_, h2.1.choose_spec⟩ | exact ⟨_, h2.1.choose_spec.1⟩ | (rcases h2.1 with ⟨e, -⟩ | ⟨e, -⟩ <;> exact ⟨_, e⟩)
  have hJ : li_J M2 := by first | exact h2.2.2 | exact h2.2.2.1
  have oM2_1_1 : (M2.1 1 1).toInt = (M1.1 1 1).toInt := tl_slot (h2.2.1.1 1 1 (fun h => by first | exact (h : False).elim | omega))
  have oM2_175_7 : (M2.1 175 7).toInt = (M1.1 175 7).toInt := tl_slot (h2.2.1.1 175 7 (fun h => by first | exact (h : False).elim | omega))
  have oM2_5_0 : (M2.1 5 0).toInt = (M1.1 5 0).toInt := tl_slot (h2.2.1.1 5 0 (fun h => by first | exact (h : False).elim | omega))
  have oM2_175_1 : (M2.1 175 1).toInt = (M1.1 175 1).toInt := tl_slot (h2.2.1.1 175 1 (fun h => by first | exact (h : False).elim | omega))
  have Pal_M2 : li_al (M2.1 2) (M2.1 180) := li_al_mv (funext fun i => h2.2.1.1 2 i (fun h => by first | exact (h : False).elim | omega)) (funext fun i => h2.2.1.1 180 i (fun h => by first | exact (h : False).elim | omega)) Pal_M1
  have Pst_M2 : li_st (M2.1 6) (M2.1 177) ((M2.1 5 0).toInt) := li_st_mv (funext fun i => h2.2.1.1 6 i (fun h => by first | exact (h : False).elim | omega)) (funext fun i => h2.2.1.1 177 i (fun h => by first | exact (h : False).elim | omega)) (by omega) Pst_M1
  refine l3_pop dL_law_1035 rfl ?_
  refine l3_goto 1344 dL_law_1036 (by decide) ?_
  exact KK _ M2 hJ (by omega) (by omega) (by omega) Pal_M2 Pst_M2
set_option maxRecDepth 100000 in
set_option maxHeartbeats 4000000 in
theorem lc_26 {l : Launch} {Z : li_Z} {b L kc : Nat} {xs : Nat → Int32} {x4 : Int32} {M : li_M} {Q : Option Value → li_M → Prop} (htr : l.stackTraces = false) (hk : kc ≤ 512) (hJ : li_J M) (v1 : vp_in (x4 + 1) L) (v2 : vp_in (x4 + 2) L) (v3 : vp_in (x4 + 3) L) (v4 : vp_in (x4 + 4) L) (hR0 : (M.1 1 1).toInt = (M.1 175 7).toInt) (hR1 : (M.1 5 0).toInt = (M.1 175 1).toInt) (Pal_M : li_al (M.1 2) (M.1 180)) (Pst_M : li_st (M.1 6) (M.1 177) ((M.1 5 0).toInt)) (KK : ∀ (k : Nat) (M : li_M), li_J M → k ≤ kc + 1 → (M.1 1 1).toInt = (M.1 175 7).toInt → (M.1 5 0).toInt = (M.1 175 1).toInt → li_al (M.1 2) (M.1 180) → li_st (M.1 6) (M.1 177) ((M.1 5 0).toInt) → l3_T l Z b L xs k 1344 [(4, .int x4), (0, .ref b), (1, .ref (Z.2.2 0)), (2, .ref (Z.2.2 175)), (3, .ref (Z.2.2 204))] [] M Q) : l3_T l Z b L xs kc 1039 [(4, .int x4), (0, .ref b), (1, .ref (Z.2.2 0)), (2, .ref (Z.2.2 175)), (3, .ref (Z.2.2 204))] [] M Q := by
  have rJ7 := J_sl7 (M := M) hJ
  have rJ1 := J_sl1 (M := M) hJ
  refine l3_aload_n 2 dL_law_1039 rfl ?_
  refine l3_callV (n := 0) (As := []) (by omega) dL_law_1040 (k9_X11_grammar 1000 (by omega)  M) (Nat.le_of_ble_eq_true rfl) (Nat.le_of_ble_eq_true rfl) w_1112 w_1113 w_1114 w_101 w_1115 (by decide +kernel) rfl (by decide) sh_0 rfl rfl (Nat.le_of_ble_eq_true rfl) (fun r M1 h1 => ?_)
  obtain ⟨⟨y1, rfl, ky1⟩, h1⟩ := h1
  have hJ := l3_J hJ h1 (fun i h => by first | exact (h : False).elim | omega)
  have oM1_175_7 : (M1.1 175 7).toInt = (M.1 175 7).toInt := tl_slot (congrFun (h1.1 175 (fun h => by first | exact (h : False).elim | omega)) 7)
  have oM1_5_0 : (M1.1 5 0).toInt = (M.1 5 0).toInt := tl_slot (congrFun (h1.1 5 (fun h => by first | exact (h : False).elim | omega)) 0)
  have oM1_175_1 : (M1.1 175 1).toInt = (M.1 175 1).toInt := tl_slot (congrFun (h1.1 175 (fun h => by first | exact (h : False).elim | omega)) 1)
  have Pal_M1 : li_al (M1.1 2) (M1.1 180) := li_al_mv (h1.1 2 (fun h => by first | exact (h : False).elim | omega)) (h1.1 180 (fun h => by first | exact (h : False).elim | omega)) Pal_M
  have Pst_M1 : li_st (M1.1 6) (M1.1 177) ((M1.1 5 0).toInt) := li_st_mv (h1.1 6 (fun h => by first | exact (h : False).elim | omega)) (h1.1 177 (fun h => by first | exact (h : False).elim | omega)) (by omega) Pst_M
  refine l3_pop dL_law_1043 rfl ?_
  refine l3_aload_n 3 dL_law_1044 rfl ?_
  refine l3_callV (n := 0) (As := []) (by omega) dL_law_1045 (k3_X12_grammar 1000 (by omega)  M1 hJ ) (Nat.le_of_ble_eq_true rfl) (Nat.le_of_ble_eq_true rfl) w_1898 w_1899 w_1900 w_112 w_1901 (by decide +kernel) rfl (by decide) sh_175 rfl rfl (Nat.le_of_ble_eq_true rfl) (fun r M2 h2 => ?_)
  have jh2 := h2
  obtain ⟨⟨y2, rfl⟩, h2⟩ := h2
  have hJ := h2.2.1
  have nh2 := h2.2.2
  have oM2_1_1 : (M2.1 1 1).toInt = (M1.1 1 1).toInt := tl_slot (h2.1.1 1 1 (fun h => by first | exact (h : False).elim | omega))
  have oM2_5_0 : (M2.1 5 0).toInt = (M1.1 5 0).toInt := tl_slot (h2.1.1 5 0 (fun h => by first | exact (h : False).elim | omega))
  have oM2_175_1 : (M2.1 175 1).toInt = (M1.1 175 1).toInt := tl_slot (h2.1.1 175 1 (fun h => by first | exact (h : False).elim | omega))
  have Pal_M2 : li_al (M2.1 2) (M2.1 180) := li_al_mv (funext fun i => h2.1.1 2 i (fun h => by first | exact (h : False).elim | omega)) (funext fun i => h2.1.1 180 i (fun h => by first | exact (h : False).elim | omega)) Pal_M1
  have Pst_M2 : li_st (M2.1 6) (M2.1 177) ((M2.1 5 0).toInt) := li_st_mv (funext fun i => h2.1.1 6 i (fun h => by first | exact (h : False).elim | omega)) (funext fun i => h2.1.1 177 i (fun h => by first | exact (h : False).elim | omega)) (by omega) Pst_M1
  refine l3_pop dL_law_1048 rfl ?_
  refine l3_goto 1344 dL_law_1049 (by decide) ?_
  exact KK _ M2 hJ (by omega) (by omega) (by omega) Pal_M2 Pst_M2
set_option maxRecDepth 100000 in
set_option maxHeartbeats 4000000 in
theorem lc_27 {l : Launch} {Z : li_Z} {b L kc : Nat} {xs : Nat → Int32} {x4 : Int32} {M : li_M} {Q : Option Value → li_M → Prop} (htr : l.stackTraces = false) (hk : kc ≤ 512) (hJ : li_J M) (v1 : vp_in (x4 + 1) L) (v2 : vp_in (x4 + 2) L) (v3 : vp_in (x4 + 3) L) (v4 : vp_in (x4 + 4) L) (hR0 : (M.1 1 1).toInt = (M.1 175 7).toInt) (hR1 : (M.1 5 0).toInt = (M.1 175 1).toInt) (Pal_M : li_al (M.1 2) (M.1 180)) (Pst_M : li_st (M.1 6) (M.1 177) ((M.1 5 0).toInt)) (KK : ∀ (k : Nat) (M : li_M), li_J M → k ≤ kc + 1 → (M.1 1 1).toInt = (M.1 175 7).toInt → (M.1 5 0).toInt = (M.1 175 1).toInt → li_al (M.1 2) (M.1 180) → li_st (M.1 6) (M.1 177) ((M.1 5 0).toInt) → l3_T l Z b L xs k 1344 [(4, .int x4), (0, .ref b), (1, .ref (Z.2.2 0)), (2, .ref (Z.2.2 175)), (3, .ref (Z.2.2 204))] [] M Q) : l3_T l Z b L xs kc 1052 [(4, .int x4), (0, .ref b), (1, .ref (Z.2.2 0)), (2, .ref (Z.2.2 175)), (3, .ref (Z.2.2 204))] [] M Q := by
  have rJ7 := J_sl7 (M := M) hJ
  have rJ1 := J_sl1 (M := M) hJ
  refine l3_aload_n 2 dL_law_1052 rfl ?_
  refine l3_callV (n := 0) (As := []) (by omega) dL_law_1053 (k3_X11_shorter 1000 (by omega)  M) (Nat.le_of_ble_eq_true rfl) (Nat.le_of_ble_eq_true rfl) w_1121 w_1122 w_1123 w_101 w_1124 (by decide +kernel) rfl (by decide) sh_0 rfl rfl (Nat.le_of_ble_eq_true rfl) (fun r M1 h1 => ?_)
  obtain ⟨⟨y1, rfl, ky1⟩, h1⟩ := h1
  have hJ := l3_J hJ h1 (fun i h => by first | exact (h : False).elim | omega)
  have oM1_175_7 : (M1.1 175 7).toInt = (M.1 175 7).toInt := tl_slot (congrFun (h1.1 175 (fun h => by first | exact (h : False).elim | omega)) 7)
  have oM1_5_0 : (M1.1 5 0).toInt = (M.1 5 0).toInt := tl_slot (congrFun (h1.1 5 (fun h => by first | exact (h : False).elim | omega)) 0)
  have oM1_175_1 : (M1.1 175 1).toInt = (M.1 175 1).toInt := tl_slot (congrFun (h1.1 175 (fun h => by first | exact (h : False).elim | omega)) 1)
  have Pal_M1 : li_al (M1.1 2) (M1.1 180) := li_al_mv (h1.1 2 (fun h => by first | exact (h : False).elim | omega)) (h1.1 180 (fun h => by first | exact (h : False).elim | omega)) Pal_M
  have Pst_M1 : li_st (M1.1 6) (M1.1 177) ((M1.1 5 0).toInt) := li_st_mv (h1.1 6 (fun h => by first | exact (h : False).elim | omega)) (h1.1 177 (fun h => by first | exact (h : False).elim | omega)) (by omega) Pst_M
  refine l3_pop dL_law_1056 rfl ?_
  refine l3_aload_n 3 dL_law_1057 rfl ?_
  refine l3_callV (n := 0) (As := []) (by omega) dL_law_1058 (k3_X12_shorter 1000 (by omega)  M1 hJ ) (Nat.le_of_ble_eq_true rfl) (Nat.le_of_ble_eq_true rfl) w_1902 w_1903 w_1904 w_112 w_1905 (by decide +kernel) rfl (by decide) sh_175 rfl rfl (Nat.le_of_ble_eq_true rfl) (fun r M2 h2 => ?_)
  have jh2 := h2
  obtain ⟨⟨y2, rfl⟩, h2⟩ := h2
  have hJ := h2.2.1
  have nh2 := h2.2.2
  have oM2_1_1 : (M2.1 1 1).toInt = (M1.1 1 1).toInt := tl_slot (h2.1.1 1 1 (fun h => by first | exact (h : False).elim | omega))
  have oM2_5_0 : (M2.1 5 0).toInt = (M1.1 5 0).toInt := tl_slot (h2.1.1 5 0 (fun h => by first | exact (h : False).elim | omega))
  have oM2_175_1 : (M2.1 175 1).toInt = (M1.1 175 1).toInt := tl_slot (h2.1.1 175 1 (fun h => by first | exact (h : False).elim | omega))
  have Pal_M2 : li_al (M2.1 2) (M2.1 180) := li_al_mv (funext fun i => h2.1.1 2 i (fun h => by first | exact (h : False).elim | omega)) (funext fun i => h2.1.1 180 i (fun h => by first | exact (h : False).elim | omega)) Pal_M1
  have Pst_M2 : li_st (M2.1 6) (M2.1 177) ((M2.1 5 0).toInt) := li_st_mv (funext fun i => h2.1.1 6 i (fun h => by first | exact (h : False).elim | omega)) (funext fun i => h2.1.1 177 i (fun h => by first | exact (h : False).elim | omega)) (by omega) Pst_M1
  refine l3_pop dL_law_1061 rfl ?_
  refine l3_goto 1344 dL_law_1062 (by decide) ?_
  exact KK _ M2 hJ (by omega) (by omega) (by omega) Pal_M2 Pst_M2
set_option maxRecDepth 100000 in
set_option maxHeartbeats 4000000 in
theorem lc_28 {l : Launch} {Z : li_Z} {b L kc : Nat} {xs : Nat → Int32} {x4 : Int32} {M : li_M} {Q : Option Value → li_M → Prop} (htr : l.stackTraces = false) (hk : kc ≤ 512) (hJ : li_J M) (v1 : vp_in (x4 + 1) L) (v2 : vp_in (x4 + 2) L) (v3 : vp_in (x4 + 3) L) (v4 : vp_in (x4 + 4) L) (hR0 : (M.1 1 1).toInt = (M.1 175 7).toInt) (hR1 : (M.1 5 0).toInt = (M.1 175 1).toInt) (Pal_M : li_al (M.1 2) (M.1 180)) (Pst_M : li_st (M.1 6) (M.1 177) ((M.1 5 0).toInt)) (KK : ∀ (k : Nat) (M : li_M), li_J M → k ≤ kc + 1 → (M.1 1 1).toInt = (M.1 175 7).toInt → (M.1 5 0).toInt = (M.1 175 1).toInt → li_al (M.1 2) (M.1 180) → li_st (M.1 6) (M.1 177) ((M.1 5 0).toInt) → l3_T l Z b L xs k 1344 [(4, .int x4), (0, .ref b), (1, .ref (Z.2.2 0)), (2, .ref (Z.2.2 175)), (3, .ref (Z.2.2 204))] [] M Q) : l3_T l Z b L xs kc 1065 [(4, .int x4), (0, .ref b), (1, .ref (Z.2.2 0)), (2, .ref (Z.2.2 175)), (3, .ref (Z.2.2 204))] [] M Q := by
  have rJ7 := J_sl7 (M := M) hJ
  have rJ1 := J_sl1 (M := M) hJ
  refine l3_aload_n 2 dL_law_1065 rfl ?_
  refine l3_callV (n := 0) (As := []) (by omega) dL_law_1066 (k3_X11_becomes 1000 (by omega)  M) (Nat.le_of_ble_eq_true rfl) (Nat.le_of_ble_eq_true rfl) w_1155 w_1156 w_1157 w_101 w_1158 (by decide +kernel) rfl (by decide) sh_0 rfl rfl (Nat.le_of_ble_eq_true rfl) (fun r M1 h1 => ?_)
  obtain ⟨⟨y1, rfl, ky1⟩, h1⟩ := h1
  have hJ := l3_J hJ h1 (fun i h => by first | exact (h : False).elim | omega)
  have oM1_175_7 : (M1.1 175 7).toInt = (M.1 175 7).toInt := tl_slot (congrFun (h1.1 175 (fun h => by first | exact (h : False).elim | omega)) 7)
  have oM1_5_0 : (M1.1 5 0).toInt = (M.1 5 0).toInt := tl_slot (congrFun (h1.1 5 (fun h => by first | exact (h : False).elim | omega)) 0)
  have oM1_175_1 : (M1.1 175 1).toInt = (M.1 175 1).toInt := tl_slot (congrFun (h1.1 175 (fun h => by first | exact (h : False).elim | omega)) 1)
  have Pal_M1 : li_al (M1.1 2) (M1.1 180) := li_al_mv (h1.1 2 (fun h => by first | exact (h : False).elim | omega)) (h1.1 180 (fun h => by first | exact (h : False).elim | omega)) Pal_M
  have Pst_M1 : li_st (M1.1 6) (M1.1 177) ((M1.1 5 0).toInt) := li_st_mv (h1.1 6 (fun h => by first | exact (h : False).elim | omega)) (h1.1 177 (fun h => by first | exact (h : False).elim | omega)) (by omega) Pst_M
  refine l3_pop dL_law_1069 rfl ?_
  refine l3_aload_n 3 dL_law_1070 rfl ?_
  refine l3_callV (n := 0) (As := []) (by omega) dL_law_1071 (k3_X12_becomes 1000 (by omega)  M1 hJ ) (Nat.le_of_ble_eq_true rfl) (Nat.le_of_ble_eq_true rfl) w_1915 w_1916 w_1917 w_112 w_1918 (by decide +kernel) rfl (by decide) sh_175 rfl rfl (Nat.le_of_ble_eq_true rfl) (fun r M2 h2 => ?_)
  have jh2 := h2
  obtain ⟨⟨y2, rfl⟩, h2⟩ := h2
  have hJ := h2.2.1
  have nh2 := h2.2.2
  have oM2_1_1 : (M2.1 1 1).toInt = (M1.1 1 1).toInt := tl_slot (h2.1.1 1 1 (fun h => by first | exact (h : False).elim | omega))
  have oM2_5_0 : (M2.1 5 0).toInt = (M1.1 5 0).toInt := tl_slot (h2.1.1 5 0 (fun h => by first | exact (h : False).elim | omega))
  have oM2_175_1 : (M2.1 175 1).toInt = (M1.1 175 1).toInt := tl_slot (h2.1.1 175 1 (fun h => by first | exact (h : False).elim | omega))
  have Pal_M2 : li_al (M2.1 2) (M2.1 180) := li_al_mv (funext fun i => h2.1.1 2 i (fun h => by first | exact (h : False).elim | omega)) (funext fun i => h2.1.1 180 i (fun h => by first | exact (h : False).elim | omega)) Pal_M1
  have Pst_M2 : li_st (M2.1 6) (M2.1 177) ((M2.1 5 0).toInt) := li_st_mv (funext fun i => h2.1.1 6 i (fun h => by first | exact (h : False).elim | omega)) (funext fun i => h2.1.1 177 i (fun h => by first | exact (h : False).elim | omega)) (by omega) Pst_M1
  refine l3_pop dL_law_1074 rfl ?_
  refine l3_goto 1344 dL_law_1075 (by decide) ?_
  exact KK _ M2 hJ (by omega) (by omega) (by omega) Pal_M2 Pst_M2
set_option maxRecDepth 100000 in
set_option maxHeartbeats 4000000 in
theorem lc_29 {l : Launch} {Z : li_Z} {b L kc : Nat} {xs : Nat → Int32} {x4 : Int32} {M : li_M} {Q : Option Value → li_M → Prop} (htr : l.stackTraces = false) (hk : kc ≤ 512) (hJ : li_J M) (v1 : vp_in (x4 + 1) L) (v2 : vp_in (x4 + 2) L) (v3 : vp_in (x4 + 3) L) (v4 : vp_in (x4 + 4) L) (hR0 : (M.1 1 1).toInt = (M.1 175 7).toInt) (hR1 : (M.1 5 0).toInt = (M.1 175 1).toInt) (Pal_M : li_al (M.1 2) (M.1 180)) (Pst_M : li_st (M.1 6) (M.1 177) ((M.1 5 0).toInt)) (KK : ∀ (k : Nat) (M : li_M), li_J M → k ≤ kc + 1 → (M.1 1 1).toInt = (M.1 175 7).toInt → (M.1 5 0).toInt = (M.1 175 1).toInt → li_al (M.1 2) (M.1 180) → li_st (M.1 6) (M.1 177) ((M.1 5 0).toInt) → l3_T l Z b L xs k 1344 [(4, .int x4), (0, .ref b), (1, .ref (Z.2.2 0)), (2, .ref (Z.2.2 175)), (3, .ref (Z.2.2 204))] [] M Q) : l3_T l Z b L xs kc 1078 [(4, .int x4), (0, .ref b), (1, .ref (Z.2.2 0)), (2, .ref (Z.2.2 175)), (3, .ref (Z.2.2 204))] [] M Q := by
  have rJ7 := J_sl7 (M := M) hJ
  have rJ1 := J_sl1 (M := M) hJ
  refine l3_aload_n 2 dL_law_1078 rfl ?_
  refine l3_aload_n 1 dL_law_1079 rfl ?_
  refine l3_iload 0 dL_law_1080 rfl ?_
  refine l3_iconst 1 dL_law_1082 (by decide) ?_
  refine l3_iadd dL_law_1083 ?_
  refine l3_sld dL_law_1084 v1 ?_
  refine l3_aload_n 1 dL_law_1085 rfl ?_
  refine l3_iload 0 dL_law_1086 rfl ?_
  refine l3_iconst 2 dL_law_1088 (by decide) ?_
  refine l3_iadd dL_law_1089 ?_
  refine l3_sld dL_law_1090 v2 ?_
  refine l3_callV (n := 2) (As := [.int (xs (x4 + 1 : Int32).toNatClampNeg), .int (xs (x4 + 2 : Int32).toNatClampNeg)]) (by omega) dL_law_1091 (k6_X11_read 1000 (by omega) (xs (x4 + 1 : Int32).toNatClampNeg) (xs (x4 + 2 : Int32).toNatClampNeg) M) (Nat.le_of_ble_eq_true rfl) (Nat.le_of_ble_eq_true rfl) w_1160 w_1161 w_1162 w_101 w_1163 (by decide +kernel) rfl (by decide) sh_0 rfl rfl (Nat.le_of_ble_eq_true rfl) (fun r M1 h1 => ?_)
  obtain ⟨⟨y1, rfl, ky1⟩, h1⟩ := h1
  have hJ := l3_J hJ h1 (fun i h => by first | exact (h : False).elim | omega)
  have oM1_1_1 : (M1.1 1 1).toInt = (M.1 1 1).toInt := tl_slot (congrFun (h1.1 1 (fun h => by first | exact (h : False).elim | omega)) 1)
  have oM1_175_7 : (M1.1 175 7).toInt = (M.1 175 7).toInt := tl_slot (congrFun (h1.1 175 (fun h => by first | exact (h : False).elim | omega)) 7)
  have oM1_5_0 : (M1.1 5 0).toInt = (M.1 5 0).toInt := tl_slot (congrFun (h1.1 5 (fun h => by first | exact (h : False).elim | omega)) 0)
  have oM1_175_1 : (M1.1 175 1).toInt = (M.1 175 1).toInt := tl_slot (congrFun (h1.1 175 (fun h => by first | exact (h : False).elim | omega)) 1)
  have Pal_M1 : li_al (M1.1 2) (M1.1 180) := li_al_mv (h1.1 2 (fun h => by first | exact (h : False).elim | omega)) (h1.1 180 (fun h => by first | exact (h : False).elim | omega)) Pal_M
  have Pst_M1 : li_st (M1.1 6) (M1.1 177) ((M1.1 5 0).toInt) := li_st_mv (h1.1 6 (fun h => by first | exact (h : False).elim | omega)) (h1.1 177 (fun h => by first | exact (h : False).elim | omega)) (by omega) Pst_M
  refine l3_pop dL_law_1094 rfl ?_
  refine l3_aload_n 3 dL_law_1095 rfl ?_
  refine l3_aload_n 1 dL_law_1096 rfl ?_
  refine l3_iload 0 dL_law_1097 rfl ?_
  refine l3_iconst 1 dL_law_1099 (by decide) ?_
  refine l3_iadd dL_law_1100 ?_
  refine l3_sld dL_law_1101 v1 ?_
  refine l3_aload_n 1 dL_law_1102 rfl ?_
  refine l3_iload 0 dL_law_1103 rfl ?_
  refine l3_iconst 2 dL_law_1105 (by decide) ?_
  refine l3_iadd dL_law_1106 ?_
  refine l3_sld dL_law_1107 v2 ?_
  refine l3_callV (n := 2) (As := [.int (xs (x4 + 1 : Int32).toNatClampNeg), .int (xs (x4 + 2 : Int32).toNatClampNeg)]) (by omega) dL_law_1108 (k6_X12_read 1000 (by omega) (xs (x4 + 1 : Int32).toNatClampNeg) (xs (x4 + 2 : Int32).toNatClampNeg) M1 hJ ) (Nat.le_of_ble_eq_true rfl) (Nat.le_of_ble_eq_true rfl) w_1919 w_1920 w_1921 w_112 w_1922 (by decide +kernel) rfl (by decide) sh_175 rfl rfl (Nat.le_of_ble_eq_true rfl) (fun r M2 h2 => ?_)
  have jh2 := h2
  obtain ⟨⟨y2, rfl, ky2⟩, h2⟩ := h2
  have hJ := h2.2
  have oM2_1_1 : (M2.1 1 1).toInt = (M1.1 1 1).toInt := tl_slot (h2.1.1 1 1 (fun h => by first | exact (h : False).elim | omega))
  have oM2_175_7 : (M2.1 175 7).toInt = (M1.1 175 7).toInt := tl_slot (h2.1.1 175 7 (fun h => by first | exact (h : False).elim | omega))
  have oM2_5_0 : (M2.1 5 0).toInt = (M1.1 5 0).toInt := tl_slot (h2.1.1 5 0 (fun h => by first | exact (h : False).elim | omega))
  have oM2_175_1 : (M2.1 175 1).toInt = (M1.1 175 1).toInt := tl_slot (h2.1.1 175 1 (fun h => by first | exact (h : False).elim | omega))
  have Pal_M2 : li_al (M2.1 2) (M2.1 180) := li_al_mv (funext fun i => h2.1.1 2 i (fun h => by first | exact (h : False).elim | omega)) (funext fun i => h2.1.1 180 i (fun h => by first | exact (h : False).elim | omega)) Pal_M1
  have Pst_M2 : li_st (M2.1 6) (M2.1 177) ((M2.1 5 0).toInt) := li_st_mv (funext fun i => h2.1.1 6 i (fun h => by first | exact (h : False).elim | omega)) (funext fun i => h2.1.1 177 i (fun h => by first | exact (h : False).elim | omega)) (by omega) Pst_M1
  refine l3_pop dL_law_1111 rfl ?_
  refine l3_goto 1344 dL_law_1112 (by decide) ?_
  exact KK _ M2 hJ (by omega) (by omega) (by omega) Pal_M2 Pst_M2
set_option maxRecDepth 100000 in
set_option maxHeartbeats 4000000 in
theorem lc_30 {l : Launch} {Z : li_Z} {b L kc : Nat} {xs : Nat → Int32} {x4 : Int32} {M : li_M} {Q : Option Value → li_M → Prop} (htr : l.stackTraces = false) (hk : kc ≤ 512) (hJ : li_J M) (v1 : vp_in (x4 + 1) L) (v2 : vp_in (x4 + 2) L) (v3 : vp_in (x4 + 3) L) (v4 : vp_in (x4 + 4) L) (hR0 : (M.1 1 1).toInt = (M.1 175 7).toInt) (hR1 : (M.1 5 0).toInt = (M.1 175 1).toInt) (Pal_M : li_al (M.1 2) (M.1 180)) (Pst_M : li_st (M.1 6) (M.1 177) ((M.1 5 0).toInt)) (KK : ∀ (k : Nat) (M : li_M), li_J M → k ≤ kc + 1 → (M.1 1 1).toInt = (M.1 175 7).toInt → (M.1 5 0).toInt = (M.1 175 1).toInt → li_al (M.1 2) (M.1 180) → li_st (M.1 6) (M.1 177) ((M.1 5 0).toInt) → l3_T l Z b L xs k 1344 [(4, .int x4), (0, .ref b), (1, .ref (Z.2.2 0)), (2, .ref (Z.2.2 175)), (3, .ref (Z.2.2 204))] [] M Q) : l3_T l Z b L xs kc 1115 [(4, .int x4), (0, .ref b), (1, .ref (Z.2.2 0)), (2, .ref (Z.2.2 175)), (3, .ref (Z.2.2 204))] [] M Q := by
  have rJ7 := J_sl7 (M := M) hJ
  have rJ1 := J_sl1 (M := M) hJ
  refine l3_aload_n 2 dL_law_1115 rfl ?_
  refine l3_callV (n := 0) (As := []) (by omega) dL_law_1116 (k6_X11_forget 1000 (by omega)  M) (Nat.le_of_ble_eq_true rfl) (Nat.le_of_ble_eq_true rfl) w_1169 w_1170 w_1171 w_101 w_1172 (by decide +kernel) rfl (by decide) sh_0 rfl rfl (Nat.le_of_ble_eq_true rfl) (fun r M1 h1 => ?_)
  obtain ⟨⟨y1, rfl, ky1⟩, h1⟩ := h1
  have hJ := l3_J hJ h1 (fun i h => by first | exact (h : False).elim | omega)
  have oM1_1_1 : (M1.1 1 1).toInt = (M.1 1 1).toInt := tl_slot (congrFun (h1.1 1 (fun h => by first | exact (h : False).elim | omega)) 1)
  have oM1_175_7 : (M1.1 175 7).toInt = (M.1 175 7).toInt := tl_slot (congrFun (h1.1 175 (fun h => by first | exact (h : False).elim | omega)) 7)
  have oM1_5_0 : (M1.1 5 0).toInt = (M.1 5 0).toInt := tl_slot (congrFun (h1.1 5 (fun h => by first | exact (h : False).elim | omega)) 0)
  have oM1_175_1 : (M1.1 175 1).toInt = (M.1 175 1).toInt := tl_slot (congrFun (h1.1 175 (fun h => by first | exact (h : False).elim | omega)) 1)
  have Pal_M1 : li_al (M1.1 2) (M1.1 180) := li_al_mv (h1.1 2 (fun h => by first | exact (h : False).elim | omega)) (h1.1 180 (fun h => by first | exact (h : False).elim | omega)) Pal_M
  have Pst_M1 : li_st (M1.1 6) (M1.1 177) ((M1.1 5 0).toInt) := li_st_mv (h1.1 6 (fun h => by first | exact (h : False).elim | omega)) (h1.1 177 (fun h => by first | exact (h : False).elim | omega)) (by omega) Pst_M
  refine l3_pop dL_law_1119 rfl ?_
  refine l3_aload_n 3 dL_law_1120 rfl ?_
  refine l3_callV (n := 0) (As := []) (by omega) dL_law_1121 (k6_X12_forget 1000 (by omega)  M1 hJ ) (Nat.le_of_ble_eq_true rfl) (Nat.le_of_ble_eq_true rfl) w_1923 w_1924 w_1925 w_112 w_1926 (by decide +kernel) rfl (by decide) sh_175 rfl rfl (Nat.le_of_ble_eq_true rfl) (fun r M2 h2 => ?_)
  have jh2 := h2
  obtain ⟨⟨y2, rfl, ky2⟩, h2⟩ := h2
  have hJ := h2.2
  have oM2_1_1 : (M2.1 1 1).toInt = (M1.1 1 1).toInt := tl_slot (h2.1.1 1 1 (fun h => by first | exact (h : False).elim | omega))
  have oM2_175_7 : (M2.1 175 7).toInt = (M1.1 175 7).toInt := tl_slot (h2.1.1 175 7 (fun h => by first | exact (h : False).elim | omega))
  have oM2_5_0 : (M2.1 5 0).toInt = (M1.1 5 0).toInt := tl_slot (h2.1.1 5 0 (fun h => by first | exact (h : False).elim | omega))
  have oM2_175_1 : (M2.1 175 1).toInt = (M1.1 175 1).toInt := tl_slot (h2.1.1 175 1 (fun h => by first | exact (h : False).elim | omega))
  have Pal_M2 : li_al (M2.1 2) (M2.1 180) := li_al_mv (funext fun i => h2.1.1 2 i (fun h => by first | exact (h : False).elim | omega)) (funext fun i => h2.1.1 180 i (fun h => by first | exact (h : False).elim | omega)) Pal_M1
  have Pst_M2 : li_st (M2.1 6) (M2.1 177) ((M2.1 5 0).toInt) := li_st_mv (funext fun i => h2.1.1 6 i (fun h => by first | exact (h : False).elim | omega)) (funext fun i => h2.1.1 177 i (fun h => by first | exact (h : False).elim | omega)) (by omega) Pst_M1
  refine l3_pop dL_law_1124 rfl ?_
  refine l3_goto 1344 dL_law_1125 (by decide) ?_
  exact KK _ M2 hJ (by omega) (by omega) (by omega) Pal_M2 Pst_M2
set_option maxRecDepth 100000 in
set_option maxHeartbeats 4000000 in
theorem lc_31 {l : Launch} {Z : li_Z} {b L kc : Nat} {xs : Nat → Int32} {x4 : Int32} {M : li_M} {Q : Option Value → li_M → Prop} (htr : l.stackTraces = false) (hk : kc ≤ 512) (hJ : li_J M) (v1 : vp_in (x4 + 1) L) (v2 : vp_in (x4 + 2) L) (v3 : vp_in (x4 + 3) L) (v4 : vp_in (x4 + 4) L) (hR0 : (M.1 1 1).toInt = (M.1 175 7).toInt) (hR1 : (M.1 5 0).toInt = (M.1 175 1).toInt) (Pal_M : li_al (M.1 2) (M.1 180)) (Pst_M : li_st (M.1 6) (M.1 177) ((M.1 5 0).toInt)) (KK : ∀ (k : Nat) (M : li_M), li_J M → k ≤ kc + 1 → (M.1 1 1).toInt = (M.1 175 7).toInt → (M.1 5 0).toInt = (M.1 175 1).toInt → li_al (M.1 2) (M.1 180) → li_st (M.1 6) (M.1 177) ((M.1 5 0).toInt) → l3_T l Z b L xs k 1344 [(4, .int x4), (0, .ref b), (1, .ref (Z.2.2 0)), (2, .ref (Z.2.2 175)), (3, .ref (Z.2.2 204))] [] M Q) : l3_T l Z b L xs kc 1128 [(4, .int x4), (0, .ref b), (1, .ref (Z.2.2 0)), (2, .ref (Z.2.2 175)), (3, .ref (Z.2.2 204))] [] M Q := by
  have rJ7 := J_sl7 (M := M) hJ
  have rJ1 := J_sl1 (M := M) hJ
  refine l3_aload_n 2 dL_law_1128 rfl ?_
  refine l3_aload_n 1 dL_law_1129 rfl ?_
  refine l3_iload 0 dL_law_1130 rfl ?_
  refine l3_iconst 1 dL_law_1132 (by decide) ?_
  refine l3_iadd dL_law_1133 ?_
  refine l3_sld dL_law_1134 v1 ?_
  refine l3_callV (n := 1) (As := [.int (xs (x4 + 1 : Int32).toNatClampNeg)]) (by omega) dL_law_1135 (k6_X11_spoke 1000 (by omega) (xs (x4 + 1 : Int32).toNatClampNeg) M) (Nat.le_of_ble_eq_true rfl) (Nat.le_of_ble_eq_true rfl) w_1173 w_1174 w_1175 w_101 w_1176 (by decide +kernel) rfl (by decide) sh_0 rfl rfl (Nat.le_of_ble_eq_true rfl) (fun r M1 h1 => ?_)
  obtain ⟨⟨y1, rfl, ky1⟩, h1⟩ := h1
  have hJ := l3_J hJ h1 (fun i h => by first | exact (h : False).elim | omega)
  have oM1_1_1 : (M1.1 1 1).toInt = (M.1 1 1).toInt := tl_slot (congrFun (h1.1 1 (fun h => by first | exact (h : False).elim | omega)) 1)
  have oM1_175_7 : (M1.1 175 7).toInt = (M.1 175 7).toInt := tl_slot (congrFun (h1.1 175 (fun h => by first | exact (h : False).elim | omega)) 7)
  have oM1_5_0 : (M1.1 5 0).toInt = (M.1 5 0).toInt := tl_slot (congrFun (h1.1 5 (fun h => by first | exact (h : False).elim | omega)) 0)
  have oM1_175_1 : (M1.1 175 1).toInt = (M.1 175 1).toInt := tl_slot (congrFun (h1.1 175 (fun h => by first | exact (h : False).elim | omega)) 1)
  have Pal_M1 : li_al (M1.1 2) (M1.1 180) := li_al_mv (h1.1 2 (fun h => by first | exact (h : False).elim | omega)) (h1.1 180 (fun h => by first | exact (h : False).elim | omega)) Pal_M
  have Pst_M1 : li_st (M1.1 6) (M1.1 177) ((M1.1 5 0).toInt) := li_st_mv (h1.1 6 (fun h => by first | exact (h : False).elim | omega)) (h1.1 177 (fun h => by first | exact (h : False).elim | omega)) (by omega) Pst_M
  refine l3_pop dL_law_1138 rfl ?_
  refine l3_aload_n 3 dL_law_1139 rfl ?_
  refine l3_aload_n 1 dL_law_1140 rfl ?_
  refine l3_iload 0 dL_law_1141 rfl ?_
  refine l3_iconst 1 dL_law_1143 (by decide) ?_
  refine l3_iadd dL_law_1144 ?_
  refine l3_sld dL_law_1145 v1 ?_
  refine l3_callV (n := 1) (As := [.int (xs (x4 + 1 : Int32).toNatClampNeg)]) (by omega) dL_law_1146 (k_X12_spoke 1000 (by omega) (xs (x4 + 1 : Int32).toNatClampNeg) M1 hJ ) (Nat.le_of_ble_eq_true rfl) (Nat.le_of_ble_eq_true rfl) w_1927 w_1928 w_1929 w_112 w_1930 (by decide +kernel) rfl (by decide) sh_175 rfl rfl (Nat.le_of_ble_eq_true rfl) (fun r M2 h2 => ?_)
  have jh2 := h2
  obtain ⟨y2, rfl⟩ : ∃ y : Int32, r = some (.int y) := by first | exact ⟨_, h2.1.choose_spec⟩ | exact ⟨_, h2.1.choose_spec.1⟩ | (rcases h2.1 with ⟨e, -⟩ | ⟨e, -⟩ <;> exact ⟨_, e⟩)
  have hJ : li_J M2 := by first | exact h2.2.2 | exact h2.2.2.1
  have oM2_1_1 : (M2.1 1 1).toInt = (M1.1 1 1).toInt := tl_slot (h2.2.1.1 1 1 (fun h => by first | exact (h : False).elim | omega))
  have oM2_175_7 : (M2.1 175 7).toInt = (M1.1 175 7).toInt := tl_slot (h2.2.1.1 175 7 (fun h => by first | exact (h : False).elim | omega))
  have oM2_5_0 : (M2.1 5 0).toInt = (M1.1 5 0).toInt := tl_slot (h2.2.1.1 5 0 (fun h => by first | exact (h : False).elim | omega))
  have oM2_175_1 : (M2.1 175 1).toInt = (M1.1 175 1).toInt := tl_slot (h2.2.1.1 175 1 (fun h => by first | exact (h : False).elim | omega))
  have Pal_M2 : li_al (M2.1 2) (M2.1 180) := li_al_mv (funext fun i => h2.2.1.1 2 i (fun h => by first | exact (h : False).elim | omega)) (funext fun i => h2.2.1.1 180 i (fun h => by first | exact (h : False).elim | omega)) Pal_M1
  have Pst_M2 : li_st (M2.1 6) (M2.1 177) ((M2.1 5 0).toInt) := li_st_mv (funext fun i => h2.2.1.1 6 i (fun h => by first | exact (h : False).elim | omega)) (funext fun i => h2.2.1.1 177 i (fun h => by first | exact (h : False).elim | omega)) (by omega) Pst_M1
  refine l3_pop dL_law_1149 rfl ?_
  refine l3_goto 1344 dL_law_1150 (by decide) ?_
  exact KK _ M2 hJ (by omega) (by omega) (by omega) Pal_M2 Pst_M2
set_option maxRecDepth 100000 in
set_option maxHeartbeats 4000000 in
theorem lc_32 {l : Launch} {Z : li_Z} {b L kc : Nat} {xs : Nat → Int32} {x4 : Int32} {M : li_M} {Q : Option Value → li_M → Prop} (htr : l.stackTraces = false) (hk : kc ≤ 512) (hJ : li_J M) (v1 : vp_in (x4 + 1) L) (v2 : vp_in (x4 + 2) L) (v3 : vp_in (x4 + 3) L) (v4 : vp_in (x4 + 4) L) (hR0 : (M.1 1 1).toInt = (M.1 175 7).toInt) (hR1 : (M.1 5 0).toInt = (M.1 175 1).toInt) (Pal_M : li_al (M.1 2) (M.1 180)) (Pst_M : li_st (M.1 6) (M.1 177) ((M.1 5 0).toInt)) (KK : ∀ (k : Nat) (M : li_M), li_J M → k ≤ kc + 1 → (M.1 1 1).toInt = (M.1 175 7).toInt → (M.1 5 0).toInt = (M.1 175 1).toInt → li_al (M.1 2) (M.1 180) → li_st (M.1 6) (M.1 177) ((M.1 5 0).toInt) → l3_T l Z b L xs k 1344 [(4, .int x4), (0, .ref b), (1, .ref (Z.2.2 0)), (2, .ref (Z.2.2 175)), (3, .ref (Z.2.2 204))] [] M Q) : l3_T l Z b L xs kc 1153 [(4, .int x4), (0, .ref b), (1, .ref (Z.2.2 0)), (2, .ref (Z.2.2 175)), (3, .ref (Z.2.2 204))] [] M Q := by
  have rJ7 := J_sl7 (M := M) hJ
  have rJ1 := J_sl1 (M := M) hJ
  refine l3_aload_n 2 dL_law_1153 rfl ?_
  refine l3_callV (n := 0) (As := []) (by omega) dL_law_1154 (k_X11_look 1000 (by omega)  M) (Nat.le_of_ble_eq_true rfl) (Nat.le_of_ble_eq_true rfl) w_1214 w_1215 w_1216 w_101 w_1217 (by decide +kernel) rfl (by decide) sh_0 rfl rfl (Nat.le_of_ble_eq_true rfl) (fun r M1 h1 => ?_)
  obtain ⟨⟨y1, rfl⟩, h1⟩ := h1
  have hJ := l3_J hJ h1 (fun i h => by first | exact (h : False).elim | omega)
  have oM1_1_1 : (M1.1 1 1).toInt = (M.1 1 1).toInt := tl_slot (congrFun (h1.1 1 (fun h => by first | exact (h : False).elim | omega)) 1)
  have oM1_175_7 : (M1.1 175 7).toInt = (M.1 175 7).toInt := tl_slot (congrFun (h1.1 175 (fun h => by first | exact (h : False).elim | omega)) 7)
  have oM1_5_0 : (M1.1 5 0).toInt = (M.1 5 0).toInt := tl_slot (congrFun (h1.1 5 (fun h => by first | exact (h : False).elim | omega)) 0)
  have oM1_175_1 : (M1.1 175 1).toInt = (M.1 175 1).toInt := tl_slot (congrFun (h1.1 175 (fun h => by first | exact (h : False).elim | omega)) 1)
  have Pal_M1 : li_al (M1.1 2) (M1.1 180) := li_al_mv (h1.1 2 (fun h => by first | exact (h : False).elim | omega)) (h1.1 180 (fun h => by first | exact (h : False).elim | omega)) Pal_M
  have Pst_M1 : li_st (M1.1 6) (M1.1 177) ((M1.1 5 0).toInt) := li_st_mv (h1.1 6 (fun h => by first | exact (h : False).elim | omega)) (h1.1 177 (fun h => by first | exact (h : False).elim | omega)) (by omega) Pst_M
  refine l3_pop dL_law_1157 rfl ?_
  refine l3_aload_n 3 dL_law_1158 rfl ?_
  refine l3_callV (n := 0) (As := []) (by omega) dL_law_1159 (k_X12_look 1000 (by omega)  M1 hJ ) (Nat.le_of_ble_eq_true rfl) (Nat.le_of_ble_eq_true rfl) w_1943 w_1944 w_1945 w_112 w_1946 (by decide +kernel) rfl (by decide) sh_175 rfl rfl (Nat.le_of_ble_eq_true rfl) (fun r M2 h2 => ?_)
  have jh2 := h2
  obtain ⟨y2, rfl⟩ : ∃ y : Int32, r = some (.int y) := by first | exact ⟨_, h2.1.choose_spec⟩ | exact ⟨_, h2.1.choose_spec.1⟩ | (rcases h2.1 with ⟨e, -⟩ | ⟨e, -⟩ <;> exact ⟨_, e⟩)
  have hJ : li_J M2 := by first | exact h2.2.2 | exact h2.2.2.1
  have oM2_1_1 : (M2.1 1 1).toInt = (M1.1 1 1).toInt := tl_slot (h2.2.1.1 1 1 (fun h => by first | exact (h : False).elim | omega))
  have oM2_175_7 : (M2.1 175 7).toInt = (M1.1 175 7).toInt := tl_slot (h2.2.1.1 175 7 (fun h => by first | exact (h : False).elim | omega))
  have oM2_5_0 : (M2.1 5 0).toInt = (M1.1 5 0).toInt := tl_slot (h2.2.1.1 5 0 (fun h => by first | exact (h : False).elim | omega))
  have oM2_175_1 : (M2.1 175 1).toInt = (M1.1 175 1).toInt := tl_slot (h2.2.1.1 175 1 (fun h => by first | exact (h : False).elim | omega))
  have Pal_M2 : li_al (M2.1 2) (M2.1 180) := li_al_mv (funext fun i => h2.2.1.1 2 i (fun h => by first | exact (h : False).elim | omega)) (funext fun i => h2.2.1.1 180 i (fun h => by first | exact (h : False).elim | omega)) Pal_M1
  have Pst_M2 : li_st (M2.1 6) (M2.1 177) ((M2.1 5 0).toInt) := li_st_mv (funext fun i => h2.2.1.1 6 i (fun h => by first | exact (h : False).elim | omega)) (funext fun i => h2.2.1.1 177 i (fun h => by first | exact (h : False).elim | omega)) (by omega) Pst_M1
  refine l3_pop dL_law_1162 rfl ?_
  refine l3_goto 1344 dL_law_1163 (by decide) ?_
  exact KK _ M2 hJ (by omega) (by omega) (by omega) Pal_M2 Pst_M2
set_option maxRecDepth 100000 in
set_option maxHeartbeats 4000000 in
theorem lc_33 {l : Launch} {Z : li_Z} {b L kc : Nat} {xs : Nat → Int32} {x4 : Int32} {M : li_M} {Q : Option Value → li_M → Prop} (htr : l.stackTraces = false) (hk : kc ≤ 512) (hJ : li_J M) (v1 : vp_in (x4 + 1) L) (v2 : vp_in (x4 + 2) L) (v3 : vp_in (x4 + 3) L) (v4 : vp_in (x4 + 4) L) (hR0 : (M.1 1 1).toInt = (M.1 175 7).toInt) (hR1 : (M.1 5 0).toInt = (M.1 175 1).toInt) (Pal_M : li_al (M.1 2) (M.1 180)) (Pst_M : li_st (M.1 6) (M.1 177) ((M.1 5 0).toInt)) (KK : ∀ (k : Nat) (M : li_M), li_J M → k ≤ kc + 1 → (M.1 1 1).toInt = (M.1 175 7).toInt → (M.1 5 0).toInt = (M.1 175 1).toInt → li_al (M.1 2) (M.1 180) → li_st (M.1 6) (M.1 177) ((M.1 5 0).toInt) → l3_T l Z b L xs k 1344 [(4, .int x4), (0, .ref b), (1, .ref (Z.2.2 0)), (2, .ref (Z.2.2 175)), (3, .ref (Z.2.2 204))] [] M Q) : l3_T l Z b L xs kc 1166 [(4, .int x4), (0, .ref b), (1, .ref (Z.2.2 0)), (2, .ref (Z.2.2 175)), (3, .ref (Z.2.2 204))] [] M Q := by
  have rJ7 := J_sl7 (M := M) hJ
  have rJ1 := J_sl1 (M := M) hJ
  refine l3_aload_n 2 dL_law_1166 rfl ?_
  refine l3_callV (n := 0) (As := []) (by omega) dL_law_1167 (k9_X11_rate 1000 (by omega)  M) (Nat.le_of_ble_eq_true rfl) (Nat.le_of_ble_eq_true rfl) w_1228 w_1229 w_1230 w_101 w_1231 (by decide +kernel) rfl (by decide) sh_0 rfl rfl (Nat.le_of_ble_eq_true rfl) (fun r M1 h1 => ?_)
  obtain ⟨⟨y1, rfl, ky1⟩, h1⟩ := h1
  have hJ := l3_J hJ h1 (fun i h => by first | exact (h : False).elim | omega)
  have oM1_175_7 : (M1.1 175 7).toInt = (M.1 175 7).toInt := tl_slot (congrFun (h1.1 175 (fun h => by first | exact (h : False).elim | omega)) 7)
  have oM1_5_0 : (M1.1 5 0).toInt = (M.1 5 0).toInt := tl_slot (congrFun (h1.1 5 (fun h => by first | exact (h : False).elim | omega)) 0)
  have oM1_175_1 : (M1.1 175 1).toInt = (M.1 175 1).toInt := tl_slot (congrFun (h1.1 175 (fun h => by first | exact (h : False).elim | omega)) 1)
  have Pal_M1 : li_al (M1.1 2) (M1.1 180) := li_al_mv (h1.1 2 (fun h => by first | exact (h : False).elim | omega)) (h1.1 180 (fun h => by first | exact (h : False).elim | omega)) Pal_M
  have Pst_M1 : li_st (M1.1 6) (M1.1 177) ((M1.1 5 0).toInt) := li_st_mv (h1.1 6 (fun h => by first | exact (h : False).elim | omega)) (h1.1 177 (fun h => by first | exact (h : False).elim | omega)) (by omega) Pst_M
  refine l3_pop dL_law_1170 rfl ?_
  refine l3_aload_n 3 dL_law_1171 rfl ?_
  refine l3_callV (n := 0) (As := []) (by omega) dL_law_1172 (k3_X12_rate 1000 (by omega)  M1 hJ ) (Nat.le_of_ble_eq_true rfl) (Nat.le_of_ble_eq_true rfl) w_1947 w_1948 w_1949 w_112 w_1950 (by decide +kernel) rfl (by decide) sh_175 rfl rfl (Nat.le_of_ble_eq_true rfl) (fun r M2 h2 => ?_)
  have jh2 := h2
  obtain ⟨⟨y2, rfl⟩, h2⟩ := h2
  have hJ := h2.2.1
  have nh2 := h2.2.2
  have oM2_1_1 : (M2.1 1 1).toInt = (M1.1 1 1).toInt := tl_slot (h2.1.1 1 1 (fun h => by first | exact (h : False).elim | omega))
  have oM2_5_0 : (M2.1 5 0).toInt = (M1.1 5 0).toInt := tl_slot (h2.1.1 5 0 (fun h => by first | exact (h : False).elim | omega))
  have oM2_175_1 : (M2.1 175 1).toInt = (M1.1 175 1).toInt := tl_slot (h2.1.1 175 1 (fun h => by first | exact (h : False).elim | omega))
  have Pal_M2 : li_al (M2.1 2) (M2.1 180) := li_al_mv (funext fun i => h2.1.1 2 i (fun h => by first | exact (h : False).elim | omega)) (funext fun i => h2.1.1 180 i (fun h => by first | exact (h : False).elim | omega)) Pal_M1
  have Pst_M2 : li_st (M2.1 6) (M2.1 177) ((M2.1 5 0).toInt) := li_st_mv (funext fun i => h2.1.1 6 i (fun h => by first | exact (h : False).elim | omega)) (funext fun i => h2.1.1 177 i (fun h => by first | exact (h : False).elim | omega)) (by omega) Pst_M1
  refine l3_pop dL_law_1175 rfl ?_
  refine l3_goto 1344 dL_law_1176 (by decide) ?_
  exact KK _ M2 hJ (by omega) (by omega) (by omega) Pal_M2 Pst_M2
set_option maxRecDepth 100000 in
set_option maxHeartbeats 4000000 in
theorem lc_34 {l : Launch} {Z : li_Z} {b L kc : Nat} {xs : Nat → Int32} {x4 : Int32} {M : li_M} {Q : Option Value → li_M → Prop} (htr : l.stackTraces = false) (hk : kc ≤ 512) (hJ : li_J M) (v1 : vp_in (x4 + 1) L) (v2 : vp_in (x4 + 2) L) (v3 : vp_in (x4 + 3) L) (v4 : vp_in (x4 + 4) L) (hR0 : (M.1 1 1).toInt = (M.1 175 7).toInt) (hR1 : (M.1 5 0).toInt = (M.1 175 1).toInt) (Pal_M : li_al (M.1 2) (M.1 180)) (Pst_M : li_st (M.1 6) (M.1 177) ((M.1 5 0).toInt)) (KK : ∀ (k : Nat) (M : li_M), li_J M → k ≤ kc + 1 → (M.1 1 1).toInt = (M.1 175 7).toInt → (M.1 5 0).toInt = (M.1 175 1).toInt → li_al (M.1 2) (M.1 180) → li_st (M.1 6) (M.1 177) ((M.1 5 0).toInt) → l3_T l Z b L xs k 1344 [(4, .int x4), (0, .ref b), (1, .ref (Z.2.2 0)), (2, .ref (Z.2.2 175)), (3, .ref (Z.2.2 204))] [] M Q) : l3_T l Z b L xs kc 1179 [(4, .int x4), (0, .ref b), (1, .ref (Z.2.2 0)), (2, .ref (Z.2.2 175)), (3, .ref (Z.2.2 204))] [] M Q := by
  have rJ7 := J_sl7 (M := M) hJ
  have rJ1 := J_sl1 (M := M) hJ
  refine l3_aload_n 2 dL_law_1179 rfl ?_
  refine l3_aload_n 1 dL_law_1180 rfl ?_
  refine l3_iload 0 dL_law_1181 rfl ?_
  refine l3_iconst 1 dL_law_1183 (by decide) ?_
  refine l3_iadd dL_law_1184 ?_
  refine l3_sld dL_law_1185 v1 ?_
  refine l3_callV (n := 1) (As := [.int (xs (x4 + 1 : Int32).toNatClampNeg)]) (by omega) dL_law_1186 (k_X11_run 1000 (by omega) (xs (x4 + 1 : Int32).toNatClampNeg) M) (Nat.le_of_ble_eq_true rfl) (Nat.le_of_ble_eq_true rfl) w_1236 w_1237 w_1238 w_101 w_1239 (by decide +kernel) rfl (by decide) sh_0 rfl rfl (Nat.le_of_ble_eq_true rfl) (fun r M1 h1 => ?_)
  obtain ⟨⟨y1, rfl⟩, h1⟩ := h1
  have hJ := l3_J hJ h1 (fun i h => by first | exact (h : False).elim | omega)
  have oM1_1_1 : (M1.1 1 1).toInt = (M.1 1 1).toInt := tl_slot (congrFun (h1.1 1 (fun h => by first | exact (h : False).elim | omega)) 1)
  have oM1_175_7 : (M1.1 175 7).toInt = (M.1 175 7).toInt := tl_slot (congrFun (h1.1 175 (fun h => by first | exact (h : False).elim | omega)) 7)
  have oM1_5_0 : (M1.1 5 0).toInt = (M.1 5 0).toInt := tl_slot (congrFun (h1.1 5 (fun h => by first | exact (h : False).elim | omega)) 0)
  have oM1_175_1 : (M1.1 175 1).toInt = (M.1 175 1).toInt := tl_slot (congrFun (h1.1 175 (fun h => by first | exact (h : False).elim | omega)) 1)
  have Pal_M1 : li_al (M1.1 2) (M1.1 180) := li_al_mv (h1.1 2 (fun h => by first | exact (h : False).elim | omega)) (h1.1 180 (fun h => by first | exact (h : False).elim | omega)) Pal_M
  have Pst_M1 : li_st (M1.1 6) (M1.1 177) ((M1.1 5 0).toInt) := li_st_mv (h1.1 6 (fun h => by first | exact (h : False).elim | omega)) (h1.1 177 (fun h => by first | exact (h : False).elim | omega)) (by omega) Pst_M
  refine l3_pop dL_law_1189 rfl ?_
  refine l3_aload_n 3 dL_law_1190 rfl ?_
  refine l3_aload_n 1 dL_law_1191 rfl ?_
  refine l3_iload 0 dL_law_1192 rfl ?_
  refine l3_iconst 1 dL_law_1194 (by decide) ?_
  refine l3_iadd dL_law_1195 ?_
  refine l3_sld dL_law_1196 v1 ?_
  refine l3_callV (n := 1) (As := [.int (xs (x4 + 1 : Int32).toNatClampNeg)]) (by omega) dL_law_1197 (k_X12_run 1000 (by omega) (xs (x4 + 1 : Int32).toNatClampNeg) M1 hJ ) (Nat.le_of_ble_eq_true rfl) (Nat.le_of_ble_eq_true rfl) w_1955 w_1956 w_1957 w_112 w_1958 (by decide +kernel) rfl (by decide) sh_175 rfl rfl (Nat.le_of_ble_eq_true rfl) (fun r M2 h2 => ?_)
  have jh2 := h2
  obtain ⟨y2, rfl⟩ : ∃ y : Int32, r = some (.int y) := by first | exact ⟨_, h2.1.choose_spec⟩ | exact ⟨_, h2.1.choose_spec.1⟩ | (rcases h2.1 with ⟨e, -⟩ | ⟨e, -⟩ <;> exact ⟨_, e⟩)
  have hJ : li_J M2 := by first | exact h2.2.2 | exact h2.2.2.1
  have oM2_1_1 : (M2.1 1 1).toInt = (M1.1 1 1).toInt := tl_slot (h2.2.1.1 1 1 (fun h => by first | exact (h : False).elim | omega))
  have oM2_175_7 : (M2.1 175 7).toInt = (M1.1 175 7).toInt := tl_slot (h2.2.1.1 175 7 (fun h => by first | exact (h : False).elim | omega))
  have oM2_5_0 : (M2.1 5 0).toInt = (M1.1 5 0).toInt := tl_slot (h2.2.1.1 5 0 (fun h => by first | exact (h : False).elim | omega))
  have oM2_175_1 : (M2.1 175 1).toInt = (M1.1 175 1).toInt := tl_slot (h2.2.1.1 175 1 (fun h => by first | exact (h : False).elim | omega))
  have Pal_M2 : li_al (M2.1 2) (M2.1 180) := li_al_mv (funext fun i => h2.2.1.1 2 i (fun h => by first | exact (h : False).elim | omega)) (funext fun i => h2.2.1.1 180 i (fun h => by first | exact (h : False).elim | omega)) Pal_M1
  have Pst_M2 : li_st (M2.1 6) (M2.1 177) ((M2.1 5 0).toInt) := li_st_mv (funext fun i => h2.2.1.1 6 i (fun h => by first | exact (h : False).elim | omega)) (funext fun i => h2.2.1.1 177 i (fun h => by first | exact (h : False).elim | omega)) (by omega) Pst_M1
  refine l3_pop dL_law_1200 rfl ?_
  refine l3_goto 1344 dL_law_1201 (by decide) ?_
  exact KK _ M2 hJ (by omega) (by omega) (by omega) Pal_M2 Pst_M2
set_option maxRecDepth 100000 in
set_option maxHeartbeats 4000000 in
theorem lc_35 {l : Launch} {Z : li_Z} {b L kc : Nat} {xs : Nat → Int32} {x4 : Int32} {M : li_M} {Q : Option Value → li_M → Prop} (htr : l.stackTraces = false) (hk : kc ≤ 512) (hJ : li_J M) (v1 : vp_in (x4 + 1) L) (v2 : vp_in (x4 + 2) L) (v3 : vp_in (x4 + 3) L) (v4 : vp_in (x4 + 4) L) (hR0 : (M.1 1 1).toInt = (M.1 175 7).toInt) (hR1 : (M.1 5 0).toInt = (M.1 175 1).toInt) (Pal_M : li_al (M.1 2) (M.1 180)) (Pst_M : li_st (M.1 6) (M.1 177) ((M.1 5 0).toInt)) (KK : ∀ (k : Nat) (M : li_M), li_J M → k ≤ kc + 1 → (M.1 1 1).toInt = (M.1 175 7).toInt → (M.1 5 0).toInt = (M.1 175 1).toInt → li_al (M.1 2) (M.1 180) → li_st (M.1 6) (M.1 177) ((M.1 5 0).toInt) → l3_T l Z b L xs k 1344 [(4, .int x4), (0, .ref b), (1, .ref (Z.2.2 0)), (2, .ref (Z.2.2 175)), (3, .ref (Z.2.2 204))] [] M Q) : l3_T l Z b L xs kc 1204 [(4, .int x4), (0, .ref b), (1, .ref (Z.2.2 0)), (2, .ref (Z.2.2 175)), (3, .ref (Z.2.2 204))] [] M Q := by
  have rJ7 := J_sl7 (M := M) hJ
  have rJ1 := J_sl1 (M := M) hJ
  refine l3_aload_n 2 dL_law_1204 rfl ?_
  refine l3_aload_n 1 dL_law_1205 rfl ?_
  refine l3_iload 0 dL_law_1206 rfl ?_
  refine l3_iconst 1 dL_law_1208 (by decide) ?_
  refine l3_iadd dL_law_1209 ?_
  refine l3_sld dL_law_1210 v1 ?_
  refine l3_aload_n 1 dL_law_1211 rfl ?_
  refine l3_iload 0 dL_law_1212 rfl ?_
  refine l3_iconst 2 dL_law_1214 (by decide) ?_
  refine l3_iadd dL_law_1215 ?_
  refine l3_sld dL_law_1216 v2 ?_
  refine l3_callV (n := 2) (As := [.int (xs (x4 + 1 : Int32).toNatClampNeg), .int (xs (x4 + 2 : Int32).toNatClampNeg)]) (by omega) dL_law_1217 (k_X11_years 1000 (by omega) (xs (x4 + 1 : Int32).toNatClampNeg) (xs (x4 + 2 : Int32).toNatClampNeg) M) (Nat.le_of_ble_eq_true rfl) (Nat.le_of_ble_eq_true rfl) w_1265 w_1266 w_1267 w_101 w_1268 (by decide +kernel) rfl (by decide) sh_0 rfl rfl (Nat.le_of_ble_eq_true rfl) (fun r M1 h1 => ?_)
  obtain ⟨⟨y1, rfl⟩, h1⟩ := h1
  have hJ := l3_J hJ h1 (fun i h => by first | exact (h : False).elim | omega)
  have oM1_1_1 : (M1.1 1 1).toInt = (M.1 1 1).toInt := tl_slot (congrFun (h1.1 1 (fun h => by first | exact (h : False).elim | omega)) 1)
  have oM1_175_7 : (M1.1 175 7).toInt = (M.1 175 7).toInt := tl_slot (congrFun (h1.1 175 (fun h => by first | exact (h : False).elim | omega)) 7)
  have oM1_5_0 : (M1.1 5 0).toInt = (M.1 5 0).toInt := tl_slot (congrFun (h1.1 5 (fun h => by first | exact (h : False).elim | omega)) 0)
  have oM1_175_1 : (M1.1 175 1).toInt = (M.1 175 1).toInt := tl_slot (congrFun (h1.1 175 (fun h => by first | exact (h : False).elim | omega)) 1)
  have Pal_M1 : li_al (M1.1 2) (M1.1 180) := li_al_mv (h1.1 2 (fun h => by first | exact (h : False).elim | omega)) (h1.1 180 (fun h => by first | exact (h : False).elim | omega)) Pal_M
  have Pst_M1 : li_st (M1.1 6) (M1.1 177) ((M1.1 5 0).toInt) := li_st_mv (h1.1 6 (fun h => by first | exact (h : False).elim | omega)) (h1.1 177 (fun h => by first | exact (h : False).elim | omega)) (by omega) Pst_M
  refine l3_pop dL_law_1220 rfl ?_
  refine l3_aload_n 3 dL_law_1221 rfl ?_
  refine l3_aload_n 1 dL_law_1222 rfl ?_
  refine l3_iload 0 dL_law_1223 rfl ?_
  refine l3_iconst 1 dL_law_1225 (by decide) ?_
  refine l3_iadd dL_law_1226 ?_
  refine l3_sld dL_law_1227 v1 ?_
  refine l3_aload_n 1 dL_law_1228 rfl ?_
  refine l3_iload 0 dL_law_1229 rfl ?_
  refine l3_iconst 2 dL_law_1231 (by decide) ?_
  refine l3_iadd dL_law_1232 ?_
  refine l3_sld dL_law_1233 v2 ?_
  refine l3_callV (n := 2) (As := [.int (xs (x4 + 1 : Int32).toNatClampNeg), .int (xs (x4 + 2 : Int32).toNatClampNeg)]) (by omega) dL_law_1234 (k_X12_years 1000 (by omega) (xs (x4 + 1 : Int32).toNatClampNeg) (xs (x4 + 2 : Int32).toNatClampNeg) M1 hJ ) (Nat.le_of_ble_eq_true rfl) (Nat.le_of_ble_eq_true rfl) w_1963 w_1964 w_1965 w_112 w_1966 (by decide +kernel) rfl (by decide) sh_175 rfl rfl (Nat.le_of_ble_eq_true rfl) (fun r M2 h2 => ?_)
  have jh2 := h2
  obtain ⟨y2, rfl⟩ : ∃ y : Int32, r = some (.int y) := by first | exact ⟨_, h2.1.choose_spec⟩ | exact ⟨_, h2.1.choose_spec.1⟩ | (rcases h2.1 with ⟨e, -⟩ | ⟨e, -⟩ <;> exact ⟨_, e⟩)
  have hJ : li_J M2 := by first | exact h2.2.2 | exact h2.2.2.1
  have oM2_1_1 : (M2.1 1 1).toInt = (M1.1 1 1).toInt := tl_slot (h2.2.1.1 1 1 (fun h => by first | exact (h : False).elim | omega))
  have oM2_175_7 : (M2.1 175 7).toInt = (M1.1 175 7).toInt := tl_slot (h2.2.1.1 175 7 (fun h => by first | exact (h : False).elim | omega))
  have oM2_5_0 : (M2.1 5 0).toInt = (M1.1 5 0).toInt := tl_slot (h2.2.1.1 5 0 (fun h => by first | exact (h : False).elim | omega))
  have oM2_175_1 : (M2.1 175 1).toInt = (M1.1 175 1).toInt := tl_slot (h2.2.1.1 175 1 (fun h => by first | exact (h : False).elim | omega))
  have Pal_M2 : li_al (M2.1 2) (M2.1 180) := li_al_mv (funext fun i => h2.2.1.1 2 i (fun h => by first | exact (h : False).elim | omega)) (funext fun i => h2.2.1.1 180 i (fun h => by first | exact (h : False).elim | omega)) Pal_M1
  have Pst_M2 : li_st (M2.1 6) (M2.1 177) ((M2.1 5 0).toInt) := li_st_mv (funext fun i => h2.2.1.1 6 i (fun h => by first | exact (h : False).elim | omega)) (funext fun i => h2.2.1.1 177 i (fun h => by first | exact (h : False).elim | omega)) (by omega) Pst_M1
  refine l3_pop dL_law_1237 rfl ?_
  refine l3_goto 1344 dL_law_1238 (by decide) ?_
  exact KK _ M2 hJ (by omega) (by omega) (by omega) Pal_M2 Pst_M2
set_option maxRecDepth 100000 in
set_option maxHeartbeats 4000000 in
theorem lc_36 {l : Launch} {Z : li_Z} {b L kc : Nat} {xs : Nat → Int32} {x4 : Int32} {M : li_M} {Q : Option Value → li_M → Prop} (htr : l.stackTraces = false) (hk : kc ≤ 512) (hJ : li_J M) (v1 : vp_in (x4 + 1) L) (v2 : vp_in (x4 + 2) L) (v3 : vp_in (x4 + 3) L) (v4 : vp_in (x4 + 4) L) (hR0 : (M.1 1 1).toInt = (M.1 175 7).toInt) (hR1 : (M.1 5 0).toInt = (M.1 175 1).toInt) (Pal_M : li_al (M.1 2) (M.1 180)) (Pst_M : li_st (M.1 6) (M.1 177) ((M.1 5 0).toInt)) (KK : ∀ (k : Nat) (M : li_M), li_J M → k ≤ kc + 1 → (M.1 1 1).toInt = (M.1 175 7).toInt → (M.1 5 0).toInt = (M.1 175 1).toInt → li_al (M.1 2) (M.1 180) → li_st (M.1 6) (M.1 177) ((M.1 5 0).toInt) → l3_T l Z b L xs k 1344 [(4, .int x4), (0, .ref b), (1, .ref (Z.2.2 0)), (2, .ref (Z.2.2 175)), (3, .ref (Z.2.2 204))] [] M Q) : l3_T l Z b L xs kc 1241 [(4, .int x4), (0, .ref b), (1, .ref (Z.2.2 0)), (2, .ref (Z.2.2 175)), (3, .ref (Z.2.2 204))] [] M Q := by
  have rJ7 := J_sl7 (M := M) hJ
  have rJ1 := J_sl1 (M := M) hJ
  refine l3_aload_n 2 dL_law_1241 rfl ?_
  refine l3_aload_n 1 dL_law_1242 rfl ?_
  refine l3_iload 0 dL_law_1243 rfl ?_
  refine l3_iconst 1 dL_law_1245 (by decide) ?_
  refine l3_iadd dL_law_1246 ?_
  refine l3_sld dL_law_1247 v1 ?_
  refine l3_callV (n := 1) (As := [.int (xs (x4 + 1 : Int32).toNatClampNeg)]) (by omega) dL_law_1248 (k_X11_keep 1000 (by omega) (xs (x4 + 1 : Int32).toNatClampNeg) M) (Nat.le_of_ble_eq_true rfl) (Nat.le_of_ble_eq_true rfl) w_1274 w_1275 w_1276 w_101 w_1277 (by decide +kernel) rfl (by decide) sh_0 rfl rfl (Nat.le_of_ble_eq_true rfl) (fun r M1 h1 => ?_)
  obtain ⟨⟨y1, rfl, -⟩, h1⟩ := h1
  have hJ := l3_J hJ h1 (fun i h => by first | exact (h : False).elim | omega)
  have oM1_1_1 : (M1.1 1 1).toInt = (M.1 1 1).toInt := tl_slot (congrFun (h1.1 1 (fun h => by first | exact (h : False).elim | omega)) 1)
  have oM1_175_7 : (M1.1 175 7).toInt = (M.1 175 7).toInt := tl_slot (congrFun (h1.1 175 (fun h => by first | exact (h : False).elim | omega)) 7)
  have oM1_5_0 : (M1.1 5 0).toInt = (M.1 5 0).toInt := tl_slot (congrFun (h1.1 5 (fun h => by first | exact (h : False).elim | omega)) 0)
  have oM1_175_1 : (M1.1 175 1).toInt = (M.1 175 1).toInt := tl_slot (congrFun (h1.1 175 (fun h => by first | exact (h : False).elim | omega)) 1)
  have Pal_M1 : li_al (M1.1 2) (M1.1 180) := li_al_mv (h1.1 2 (fun h => by first | exact (h : False).elim | omega)) (h1.1 180 (fun h => by first | exact (h : False).elim | omega)) Pal_M
  have Pst_M1 : li_st (M1.1 6) (M1.1 177) ((M1.1 5 0).toInt) := li_st_mv (h1.1 6 (fun h => by first | exact (h : False).elim | omega)) (h1.1 177 (fun h => by first | exact (h : False).elim | omega)) (by omega) Pst_M
  refine l3_pop dL_law_1251 rfl ?_
  refine l3_aload_n 3 dL_law_1252 rfl ?_
  refine l3_aload_n 1 dL_law_1253 rfl ?_
  refine l3_iload 0 dL_law_1254 rfl ?_
  refine l3_iconst 1 dL_law_1256 (by decide) ?_
  refine l3_iadd dL_law_1257 ?_
  refine l3_sld dL_law_1258 v1 ?_
  refine l3_callV (n := 1) (As := [.int (xs (x4 + 1 : Int32).toNatClampNeg)]) (by omega) dL_law_1259 (k_X12_keep 1000 (by omega) (xs (x4 + 1 : Int32).toNatClampNeg) M1 hJ ) (Nat.le_of_ble_eq_true rfl) (Nat.le_of_ble_eq_true rfl) w_1968 w_1969 w_1970 w_112 w_1971 (by decide +kernel) rfl (by decide) sh_175 rfl rfl (Nat.le_of_ble_eq_true rfl) (fun r M2 h2 => ?_)
  have jh2 := h2
  obtain ⟨y2, rfl⟩ : ∃ y : Int32, r = some (.int y) := by first | exact ⟨_, h2.1.choose_spec⟩ | exact ⟨_, h2.1.choose_spec.1⟩ | (rcases h2.1 with ⟨e, -⟩ | ⟨e, -⟩ <;> exact ⟨_, e⟩)
  have hJ : li_J M2 := by first | exact h2.2.2 | exact h2.2.2.1
  have oM2_1_1 : (M2.1 1 1).toInt = (M1.1 1 1).toInt := tl_slot (h2.2.1.1 1 1 (fun h => by first | exact (h : False).elim | omega))
  have oM2_175_7 : (M2.1 175 7).toInt = (M1.1 175 7).toInt := tl_slot (h2.2.1.1 175 7 (fun h => by first | exact (h : False).elim | omega))
  have oM2_5_0 : (M2.1 5 0).toInt = (M1.1 5 0).toInt := tl_slot (h2.2.1.1 5 0 (fun h => by first | exact (h : False).elim | omega))
  have oM2_175_1 : (M2.1 175 1).toInt = (M1.1 175 1).toInt := tl_slot (h2.2.1.1 175 1 (fun h => by first | exact (h : False).elim | omega))
  have Pal_M2 : li_al (M2.1 2) (M2.1 180) := li_al_mv (funext fun i => h2.2.1.1 2 i (fun h => by first | exact (h : False).elim | omega)) (funext fun i => h2.2.1.1 180 i (fun h => by first | exact (h : False).elim | omega)) Pal_M1
  have Pst_M2 : li_st (M2.1 6) (M2.1 177) ((M2.1 5 0).toInt) := li_st_mv (funext fun i => h2.2.1.1 6 i (fun h => by first | exact (h : False).elim | omega)) (funext fun i => h2.2.1.1 177 i (fun h => by first | exact (h : False).elim | omega)) (by omega) Pst_M1
  refine l3_pop dL_law_1262 rfl ?_
  refine l3_goto 1344 dL_law_1263 (by decide) ?_
  exact KK _ M2 hJ (by omega) (by omega) (by omega) Pal_M2 Pst_M2
set_option maxRecDepth 100000 in
set_option maxHeartbeats 4000000 in
theorem lc_37 {l : Launch} {Z : li_Z} {b L kc : Nat} {xs : Nat → Int32} {x4 : Int32} {M : li_M} {Q : Option Value → li_M → Prop} (htr : l.stackTraces = false) (hk : kc ≤ 512) (hJ : li_J M) (v1 : vp_in (x4 + 1) L) (v2 : vp_in (x4 + 2) L) (v3 : vp_in (x4 + 3) L) (v4 : vp_in (x4 + 4) L) (hR0 : (M.1 1 1).toInt = (M.1 175 7).toInt) (hR1 : (M.1 5 0).toInt = (M.1 175 1).toInt) (Pal_M : li_al (M.1 2) (M.1 180)) (Pst_M : li_st (M.1 6) (M.1 177) ((M.1 5 0).toInt)) (KK : ∀ (k : Nat) (M : li_M), li_J M → k ≤ kc + 1 → (M.1 1 1).toInt = (M.1 175 7).toInt → (M.1 5 0).toInt = (M.1 175 1).toInt → li_al (M.1 2) (M.1 180) → li_st (M.1 6) (M.1 177) ((M.1 5 0).toInt) → l3_T l Z b L xs k 1344 [(4, .int x4), (0, .ref b), (1, .ref (Z.2.2 0)), (2, .ref (Z.2.2 175)), (3, .ref (Z.2.2 204))] [] M Q) : l3_T l Z b L xs kc 1266 [(4, .int x4), (0, .ref b), (1, .ref (Z.2.2 0)), (2, .ref (Z.2.2 175)), (3, .ref (Z.2.2 204))] [] M Q := by
  have rJ7 := J_sl7 (M := M) hJ
  have rJ1 := J_sl1 (M := M) hJ
  refine l3_aload_n 2 dL_law_1266 rfl ?_
  refine l3_aload_n 1 dL_law_1267 rfl ?_
  refine l3_iload 0 dL_law_1268 rfl ?_
  refine l3_iconst 1 dL_law_1270 (by decide) ?_
  refine l3_iadd dL_law_1271 ?_
  refine l3_sld dL_law_1272 v1 ?_
  refine l3_callV (n := 1) (As := [.int (xs (x4 + 1 : Int32).toNatClampNeg)]) (by omega) dL_law_1273 (k_X11_again 1000 (by omega) (xs (x4 + 1 : Int32).toNatClampNeg) M) (Nat.le_of_ble_eq_true rfl) (Nat.le_of_ble_eq_true rfl) w_1282 w_1283 w_1284 w_101 w_1285 (by decide +kernel) rfl (by decide) sh_0 rfl rfl (Nat.le_of_ble_eq_true rfl) (fun r M1 h1 => ?_)
  obtain ⟨⟨y1, rfl, -⟩, h1⟩ := h1
  have hJ := l3_J hJ h1 (fun i h => by first | exact (h : False).elim | omega)
  have oM1_1_1 : (M1.1 1 1).toInt = (M.1 1 1).toInt := tl_slot (congrFun (h1.1 1 (fun h => by first | exact (h : False).elim | omega)) 1)
  have oM1_175_7 : (M1.1 175 7).toInt = (M.1 175 7).toInt := tl_slot (congrFun (h1.1 175 (fun h => by first | exact (h : False).elim | omega)) 7)
  have oM1_5_0 : (M1.1 5 0).toInt = (M.1 5 0).toInt := tl_slot (congrFun (h1.1 5 (fun h => by first | exact (h : False).elim | omega)) 0)
  have oM1_175_1 : (M1.1 175 1).toInt = (M.1 175 1).toInt := tl_slot (congrFun (h1.1 175 (fun h => by first | exact (h : False).elim | omega)) 1)
  have Pal_M1 : li_al (M1.1 2) (M1.1 180) := li_al_mv (h1.1 2 (fun h => by first | exact (h : False).elim | omega)) (h1.1 180 (fun h => by first | exact (h : False).elim | omega)) Pal_M
  have Pst_M1 : li_st (M1.1 6) (M1.1 177) ((M1.1 5 0).toInt) := li_st_mv (h1.1 6 (fun h => by first | exact (h : False).elim | omega)) (h1.1 177 (fun h => by first | exact (h : False).elim | omega)) (by omega) Pst_M
  refine l3_pop dL_law_1276 rfl ?_
  refine l3_aload_n 3 dL_law_1277 rfl ?_
  refine l3_aload_n 1 dL_law_1278 rfl ?_
  refine l3_iload 0 dL_law_1279 rfl ?_
  refine l3_iconst 1 dL_law_1281 (by decide) ?_
  refine l3_iadd dL_law_1282 ?_
  refine l3_sld dL_law_1283 v1 ?_
  refine l3_callV (n := 1) (As := [.int (xs (x4 + 1 : Int32).toNatClampNeg)]) (by omega) dL_law_1284 (k_X12_again 1000 (by omega) (xs (x4 + 1 : Int32).toNatClampNeg) M1 hJ ) (Nat.le_of_ble_eq_true rfl) (Nat.le_of_ble_eq_true rfl) w_1972 w_1973 w_1974 w_112 w_1975 (by decide +kernel) rfl (by decide) sh_175 rfl rfl (Nat.le_of_ble_eq_true rfl) (fun r M2 h2 => ?_)
  have jh2 := h2
  obtain ⟨y2, rfl⟩ : ∃ y : Int32, r = some (.int y) := by first | exact ⟨_, h2.1.choose_spec⟩ | exact ⟨_, h2.1.choose_spec.1⟩ | (rcases h2.1 with ⟨e, -⟩ | ⟨e, -⟩ <;> exact ⟨_, e⟩)
  have hJ : li_J M2 := by first | exact h2.2.2 | exact h2.2.2.1
  have oM2_1_1 : (M2.1 1 1).toInt = (M1.1 1 1).toInt := tl_slot (h2.2.1.1 1 1 (fun h => by first | exact (h : False).elim | omega))
  have oM2_175_7 : (M2.1 175 7).toInt = (M1.1 175 7).toInt := tl_slot (h2.2.1.1 175 7 (fun h => by first | exact (h : False).elim | omega))
  have oM2_5_0 : (M2.1 5 0).toInt = (M1.1 5 0).toInt := tl_slot (h2.2.1.1 5 0 (fun h => by first | exact (h : False).elim | omega))
  have oM2_175_1 : (M2.1 175 1).toInt = (M1.1 175 1).toInt := tl_slot (h2.2.1.1 175 1 (fun h => by first | exact (h : False).elim | omega))
  have Pal_M2 : li_al (M2.1 2) (M2.1 180) := li_al_mv (funext fun i => h2.2.1.1 2 i (fun h => by first | exact (h : False).elim | omega)) (funext fun i => h2.2.1.1 180 i (fun h => by first | exact (h : False).elim | omega)) Pal_M1
  have Pst_M2 : li_st (M2.1 6) (M2.1 177) ((M2.1 5 0).toInt) := li_st_mv (funext fun i => h2.2.1.1 6 i (fun h => by first | exact (h : False).elim | omega)) (funext fun i => h2.2.1.1 177 i (fun h => by first | exact (h : False).elim | omega)) (by omega) Pst_M1
  refine l3_pop dL_law_1287 rfl ?_
  refine l3_goto 1344 dL_law_1288 (by decide) ?_
  exact KK _ M2 hJ (by omega) (by omega) (by omega) Pal_M2 Pst_M2
set_option maxRecDepth 100000 in
set_option maxHeartbeats 4000000 in
theorem lc_38 {l : Launch} {Z : li_Z} {b L kc : Nat} {xs : Nat → Int32} {x4 : Int32} {M : li_M} {Q : Option Value → li_M → Prop} (htr : l.stackTraces = false) (hk : kc ≤ 512) (hJ : li_J M) (v1 : vp_in (x4 + 1) L) (v2 : vp_in (x4 + 2) L) (v3 : vp_in (x4 + 3) L) (v4 : vp_in (x4 + 4) L) (hR0 : (M.1 1 1).toInt = (M.1 175 7).toInt) (hR1 : (M.1 5 0).toInt = (M.1 175 1).toInt) (Pal_M : li_al (M.1 2) (M.1 180)) (Pst_M : li_st (M.1 6) (M.1 177) ((M.1 5 0).toInt)) (KK : ∀ (k : Nat) (M : li_M), li_J M → k ≤ kc + 1 → (M.1 1 1).toInt = (M.1 175 7).toInt → (M.1 5 0).toInt = (M.1 175 1).toInt → li_al (M.1 2) (M.1 180) → li_st (M.1 6) (M.1 177) ((M.1 5 0).toInt) → l3_T l Z b L xs k 1344 [(4, .int x4), (0, .ref b), (1, .ref (Z.2.2 0)), (2, .ref (Z.2.2 175)), (3, .ref (Z.2.2 204))] [] M Q) : l3_T l Z b L xs kc 1291 [(4, .int x4), (0, .ref b), (1, .ref (Z.2.2 0)), (2, .ref (Z.2.2 175)), (3, .ref (Z.2.2 204))] [] M Q := by
  have rJ7 := J_sl7 (M := M) hJ
  have rJ1 := J_sl1 (M := M) hJ
  refine l3_aload_n 2 dL_law_1291 rfl ?_
  refine l3_aload_n 1 dL_law_1292 rfl ?_
  refine l3_iload 0 dL_law_1293 rfl ?_
  refine l3_iconst 1 dL_law_1295 (by decide) ?_
  refine l3_iadd dL_law_1296 ?_
  refine l3_sld dL_law_1297 v1 ?_
  refine l3_callV (n := 1) (As := [.int (xs (x4 + 1 : Int32).toNatClampNeg)]) (by omega) dL_law_1298 (k_X11_count 1000 (by omega) (xs (x4 + 1 : Int32).toNatClampNeg) M) (Nat.le_of_ble_eq_true rfl) (Nat.le_of_ble_eq_true rfl) w_1291 w_1292 w_1293 w_101 w_1294 (by decide +kernel) rfl (by decide) sh_0 rfl rfl (Nat.le_of_ble_eq_true rfl) (fun r M1 h1 => ?_)
  obtain ⟨⟨y1, rfl⟩, h1⟩ := h1
  have hJ := l3_J hJ h1 (fun i h => by first | exact (h : False).elim | omega)
  have oM1_1_1 : (M1.1 1 1).toInt = (M.1 1 1).toInt := tl_slot (congrFun (h1.1 1 (fun h => by first | exact (h : False).elim | omega)) 1)
  have oM1_175_7 : (M1.1 175 7).toInt = (M.1 175 7).toInt := tl_slot (congrFun (h1.1 175 (fun h => by first | exact (h : False).elim | omega)) 7)
  have oM1_5_0 : (M1.1 5 0).toInt = (M.1 5 0).toInt := tl_slot (congrFun (h1.1 5 (fun h => by first | exact (h : False).elim | omega)) 0)
  have oM1_175_1 : (M1.1 175 1).toInt = (M.1 175 1).toInt := tl_slot (congrFun (h1.1 175 (fun h => by first | exact (h : False).elim | omega)) 1)
  have Pal_M1 : li_al (M1.1 2) (M1.1 180) := li_al_mv (h1.1 2 (fun h => by first | exact (h : False).elim | omega)) (h1.1 180 (fun h => by first | exact (h : False).elim | omega)) Pal_M
  have Pst_M1 : li_st (M1.1 6) (M1.1 177) ((M1.1 5 0).toInt) := li_st_mv (h1.1 6 (fun h => by first | exact (h : False).elim | omega)) (h1.1 177 (fun h => by first | exact (h : False).elim | omega)) (by omega) Pst_M
  refine l3_pop dL_law_1301 rfl ?_
  refine l3_aload_n 3 dL_law_1302 rfl ?_
  refine l3_aload_n 1 dL_law_1303 rfl ?_
  refine l3_iload 0 dL_law_1304 rfl ?_
  refine l3_iconst 1 dL_law_1306 (by decide) ?_
  refine l3_iadd dL_law_1307 ?_
  refine l3_sld dL_law_1308 v1 ?_
  refine l3_callV (n := 1) (As := [.int (xs (x4 + 1 : Int32).toNatClampNeg)]) (by omega) dL_law_1309 (k_X12_count 1000 (by omega) (xs (x4 + 1 : Int32).toNatClampNeg) M1 hJ ) (Nat.le_of_ble_eq_true rfl) (Nat.le_of_ble_eq_true rfl) w_1976 w_1977 w_1978 w_112 w_1979 (by decide +kernel) rfl (by decide) sh_175 rfl rfl (Nat.le_of_ble_eq_true rfl) (fun r M2 h2 => ?_)
  have jh2 := h2
  obtain ⟨y2, rfl⟩ : ∃ y : Int32, r = some (.int y) := by first | exact ⟨_, h2.1.choose_spec⟩ | exact ⟨_, h2.1.choose_spec.1⟩ | (rcases h2.1 with ⟨e, -⟩ | ⟨e, -⟩ <;> exact ⟨_, e⟩)
  have hJ : li_J M2 := by first | exact h2.2.2 | exact h2.2.2.1
  have oM2_1_1 : (M2.1 1 1).toInt = (M1.1 1 1).toInt := tl_slot (h2.2.1.1 1 1 (fun h => by first | exact (h : False).elim | omega))
  have oM2_175_7 : (M2.1 175 7).toInt = (M1.1 175 7).toInt := tl_slot (h2.2.1.1 175 7 (fun h => by first | exact (h : False).elim | omega))
  have oM2_5_0 : (M2.1 5 0).toInt = (M1.1 5 0).toInt := tl_slot (h2.2.1.1 5 0 (fun h => by first | exact (h : False).elim | omega))
  have oM2_175_1 : (M2.1 175 1).toInt = (M1.1 175 1).toInt := tl_slot (h2.2.1.1 175 1 (fun h => by first | exact (h : False).elim | omega))
  have Pal_M2 : li_al (M2.1 2) (M2.1 180) := li_al_mv (funext fun i => h2.2.1.1 2 i (fun h => by first | exact (h : False).elim | omega)) (funext fun i => h2.2.1.1 180 i (fun h => by first | exact (h : False).elim | omega)) Pal_M1
  have Pst_M2 : li_st (M2.1 6) (M2.1 177) ((M2.1 5 0).toInt) := li_st_mv (funext fun i => h2.2.1.1 6 i (fun h => by first | exact (h : False).elim | omega)) (funext fun i => h2.2.1.1 177 i (fun h => by first | exact (h : False).elim | omega)) (by omega) Pst_M1
  refine l3_pop dL_law_1312 rfl ?_
  refine l3_goto 1344 dL_law_1313 (by decide) ?_
  exact KK _ M2 hJ (by omega) (by omega) (by omega) Pal_M2 Pst_M2
set_option maxRecDepth 100000 in
set_option maxHeartbeats 4000000 in
theorem lc_39 {l : Launch} {Z : li_Z} {b L kc : Nat} {xs : Nat → Int32} {x4 : Int32} {M : li_M} {Q : Option Value → li_M → Prop} (htr : l.stackTraces = false) (hk : kc ≤ 512) (hJ : li_J M) (v1 : vp_in (x4 + 1) L) (v2 : vp_in (x4 + 2) L) (v3 : vp_in (x4 + 3) L) (v4 : vp_in (x4 + 4) L) (hR0 : (M.1 1 1).toInt = (M.1 175 7).toInt) (hR1 : (M.1 5 0).toInt = (M.1 175 1).toInt) (Pal_M : li_al (M.1 2) (M.1 180)) (Pst_M : li_st (M.1 6) (M.1 177) ((M.1 5 0).toInt)) (KK : ∀ (k : Nat) (M : li_M), li_J M → k ≤ kc + 1 → (M.1 1 1).toInt = (M.1 175 7).toInt → (M.1 5 0).toInt = (M.1 175 1).toInt → li_al (M.1 2) (M.1 180) → li_st (M.1 6) (M.1 177) ((M.1 5 0).toInt) → l3_T l Z b L xs k 1344 [(4, .int x4), (0, .ref b), (1, .ref (Z.2.2 0)), (2, .ref (Z.2.2 175)), (3, .ref (Z.2.2 204))] [] M Q) : l3_T l Z b L xs kc 1316 [(4, .int x4), (0, .ref b), (1, .ref (Z.2.2 0)), (2, .ref (Z.2.2 175)), (3, .ref (Z.2.2 204))] [] M Q := by
  have rJ7 := J_sl7 (M := M) hJ
  have rJ1 := J_sl1 (M := M) hJ
  refine l3_aload_n 2 dL_law_1316 rfl ?_
  refine l3_aload_n 1 dL_law_1317 rfl ?_
  refine l3_iload 0 dL_law_1318 rfl ?_
  refine l3_iconst 1 dL_law_1320 (by decide) ?_
  refine l3_iadd dL_law_1321 ?_
  refine l3_sld dL_law_1322 v1 ?_
  refine l3_aload_n 4 dL_law_1323 rfl ?_
  refine l3_callH (n := 3) (As := [.ref (Z.2.2 0), .int (xs (x4 + 1 : Int32).toNatClampNeg), .ref (Z.2.2 204)]) (by omega) dL_law_1324 (lh_row htr (xs (x4 + 1 : Int32).toNatClampNeg) M) (Nat.le_of_ble_eq_true rfl) w_1388 w_1389 w_100 w_1390 (by decide +kernel) rfl rfl (Nat.le_of_ble_eq_true rfl) (fun r M1 h1 => ?_)
  obtain ⟨⟨y1, rfl⟩, h1⟩ := h1
  have hJ := l3_J hJ h1 (fun i h => by omega)
  have oM1_1_1 : (M1.1 1 1).toInt = (M.1 1 1).toInt := tl_slot (congrFun (h1.1 1 (fun h => by first | exact (h : False).elim | omega)) 1)
  have oM1_175_7 : (M1.1 175 7).toInt = (M.1 175 7).toInt := tl_slot (congrFun (h1.1 175 (fun h => by first | exact (h : False).elim | omega)) 7)
  have oM1_5_0 : (M1.1 5 0).toInt = (M.1 5 0).toInt := tl_slot (congrFun (h1.1 5 (fun h => by first | exact (h : False).elim | omega)) 0)
  have oM1_175_1 : (M1.1 175 1).toInt = (M.1 175 1).toInt := tl_slot (congrFun (h1.1 175 (fun h => by first | exact (h : False).elim | omega)) 1)
  have Pal_M1 : li_al (M1.1 2) (M1.1 180) := li_al_mv (h1.1 2 (fun h => by first | exact (h : False).elim | omega)) (h1.1 180 (fun h => by first | exact (h : False).elim | omega)) Pal_M
  have Pst_M1 : li_st (M1.1 6) (M1.1 177) ((M1.1 5 0).toInt) := li_st_mv (h1.1 6 (fun h => by first | exact (h : False).elim | omega)) (h1.1 177 (fun h => by first | exact (h : False).elim | omega)) (by omega) Pst_M
  refine l3_istore [(5, .int y1), (4, .int x4), (0, .ref b), (1, .ref (Z.2.2 0)), (2, .ref (Z.2.2 175)), (3, .ref (Z.2.2 204))] dL_law_1327 (by decide) rfl ?_
  refine l3_aload_n 4 dL_law_1329 rfl ?_
  refine l3_aload_n 2 dL_law_1330 rfl ?_
  refine l3_iload 1 dL_law_1331 rfl ?_
  refine l3_iconst 1 dL_law_1333 (by decide) ?_
  refine l3_iadd dL_law_1334 ?_
  refine l3_sld dL_law_1335 v1 ?_
  refine l3_callV (n := 1) (As := [.int (xs (x4 + 1 : Int32).toNatClampNeg)]) (by omega) dL_law_1336 (k_X12_row 1000 (by omega) (xs (x4 + 1 : Int32).toNatClampNeg) M1 hJ ) (Nat.le_of_ble_eq_true rfl) (Nat.le_of_ble_eq_true rfl) w_1980 w_1981 w_1982 w_112 w_1983 (by decide +kernel) rfl (by decide) sh_175 rfl rfl (Nat.le_of_ble_eq_true rfl) (fun r M2 h2 => ?_)
  have jh2 := h2
  obtain ⟨y2, rfl⟩ : ∃ y : Int32, r = some (.int y) := by first | exact ⟨_, h2.1.choose_spec⟩ | exact ⟨_, h2.1.choose_spec.1⟩ | (rcases h2.1 with ⟨e, -⟩ | ⟨e, -⟩ <;> exact ⟨_, e⟩)
  have hJ : li_J M2 := by first | exact h2.2.2 | exact h2.2.2.1
  have oM2_1_1 : (M2.1 1 1).toInt = (M1.1 1 1).toInt := tl_slot (h2.2.1.1 1 1 (fun h => by first | exact (h : False).elim | omega))
  have oM2_175_7 : (M2.1 175 7).toInt = (M1.1 175 7).toInt := tl_slot (h2.2.1.1 175 7 (fun h => by first | exact (h : False).elim | omega))
  have oM2_5_0 : (M2.1 5 0).toInt = (M1.1 5 0).toInt := tl_slot (h2.2.1.1 5 0 (fun h => by first | exact (h : False).elim | omega))
  have oM2_175_1 : (M2.1 175 1).toInt = (M1.1 175 1).toInt := tl_slot (h2.2.1.1 175 1 (fun h => by first | exact (h : False).elim | omega))
  have Pal_M2 : li_al (M2.1 2) (M2.1 180) := li_al_mv (funext fun i => h2.2.1.1 2 i (fun h => by first | exact (h : False).elim | omega)) (funext fun i => h2.2.1.1 180 i (fun h => by first | exact (h : False).elim | omega)) Pal_M1
  have Pst_M2 : li_st (M2.1 6) (M2.1 177) ((M2.1 5 0).toInt) := li_st_mv (funext fun i => h2.2.1.1 6 i (fun h => by first | exact (h : False).elim | omega)) (funext fun i => h2.2.1.1 177 i (fun h => by first | exact (h : False).elim | omega)) (by omega) Pst_M1
  refine l3_istore [(6, .int y2), (5, .int y1), (4, .int x4), (0, .ref b), (1, .ref (Z.2.2 0)), (2, .ref (Z.2.2 175)), (3, .ref (Z.2.2 204))] dL_law_1339 (by decide) rfl ?_
  refine l3_goto 1344 dL_law_1341 (by decide) ?_
  refine l3_pick [2, 3, 4, 5, 6] [(4, .int x4), (0, .ref b), (1, .ref (Z.2.2 0)), (2, .ref (Z.2.2 175)), (3, .ref (Z.2.2 204))] rfl ?_
  exact KK _ M2 hJ (by omega) (by omega) (by omega) Pal_M2 Pst_M2
set_option maxRecDepth 100000 in
set_option maxHeartbeats 4000000 in
theorem l3_loop {l : Launch} {Z : li_Z} {b L : Nat} {xs : Nat → Int32} {Q : Option Value → li_M → Prop} (htr : l.stackTraces = false) (hL : L ≤ 2560) : ∀ (n kc : Nat) (x4 : Int32) (M : li_M), li_J M → 0 ≤ x4.toInt → 5 * (kc : Int) ≤ x4.toInt → x4.toInt ≤ 2560 → (2565 - x4.toInt).toNat < n → (M.1 1 1).toInt = (M.1 175 7).toInt → (M.1 5 0).toInt = (M.1 175 1).toInt → li_al (M.1 2) (M.1 180) → li_st (M.1 6) (M.1 177) ((M.1 5 0).toInt) → l3_T l Z b L xs kc 23 [(4, .int x4), (0, .ref b), (1, .ref (Z.2.2 0)), (2, .ref (Z.2.2 175)), (3, .ref (Z.2.2 204))] [] M Q := by
  intro n
  induction n with
  | zero => intro kc x4 M hJ h0 h1 h2 hn hR0 hR1 Pal_M Pst_M; exact absurd hn (Nat.not_lt_zero _)
  | succ n ih =>
    intro kc x4 M hJ h0 h1 h2 hn hR0 hR1 Pal_M Pst_M
    refine l3_iload 0 dL_law_23 rfl ?_
    refine l3_aload_n 1 dL_law_25 rfl ?_
    refine l3_slen dL_law_26 ?_
    refine l3_iconst 5 dL_law_27 (by decide) ?_
    refine l3_isub dL_law_28 ?_
    refine l3_top (fun y ey => ?_)
    have zL : (Int32.ofNat L).toInt = (L : Int) := Int32.toInt_ofNat_small (by omega)
    have z5 : (5 : Int32).toInt = 5 := rfl
    have ty : y.toInt = (Int32.ofNat L).toInt - (5 : Int32).toInt := tl_sub ey (by omega)
    refine l3_icmp_gt 1350 dL_law_29 (by decide) (fun c => ?_) (fun c => ?_)
    · refine l3_iconst 1 dL_law_1350 (by decide) ?_
      exact l3_end (by omega) dL_law_1351
    · have tc := tl_nlt c
      have z1 : (1 : Int32).toInt = 1 := rfl
      have i1 : (x4 + 1 : Int32).toInt = x4.toInt + (1 : Int32).toInt := tl_add rfl (by omega)
      have v1 : vp_in (x4 + 1) L := tl_in (by omega)
      have z2 : (2 : Int32).toInt = 2 := rfl
      have i2 : (x4 + 2 : Int32).toInt = x4.toInt + (2 : Int32).toInt := tl_add rfl (by omega)
      have v2 : vp_in (x4 + 2) L := tl_in (by omega)
      have z3 : (3 : Int32).toInt = 3 := rfl
      have i3 : (x4 + 3 : Int32).toInt = x4.toInt + (3 : Int32).toInt := tl_add rfl (by omega)
      have v3 : vp_in (x4 + 3) L := tl_in (by omega)
      have z4 : (4 : Int32).toInt = 4 := rfl
      have i4 : (x4 + 4 : Int32).toInt = x4.toInt + (4 : Int32).toInt := tl_add rfl (by omega)
      have v4 : vp_in (x4 + 4) L := tl_in (by omega)
      have v0 : vp_in x4 L := tl_in (by omega)
      have KK : ∀ (k : Nat) (M : li_M), li_J M → k ≤ kc + 1 → (M.1 1 1).toInt = (M.1 175 7).toInt → (M.1 5 0).toInt = (M.1 175 1).toInt → li_al (M.1 2) (M.1 180) → li_st (M.1 6) (M.1 177) ((M.1 5 0).toInt) → l3_T l Z b L xs k 1344 [(4, .int x4), (0, .ref b), (1, .ref (Z.2.2 0)), (2, .ref (Z.2.2 175)), (3, .ref (Z.2.2 204))] [] M Q := by
        intro k' M' hJ' hk' hR0' hR1' Pal_M' Pst_M'
        obtain ⟨x5, e5⟩ : ∃ y : Int32, y = x4 + 5 := ⟨_, rfl⟩
        have t5 : x5.toInt = x4.toInt + (5 : Int32).toInt := tl_add e5 (by omega)
        refine l3_iinc 0 [(4, .int x5), (0, .ref b), (1, .ref (Z.2.2 0)), (2, .ref (Z.2.2 175)), (3, .ref (Z.2.2 204))] x5 dL_law_1344 rfl (by rw [e5]; rfl) (by decide) rfl ?_
        refine l3_goto 23 dL_law_1347 (by decide) ?_
        exact ih k' x5 M' hJ' (by omega) (by omega) (by omega) (by omega) hR0' hR1' Pal_M' Pst_M'
      refine l3_aload_n 1 dL_law_32 rfl ?_
      refine l3_iload 0 dL_law_33 rfl ?_
      refine l3_sld dL_law_35 v0 ?_
      refine l3_bipush 63 dL_law_36 (by decide) ?_
      refine l3_iand dL_law_38 ?_
      refine l3_top (fun z ez => ?_)
      refine l3_table dL_law_39 1344 (by decide) (fun c => KK kc M hJ (by omega) hR0 hR1 Pal_M Pst_M) (fun ca cb => ?_)
      rcases (show z.toInt = 0 ∨ z.toInt = 1 ∨ z.toInt = 2 ∨ z.toInt = 3 ∨ z.toInt = 4 ∨ z.toInt = 5 ∨ z.toInt = 6 ∨ z.toInt = 7 ∨ z.toInt = 8 ∨ z.toInt = 9 ∨ z.toInt = 10 ∨ z.toInt = 11 ∨ z.toInt = 12 ∨ z.toInt = 13 ∨ z.toInt = 14 ∨ z.toInt = 15 ∨ z.toInt = 16 ∨ z.toInt = 17 ∨ z.toInt = 18 ∨ z.toInt = 19 ∨ z.toInt = 20 ∨ z.toInt = 21 ∨ z.toInt = 22 ∨ z.toInt = 23 ∨ z.toInt = 24 ∨ z.toInt = 25 ∨ z.toInt = 26 ∨ z.toInt = 27 ∨ z.toInt = 28 ∨ z.toInt = 29 ∨ z.toInt = 30 ∨ z.toInt = 31 ∨ z.toInt = 32 ∨ z.toInt = 33 ∨ z.toInt = 34 ∨ z.toInt = 35 ∨ z.toInt = 36 ∨ z.toInt = 37 ∨ z.toInt = 38 ∨ z.toInt = 39 by omega) with c | c | c | c | c | c | c | c | c | c | c | c | c | c | c | c | c | c | c | c | c | c | c | c | c | c | c | c | c | c | c | c | c | c | c | c | c | c | c | c
      · exact ⟨173, 212, by rw [c]; rfl, by decide, lc_0 htr (by omega) hJ v1 v2 v3 v4 hR0 hR1 Pal_M Pst_M KK⟩
      · exact ⟨198, 237, by rw [c]; rfl, by decide, lc_1 htr (by omega) hJ v1 v2 v3 v4 hR0 hR1 Pal_M Pst_M KK⟩
      · exact ⟨223, 262, by rw [c]; rfl, by decide, lc_2 htr (by omega) hJ v1 v2 v3 v4 hR0 hR1 Pal_M Pst_M KK⟩
      · exact ⟨236, 275, by rw [c]; rfl, by decide, lc_3 htr (by omega) hJ v1 v2 v3 v4 hR0 hR1 Pal_M Pst_M KK⟩
      · exact ⟨249, 288, by rw [c]; rfl, by decide, lc_4 htr (by omega) hJ v1 v2 v3 v4 hR0 hR1 Pal_M Pst_M KK⟩
      · exact ⟨262, 301, by rw [c]; rfl, by decide, lc_5 htr (by omega) hJ v1 v2 v3 v4 hR0 hR1 Pal_M Pst_M KK⟩
      · exact ⟨302, 341, by rw [c]; rfl, by decide, lc_6 htr (by omega) hJ v1 v2 v3 v4 hR0 hR1 Pal_M Pst_M KK⟩
      · exact ⟨342, 381, by rw [c]; rfl, by decide, lc_7 htr (by omega) hJ v1 v2 v3 v4 hR0 hR1 Pal_M Pst_M KK⟩
      · exact ⟨382, 421, by rw [c]; rfl, by decide, lc_8 htr (by omega) hJ v1 v2 v3 v4 hR0 hR1 Pal_M Pst_M KK⟩
      · exact ⟨419, 458, by rw [c]; rfl, by decide, lc_9 htr (by omega) hJ v1 v2 v3 v4 hR0 hR1 Pal_M Pst_M KK⟩
      · exact ⟨480, 519, by rw [c]; rfl, by decide, lc_10 htr (by omega) hJ v1 v2 v3 v4 hR0 hR1 Pal_M Pst_M KK⟩
      · exact ⟨517, 556, by rw [c]; rfl, by decide, lc_11 htr (by omega) hJ v1 v2 v3 v4 hR0 hR1 Pal_M Pst_M KK⟩
      · exact ⟨554, 593, by rw [c]; rfl, by decide, lc_12 htr (by omega) hJ v1 v2 v3 v4 hR0 hR1 Pal_M Pst_M KK⟩
      · exact ⟨603, 642, by rw [c]; rfl, by decide, lc_13 htr (by omega) hJ v1 v2 v3 v4 hR0 hR1 Pal_M Pst_M KK⟩
      · exact ⟨664, 703, by rw [c]; rfl, by decide, lc_14 htr (by omega) hJ v1 v2 v3 v4 hR0 hR1 Pal_M Pst_M KK⟩
      · exact ⟨689, 728, by rw [c]; rfl, by decide, lc_15 htr (by omega) hJ v1 v2 v3 v4 hR0 hR1 Pal_M Pst_M KK⟩
      · exact ⟨702, 741, by rw [c]; rfl, by decide, lc_16 htr (by omega) hJ v1 v2 v3 v4 hR0 hR1 Pal_M Pst_M KK⟩
      · exact ⟨715, 754, by rw [c]; rfl, by decide, lc_17 htr (by omega) hJ v1 v2 v3 v4 hR0 hR1 Pal_M Pst_M KK⟩
      · exact ⟨740, 779, by rw [c]; rfl, by decide, lc_18 htr (by omega) hJ v1 v2 v3 v4 hR0 hR1 Pal_M Pst_M KK⟩
      · exact ⟨765, 804, by rw [c]; rfl, by decide, lc_19 htr (by omega) hJ v1 v2 v3 v4 hR0 hR1 Pal_M Pst_M KK⟩
      · exact ⟨778, 817, by rw [c]; rfl, by decide, lc_20 htr (by omega) hJ v1 v2 v3 v4 hR0 hR1 Pal_M Pst_M KK⟩
      · exact ⟨803, 842, by rw [c]; rfl, by decide, lc_21 htr (by omega) hJ v1 v2 v3 v4 hR0 hR1 Pal_M Pst_M KK⟩
      · exact ⟨816, 855, by rw [c]; rfl, by decide, lc_22 htr (by omega) hJ v1 v2 v3 v4 hR0 hR1 Pal_M Pst_M KK⟩
      · exact ⟨865, 904, by rw [c]; rfl, by decide, lc_23 htr (by omega) hJ v1 v2 v3 v4 hR0 hR1 Pal_M Pst_M KK⟩
      · exact ⟨914, 953, by rw [c]; rfl, by decide, lc_24 htr (by omega) hJ v1 v2 v3 v4 hR0 hR1 Pal_M Pst_M KK⟩
      · exact ⟨963, 1002, by rw [c]; rfl, by decide, lc_25 htr (by omega) hJ v1 v2 v3 v4 hR0 hR1 Pal_M Pst_M KK⟩
      · exact ⟨1000, 1039, by rw [c]; rfl, by decide, lc_26 htr (by omega) hJ v1 v2 v3 v4 hR0 hR1 Pal_M Pst_M KK⟩
      · exact ⟨1013, 1052, by rw [c]; rfl, by decide, lc_27 htr (by omega) hJ v1 v2 v3 v4 hR0 hR1 Pal_M Pst_M KK⟩
      · exact ⟨1026, 1065, by rw [c]; rfl, by decide, lc_28 htr (by omega) hJ v1 v2 v3 v4 hR0 hR1 Pal_M Pst_M KK⟩
      · exact ⟨1039, 1078, by rw [c]; rfl, by decide, lc_29 htr (by omega) hJ v1 v2 v3 v4 hR0 hR1 Pal_M Pst_M KK⟩
      · exact ⟨1076, 1115, by rw [c]; rfl, by decide, lc_30 htr (by omega) hJ v1 v2 v3 v4 hR0 hR1 Pal_M Pst_M KK⟩
      · exact ⟨1089, 1128, by rw [c]; rfl, by decide, lc_31 htr (by omega) hJ v1 v2 v3 v4 hR0 hR1 Pal_M Pst_M KK⟩
      · exact ⟨1114, 1153, by rw [c]; rfl, by decide, lc_32 htr (by omega) hJ v1 v2 v3 v4 hR0 hR1 Pal_M Pst_M KK⟩
      · exact ⟨1127, 1166, by rw [c]; rfl, by decide, lc_33 htr (by omega) hJ v1 v2 v3 v4 hR0 hR1 Pal_M Pst_M KK⟩
      · exact ⟨1140, 1179, by rw [c]; rfl, by decide, lc_34 htr (by omega) hJ v1 v2 v3 v4 hR0 hR1 Pal_M Pst_M KK⟩
      · exact ⟨1165, 1204, by rw [c]; rfl, by decide, lc_35 htr (by omega) hJ v1 v2 v3 v4 hR0 hR1 Pal_M Pst_M KK⟩
      · exact ⟨1202, 1241, by rw [c]; rfl, by decide, lc_36 htr (by omega) hJ v1 v2 v3 v4 hR0 hR1 Pal_M Pst_M KK⟩
      · exact ⟨1227, 1266, by rw [c]; rfl, by decide, lc_37 htr (by omega) hJ v1 v2 v3 v4 hR0 hR1 Pal_M Pst_M KK⟩
      · exact ⟨1252, 1291, by rw [c]; rfl, by decide, lc_38 htr (by omega) hJ v1 v2 v3 v4 hR0 hR1 Pal_M Pst_M KK⟩
      · exact ⟨1277, 1316, by rw [c]; rfl, by decide, lc_39 htr (by omega) hJ v1 v2 v3 v4 hR0 hR1 Pal_M Pst_M KK⟩
