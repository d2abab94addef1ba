theorem w_25 : (Jvm.Cond.selects "ClockForTalk$WordOfMouth" ({ cls := "ClockForTalk$WordOfMouth", name := "linkCost", desc := "(III)I" } : Jvm.MethodName) ({ cls := "ClockForTalk$WordOfMouth", name := "linkCost", desc := "(III)I" } : Jvm.MethodName)) ∈ li_ws := li_mem 25 (by decide +kernel) (by decide +kernel)
theorem w_26 : (Jvm.Cond.selects "ClockForTalk$WordOfMouth" ({ cls := "ClockForTalk$WordOfMouth", name := "walk", desc := "(IIII)V" } : Jvm.MethodName) ({ cls := "ClockForTalk$WordOfMouth", name := "walk", desc := "(IIII)V" } : Jvm.MethodName)) ∈ li_ws := li_mem 26 (by decide +kernel) (by decide +kernel)
theorem w_27 : (Jvm.Cond.selects "ClockForTalk$WordOfMouth" ({ cls := "ClockForTalk$WordOfMouth", name := "widestHearers", desc := "(II)I" } : Jvm.MethodName) ({ cls := "ClockForTalk$WordOfMouth", name := "widestHearers", desc := "(II)I" } : Jvm.MethodName)) ∈ li_ws := li_mem 27 (by decide +kernel) (by decide +kernel)
theorem w_28 : (Jvm.Cond.selects "ClockForTalk$WordOfMouth" ({ cls := "ClockForTalk$WordOfMouth", name := "knowers", desc := "(II)I" } : Jvm.MethodName) ({ cls := "ClockForTalk$WordOfMouth", name := "knowers", desc := "(II)I" } : Jvm.MethodName)) ∈ li_ws := li_mem 28 (by decide +kernel) (by decide +kernel)
theorem w_110 : (Jvm.Cond.initialized "ClockForTalk$WordOfMouth") ∈ li_ws := li_mem 110 (by decide +kernel) (by decide +kernel)
theorem w_175 : (Jvm.Cond.fieldLink "ClockForTalk$WordOfMouth" (36 : Nat) "ClockForTalk$Town" "persons" "I") ∈ li_ws := li_mem 175 (by decide +kernel) (by decide +kernel)
theorem w_241 : (Jvm.Cond.fieldLink "ClockForTalk$WordOfMouth" (73 : Nat) "ClockForTalk$Ledger" "clocks" "[I") ∈ li_ws := li_mem 241 (by decide +kernel) (by decide +kernel)
theorem w_404 : (Jvm.Cond.fieldLink "ClockForTalk$WordOfMouth" (24 : Nat) "ClockForTalk$WordOfMouth" "town" "LClockForTalk$Town;") ∈ li_ws := li_mem 404 (by decide +kernel) (by decide +kernel)
theorem w_405 : (Jvm.Cond.fieldLink "ClockForTalk$WordOfMouth" (28 : Nat) "ClockForTalk$WordOfMouth" "ledger" "LClockForTalk$Ledger;") ∈ li_ws := li_mem 405 (by decide +kernel) (by decide +kernel)
theorem w_406 : (Jvm.Cond.fieldLink "ClockForTalk$WordOfMouth" (32 : Nat) "ClockForTalk$WordOfMouth" "costs" "LClockForTalk$Costs;") ∈ li_ws := li_mem 406 (by decide +kernel) (by decide +kernel)
theorem w_407 : (Jvm.Cond.fieldLink "ClockForTalk$WordOfMouth" (9 : Nat) "ClockForTalk$WordOfMouth" "links" "[I") ∈ li_ws := li_mem 407 (by decide +kernel) (by decide +kernel)
theorem w_408 : (Jvm.Cond.fieldLink "ClockForTalk$WordOfMouth" (15 : Nat) "ClockForTalk$WordOfMouth" "hears" "[I") ∈ li_ws := li_mem 408 (by decide +kernel) (by decide +kernel)
theorem w_409 : (Jvm.Cond.fieldLink "ClockForTalk$WordOfMouth" (18 : Nat) "ClockForTalk$WordOfMouth" "path" "[I") ∈ li_ws := li_mem 409 (by decide +kernel) (by decide +kernel)
theorem w_410 : (Jvm.Cond.fieldLink "ClockForTalk$WordOfMouth" (21 : Nat) "ClockForTalk$WordOfMouth" "bestPath" "[I") ∈ li_ws := li_mem 410 (by decide +kernel) (by decide +kernel)
theorem w_412 : (Jvm.Cond.fieldLink "ClockForTalk$WordOfMouth" (50 : Nat) "ClockForTalk$WordOfMouth" "bestLength" "I") ∈ li_ws := li_mem 412 (by decide +kernel) (by decide +kernel)
theorem w_414 : (Jvm.Cond.fieldLink "ClockForTalk$WordOfMouth" (53 : Nat) "ClockForTalk$WordOfMouth" "bestCost" "I") ∈ li_ws := li_mem 414 (by decide +kernel) (by decide +kernel)
theorem w_1065 : (Jvm.Cond.methodLink "ClockForTalk$WordOfMouth" (42 : Nat) ({ cls := "ClockForTalk$WordOfMouth", name := "linkCost", desc := "(III)I" } : Jvm.MethodName)) ∈ li_ws := li_mem 1065 (by decide +kernel) (by decide +kernel)
theorem w_1067 : (Jvm.Cond.instanceMethod ({ cls := "ClockForTalk$WordOfMouth", name := "linkCost", desc := "(III)I" } : Jvm.MethodName)) ∈ li_ws := li_mem 1067 (by decide +kernel) (by decide +kernel)
theorem w_1068 : (Jvm.Cond.code ({ cls := "ClockForTalk$WordOfMouth", name := "linkCost", desc := "(III)I" } : Jvm.MethodName) prog_10_method_3_code (6 : Nat) (Option.some Jvm.ClassFile.FieldType.int)) ∈ li_ws := li_mem 1068 (by decide +kernel) (by decide +kernel)
theorem w_1069 : (Jvm.Cond.methodLink "ClockForTalk$WordOfMouth" (60 : Nat) ({ cls := "ClockForTalk$Costs", name := "cheapestWay", desc := "(III)I" } : Jvm.MethodName)) ∈ li_ws := li_mem 1069 (by decide +kernel) (by decide +kernel)
theorem w_1070 : (Jvm.Cond.methodLink "ClockForTalk$WordOfMouth" (65 : Nat) ({ cls := "ClockForTalk$Town", name := "apart", desc := "(II)I" } : Jvm.MethodName)) ∈ li_ws := li_mem 1070 (by decide +kernel) (by decide +kernel)
theorem w_1071 : (Jvm.Cond.methodLink "ClockForTalk$WordOfMouth" (69 : Nat) ({ cls := "ClockForTalk$Costs", name := "ofWord", desc := "(IIII)I" } : Jvm.MethodName)) ∈ li_ws := li_mem 1071 (by decide +kernel) (by decide +kernel)
theorem w_1074 : (Jvm.Cond.methodLink "ClockForTalk$WordOfMouth" (56 : Nat) ({ cls := "ClockForTalk$WordOfMouth", name := "walk", desc := "(IIII)V" } : Jvm.MethodName)) ∈ li_ws := li_mem 1074 (by decide +kernel) (by decide +kernel)
theorem w_1076 : (Jvm.Cond.instanceMethod ({ cls := "ClockForTalk$WordOfMouth", name := "walk", desc := "(IIII)V" } : Jvm.MethodName)) ∈ li_ws := li_mem 1076 (by decide +kernel) (by decide +kernel)
theorem w_1077 : (Jvm.Cond.code ({ cls := "ClockForTalk$WordOfMouth", name := "walk", desc := "(IIII)V" } : Jvm.MethodName) prog_10_method_4_code (8 : Nat) (Option.none : Option Jvm.ClassFile.FieldType)) ∈ li_ws := li_mem 1077 (by decide +kernel) (by decide +kernel)
theorem w_1078 : (Jvm.Cond.methodLink "ClockForTalk$WordOfMouth" (82 : Nat) ({ cls := "java/lang/System", name := "arraycopy", desc := "(Ljava/lang/Object;ILjava/lang/Object;II)V" } : Jvm.MethodName)) ∈ li_ws := li_mem 1078 (by decide +kernel) (by decide +kernel)
theorem w_1094 : (Jvm.Cond.methodLink "ClockForTalk$WordOfMouth" (92 : Nat) ({ cls := "ClockForTalk$WordOfMouth", name := "widestHearers", desc := "(II)I" } : Jvm.MethodName)) ∈ li_ws := li_mem 1094 (by decide +kernel) (by decide +kernel)
theorem w_1096 : (Jvm.Cond.instanceMethod ({ cls := "ClockForTalk$WordOfMouth", name := "widestHearers", desc := "(II)I" } : Jvm.MethodName)) ∈ li_ws := li_mem 1096 (by decide +kernel) (by decide +kernel)
theorem w_1097 : (Jvm.Cond.code ({ cls := "ClockForTalk$WordOfMouth", name := "widestHearers", desc := "(II)I" } : Jvm.MethodName) prog_10_method_6_code (4 : Nat) (Option.some Jvm.ClassFile.FieldType.int)) ∈ li_ws := li_mem 1097 (by decide +kernel) (by decide +kernel)
theorem w_1098 : (Jvm.Cond.methodLink "ClockForTalk$WordOfMouth" (104 : Nat) ({ cls := "ClockForTalk$Costs", name := "hearers", desc := "(II)I" } : Jvm.MethodName)) ∈ li_ws := li_mem 1098 (by decide +kernel) (by decide +kernel)
theorem w_1099 : (Jvm.Cond.methodLink "ClockForTalk$WordOfMouth" (95 : Nat) ({ cls := "java/lang/Integer", name := "bitCount", desc := "(I)I" } : Jvm.MethodName)) ∈ li_ws := li_mem 1099 (by decide +kernel) (by decide +kernel)
theorem w_1100 : (Jvm.Cond.methodLink "ClockForTalk$WordOfMouth" (101 : Nat) ({ cls := "ClockForTalk$WordOfMouth", name := "knowers", desc := "(II)I" } : Jvm.MethodName)) ∈ li_ws := li_mem 1100 (by decide +kernel) (by decide +kernel)
theorem w_1102 : (Jvm.Cond.instanceMethod ({ cls := "ClockForTalk$WordOfMouth", name := "knowers", desc := "(II)I" } : Jvm.MethodName)) ∈ li_ws := li_mem 1102 (by decide +kernel) (by decide +kernel)
theorem w_1103 : (Jvm.Cond.code ({ cls := "ClockForTalk$WordOfMouth", name := "knowers", desc := "(II)I" } : Jvm.MethodName) prog_10_method_7_code (6 : Nat) (Option.some Jvm.ClassFile.FieldType.int)) ∈ li_ws := li_mem 1103 (by decide +kernel) (by decide +kernel)
theorem dX9_linkCost_0 : decode cX9_linkCost 0 = .ok (.aload_n 0, 1) := by decide +kernel
theorem dX9_linkCost_1 : decode cX9_linkCost 1 = .ok (.getfield 32, 3) := by decide +kernel
theorem dX9_linkCost_4 : decode cX9_linkCost 4 = .ok (.iload_n 1, 1) := by decide +kernel
theorem dX9_linkCost_5 : decode cX9_linkCost 5 = .ok (.iload_n 2, 1) := by decide +kernel
theorem dX9_linkCost_6 : decode cX9_linkCost 6 = .ok (.iload_n 3, 1) := by decide +kernel
theorem dX9_linkCost_7 : decode cX9_linkCost 7 = .ok (.invokevirtual 60, 3) := by decide +kernel
theorem dX9_linkCost_10 : decode cX9_linkCost 10 = .ok (.istore 4, 2) := by decide +kernel
theorem dX9_linkCost_12 : decode cX9_linkCost 12 = .ok (.aload_n 0, 1) := by decide +kernel
theorem dX9_linkCost_13 : decode cX9_linkCost 13 = .ok (.getfield 32, 3) := by decide +kernel
theorem dX9_linkCost_16 : decode cX9_linkCost 16 = .ok (.iload_n 1, 1) := by decide +kernel
theorem dX9_linkCost_17 : decode cX9_linkCost 17 = .ok (.iload_n 3, 1) := by decide +kernel
theorem dX9_linkCost_18 : decode cX9_linkCost 18 = .ok (.iload 4, 2) := by decide +kernel
theorem dX9_linkCost_20 : decode cX9_linkCost 20 = .ok (.aload_n 0, 1) := by decide +kernel
theorem dX9_linkCost_21 : decode cX9_linkCost 21 = .ok (.getfield 24, 3) := by decide +kernel
theorem dX9_linkCost_24 : decode cX9_linkCost 24 = .ok (.iload_n 1, 1) := by decide +kernel
theorem dX9_linkCost_25 : decode cX9_linkCost 25 = .ok (.iload_n 2, 1) := by decide +kernel
theorem dX9_linkCost_26 : decode cX9_linkCost 26 = .ok (.invokevirtual 65, 3) := by decide +kernel
theorem dX9_linkCost_29 : decode cX9_linkCost 29 = .ok (.invokevirtual 69, 3) := by decide +kernel
theorem dX9_linkCost_32 : decode cX9_linkCost 32 = .ok (.istore 5, 2) := by decide +kernel
theorem dX9_linkCost_34 : decode cX9_linkCost 34 = .ok (.iload 5, 2) := by decide +kernel
theorem dX9_linkCost_36 : decode cX9_linkCost 36 = .ok (.aload_n 0, 1) := by decide +kernel
theorem dX9_linkCost_37 : decode cX9_linkCost 37 = .ok (.getfield 28, 3) := by decide +kernel
theorem dX9_linkCost_40 : decode cX9_linkCost 40 = .ok (.getfield 73, 3) := by decide +kernel
theorem dX9_linkCost_43 : decode cX9_linkCost 43 = .ok (.iload_n 1, 1) := by decide +kernel
theorem dX9_linkCost_44 : decode cX9_linkCost 44 = .ok (.invokestatic 78, 3) := by decide +kernel
theorem dX9_linkCost_47 : decode cX9_linkCost 47 = .ok (.if_icmp .gt 8, 3) := by decide +kernel
theorem dX9_linkCost_50 : decode cX9_linkCost 50 = .ok (.iload 5, 2) := by decide +kernel
theorem dX9_linkCost_52 : decode cX9_linkCost 52 = .ok (.goto 4, 3) := by decide +kernel
theorem dX9_linkCost_55 : decode cX9_linkCost 55 = .ok (.iconst (-1), 1) := by decide +kernel
theorem dX9_linkCost_56 : decode cX9_linkCost 56 = .ok (.ireturn, 1) := by decide +kernel
abbrev YX9_linkCost : li_Y := (yX9_linkCost, cX9_linkCost, 6, (some .int))
theorem dX9_walk_0 : decode cX9_walk 0 = .ok (.aload_n 0, 1) := by decide +kernel
theorem dX9_walk_1 : decode cX9_walk 1 = .ok (.getfield 18, 3) := by decide +kernel
theorem dX9_walk_4 : decode cX9_walk 4 = .ok (.iload_n 2, 1) := by decide +kernel
theorem dX9_walk_5 : decode cX9_walk 5 = .ok (.iconst 1, 1) := by decide +kernel
theorem dX9_walk_6 : decode cX9_walk 6 = .ok (.isub, 1) := by decide +kernel
theorem dX9_walk_7 : decode cX9_walk 7 = .ok (.invokestatic 78, 3) := by decide +kernel
theorem dX9_walk_10 : decode cX9_walk 10 = .ok (.istore 5, 2) := by decide +kernel
theorem dX9_walk_12 : decode cX9_walk 12 = .ok (.iload 5, 2) := by decide +kernel
theorem dX9_walk_14 : decode cX9_walk 14 = .ok (.iload_n 1, 1) := by decide +kernel
theorem dX9_walk_15 : decode cX9_walk 15 = .ok (.if_icmp .ne 46, 3) := by decide +kernel
theorem dX9_walk_18 : decode cX9_walk 18 = .ok (.aload_n 0, 1) := by decide +kernel
theorem dX9_walk_19 : decode cX9_walk 19 = .ok (.getfield 50, 3) := by decide +kernel
theorem dX9_walk_22 : decode cX9_walk 22 = .ok (.ifCond .eq 12, 3) := by decide +kernel
theorem dX9_walk_25 : decode cX9_walk 25 = .ok (.iload 4, 2) := by decide +kernel
theorem dX9_walk_27 : decode cX9_walk 27 = .ok (.aload_n 0, 1) := by decide +kernel
theorem dX9_walk_28 : decode cX9_walk 28 = .ok (.getfield 53, 3) := by decide +kernel
theorem dX9_walk_31 : decode cX9_walk 31 = .ok (.if_icmp .ge 29, 3) := by decide +kernel
theorem dX9_walk_34 : decode cX9_walk 34 = .ok (.aload_n 0, 1) := by decide +kernel
theorem dX9_walk_35 : decode cX9_walk 35 = .ok (.iload_n 2, 1) := by decide +kernel
theorem dX9_walk_36 : decode cX9_walk 36 = .ok (.putfield 50, 3) := by decide +kernel
theorem dX9_walk_39 : decode cX9_walk 39 = .ok (.aload_n 0, 1) := by decide +kernel
theorem dX9_walk_40 : decode cX9_walk 40 = .ok (.iload 4, 2) := by decide +kernel
theorem dX9_walk_42 : decode cX9_walk 42 = .ok (.putfield 53, 3) := by decide +kernel
theorem dX9_walk_45 : decode cX9_walk 45 = .ok (.aload_n 0, 1) := by decide +kernel
theorem dX9_walk_46 : decode cX9_walk 46 = .ok (.getfield 18, 3) := by decide +kernel
theorem dX9_walk_49 : decode cX9_walk 49 = .ok (.iconst 0, 1) := by decide +kernel
theorem dX9_walk_50 : decode cX9_walk 50 = .ok (.aload_n 0, 1) := by decide +kernel
theorem dX9_walk_51 : decode cX9_walk 51 = .ok (.getfield 21, 3) := by decide +kernel
theorem dX9_walk_54 : decode cX9_walk 54 = .ok (.iconst 0, 1) := by decide +kernel
theorem dX9_walk_55 : decode cX9_walk 55 = .ok (.bipush 6, 2) := by decide +kernel
theorem dX9_walk_57 : decode cX9_walk 57 = .ok (.invokestatic 82, 3) := by decide +kernel
theorem dX9_walk_60 : decode cX9_walk 60 = .ok (.return_, 1) := by decide +kernel
theorem dX9_walk_61 : decode cX9_walk 61 = .ok (.iconst 0, 1) := by decide +kernel
theorem dX9_walk_62 : decode cX9_walk 62 = .ok (.istore 6, 2) := by decide +kernel
theorem dX9_walk_64 : decode cX9_walk 64 = .ok (.iload 6, 2) := by decide +kernel
theorem dX9_walk_66 : decode cX9_walk 66 = .ok (.aload_n 0, 1) := by decide +kernel
theorem dX9_walk_67 : decode cX9_walk 67 = .ok (.getfield 24, 3) := by decide +kernel
theorem dX9_walk_70 : decode cX9_walk 70 = .ok (.getfield 36, 3) := by decide +kernel
theorem dX9_walk_73 : decode cX9_walk 73 = .ok (.if_icmp .ge 75, 3) := by decide +kernel
theorem dX9_walk_76 : decode cX9_walk 76 = .ok (.iload_n 2, 1) := by decide +kernel
theorem dX9_walk_77 : decode cX9_walk 77 = .ok (.bipush 6, 2) := by decide +kernel
theorem dX9_walk_79 : decode cX9_walk 79 = .ok (.if_icmp .ge 69, 3) := by decide +kernel
theorem dX9_walk_82 : decode cX9_walk 82 = .ok (.aload_n 0, 1) := by decide +kernel
theorem dX9_walk_83 : decode cX9_walk 83 = .ok (.getfield 9, 3) := by decide +kernel
theorem dX9_walk_86 : decode cX9_walk 86 = .ok (.iload 5, 2) := by decide +kernel
theorem dX9_walk_88 : decode cX9_walk 88 = .ok (.bipush 6, 2) := by decide +kernel
theorem dX9_walk_90 : decode cX9_walk 90 = .ok (.imul, 1) := by decide +kernel
theorem dX9_walk_91 : decode cX9_walk 91 = .ok (.iload 6, 2) := by decide +kernel
theorem dX9_walk_93 : decode cX9_walk 93 = .ok (.iadd, 1) := by decide +kernel
theorem dX9_walk_94 : decode cX9_walk 94 = .ok (.invokestatic 78, 3) := by decide +kernel
theorem dX9_walk_97 : decode cX9_walk 97 = .ok (.istore 7, 2) := by decide +kernel
theorem dX9_walk_99 : decode cX9_walk 99 = .ok (.iload_n 3, 1) := by decide +kernel
theorem dX9_walk_100 : decode cX9_walk 100 = .ok (.iload 6, 2) := by decide +kernel
theorem dX9_walk_102 : decode cX9_walk 102 = .ok (.invokestatic 88, 3) := by decide +kernel
theorem dX9_walk_105 : decode cX9_walk 105 = .ok (.ifCond .ne 37, 3) := by decide +kernel
theorem dX9_walk_108 : decode cX9_walk 108 = .ok (.iload 7, 2) := by decide +kernel
theorem dX9_walk_110 : decode cX9_walk 110 = .ok (.ifCond .lt 32, 3) := by decide +kernel
theorem dX9_walk_113 : decode cX9_walk 113 = .ok (.aload_n 0, 1) := by decide +kernel
theorem dX9_walk_114 : decode cX9_walk 114 = .ok (.getfield 18, 3) := by decide +kernel
theorem dX9_walk_117 : decode cX9_walk 117 = .ok (.iload_n 2, 1) := by decide +kernel
theorem dX9_walk_118 : decode cX9_walk 118 = .ok (.iload 6, 2) := by decide +kernel
theorem dX9_walk_120 : decode cX9_walk 120 = .ok (.invokestatic 46, 3) := by decide +kernel
theorem dX9_walk_123 : decode cX9_walk 123 = .ok (.aload_n 0, 1) := by decide +kernel
theorem dX9_walk_124 : decode cX9_walk 124 = .ok (.iload_n 1, 1) := by decide +kernel
theorem dX9_walk_125 : decode cX9_walk 125 = .ok (.iload_n 2, 1) := by decide +kernel
theorem dX9_walk_126 : decode cX9_walk 126 = .ok (.iconst 1, 1) := by decide +kernel
theorem dX9_walk_127 : decode cX9_walk 127 = .ok (.iadd, 1) := by decide +kernel
theorem dX9_walk_128 : decode cX9_walk 128 = .ok (.iload_n 3, 1) := by decide +kernel
theorem dX9_walk_129 : decode cX9_walk 129 = .ok (.iconst 1, 1) := by decide +kernel
theorem dX9_walk_130 : decode cX9_walk 130 = .ok (.iload 6, 2) := by decide +kernel
theorem dX9_walk_132 : decode cX9_walk 132 = .ok (.ishl, 1) := by decide +kernel
theorem dX9_walk_133 : decode cX9_walk 133 = .ok (.ior, 1) := by decide +kernel
theorem dX9_walk_134 : decode cX9_walk 134 = .ok (.iload 4, 2) := by decide +kernel
theorem dX9_walk_136 : decode cX9_walk 136 = .ok (.iload 7, 2) := by decide +kernel
theorem dX9_walk_138 : decode cX9_walk 138 = .ok (.iadd, 1) := by decide +kernel
theorem dX9_walk_139 : decode cX9_walk 139 = .ok (.invokevirtual 56, 3) := by decide +kernel
theorem dX9_walk_142 : decode cX9_walk 142 = .ok (.iinc 6 1, 3) := by decide +kernel
theorem dX9_walk_145 : decode cX9_walk 145 = .ok (.goto (-81), 3) := by decide +kernel
theorem dX9_walk_148 : decode cX9_walk 148 = .ok (.return_, 1) := by decide +kernel
abbrev YX9_walk : li_Y := (yX9_walk, cX9_walk, 8, none)
theorem dX9_findChain_0 : decode cX9_findChain 0 = .ok (.iconst 0, 1) := by decide +kernel
theorem dX9_findChain_1 : decode cX9_findChain 1 = .ok (.istore 4, 2) := by decide +kernel
theorem dX9_findChain_3 : decode cX9_findChain 3 = .ok (.iload 4, 2) := by decide +kernel
theorem dX9_findChain_5 : decode cX9_findChain 5 = .ok (.aload_n 0, 1) := by decide +kernel
theorem dX9_findChain_6 : decode cX9_findChain 6 = .ok (.getfield 24, 3) := by decide +kernel
theorem dX9_findChain_9 : decode cX9_findChain 9 = .ok (.getfield 36, 3) := by decide +kernel
theorem dX9_findChain_12 : decode cX9_findChain 12 = .ok (.if_icmp .ge 65, 3) := by decide +kernel
theorem dX9_findChain_15 : decode cX9_findChain 15 = .ok (.iconst 0, 1) := by decide +kernel
theorem dX9_findChain_16 : decode cX9_findChain 16 = .ok (.istore 5, 2) := by decide +kernel
theorem dX9_findChain_18 : decode cX9_findChain 18 = .ok (.iload 5, 2) := by decide +kernel
theorem dX9_findChain_20 : decode cX9_findChain 20 = .ok (.aload_n 0, 1) := by decide +kernel
theorem dX9_findChain_21 : decode cX9_findChain 21 = .ok (.getfield 24, 3) := by decide +kernel
theorem dX9_findChain_24 : decode cX9_findChain 24 = .ok (.getfield 36, 3) := by decide +kernel
theorem dX9_findChain_27 : decode cX9_findChain 27 = .ok (.if_icmp .ge 44, 3) := by decide +kernel
theorem dX9_findChain_30 : decode cX9_findChain 30 = .ok (.aload_n 0, 1) := by decide +kernel
theorem dX9_findChain_31 : decode cX9_findChain 31 = .ok (.getfield 9, 3) := by decide +kernel
theorem dX9_findChain_34 : decode cX9_findChain 34 = .ok (.iload 4, 2) := by decide +kernel
theorem dX9_findChain_36 : decode cX9_findChain 36 = .ok (.bipush 6, 2) := by decide +kernel
theorem dX9_findChain_38 : decode cX9_findChain 38 = .ok (.imul, 1) := by decide +kernel
theorem dX9_findChain_39 : decode cX9_findChain 39 = .ok (.iload 5, 2) := by decide +kernel
theorem dX9_findChain_41 : decode cX9_findChain 41 = .ok (.iadd, 1) := by decide +kernel
theorem dX9_findChain_42 : decode cX9_findChain 42 = .ok (.iload 4, 2) := by decide +kernel
theorem dX9_findChain_44 : decode cX9_findChain 44 = .ok (.iload 5, 2) := by decide +kernel
theorem dX9_findChain_46 : decode cX9_findChain 46 = .ok (.if_icmp .ne 7, 3) := by decide +kernel
theorem dX9_findChain_49 : decode cX9_findChain 49 = .ok (.iconst (-1), 1) := by decide +kernel
theorem dX9_findChain_50 : decode cX9_findChain 50 = .ok (.goto 12, 3) := by decide +kernel
theorem dX9_findChain_53 : decode cX9_findChain 53 = .ok (.aload_n 0, 1) := by decide +kernel
theorem dX9_findChain_54 : decode cX9_findChain 54 = .ok (.iload 4, 2) := by decide +kernel
theorem dX9_findChain_56 : decode cX9_findChain 56 = .ok (.iload 5, 2) := by decide +kernel
theorem dX9_findChain_58 : decode cX9_findChain 58 = .ok (.iload_n 3, 1) := by decide +kernel
theorem dX9_findChain_59 : decode cX9_findChain 59 = .ok (.invokevirtual 42, 3) := by decide +kernel
theorem dX9_findChain_62 : decode cX9_findChain 62 = .ok (.invokestatic 46, 3) := by decide +kernel
theorem dX9_findChain_65 : decode cX9_findChain 65 = .ok (.iinc 5 1, 3) := by decide +kernel
theorem dX9_findChain_68 : decode cX9_findChain 68 = .ok (.goto (-50), 3) := by decide +kernel
theorem dX9_findChain_71 : decode cX9_findChain 71 = .ok (.iinc 4 1, 3) := by decide +kernel
theorem dX9_findChain_74 : decode cX9_findChain 74 = .ok (.goto (-71), 3) := by decide +kernel
theorem dX9_findChain_77 : decode cX9_findChain 77 = .ok (.aload_n 0, 1) := by decide +kernel
theorem dX9_findChain_78 : decode cX9_findChain 78 = .ok (.iconst 0, 1) := by decide +kernel
theorem dX9_findChain_79 : decode cX9_findChain 79 = .ok (.putfield 50, 3) := by decide +kernel
theorem dX9_findChain_82 : decode cX9_findChain 82 = .ok (.aload_n 0, 1) := by decide +kernel
theorem dX9_findChain_83 : decode cX9_findChain 83 = .ok (.iconst 0, 1) := by decide +kernel
theorem dX9_findChain_84 : decode cX9_findChain 84 = .ok (.putfield 53, 3) := by decide +kernel
theorem dX9_findChain_87 : decode cX9_findChain 87 = .ok (.aload_n 0, 1) := by decide +kernel
theorem dX9_findChain_88 : decode cX9_findChain 88 = .ok (.getfield 18, 3) := by decide +kernel
theorem dX9_findChain_91 : decode cX9_findChain 91 = .ok (.iconst 0, 1) := by decide +kernel
theorem dX9_findChain_92 : decode cX9_findChain 92 = .ok (.iload_n 1, 1) := by decide +kernel
theorem dX9_findChain_93 : decode cX9_findChain 93 = .ok (.invokestatic 46, 3) := by decide +kernel
theorem dX9_findChain_96 : decode cX9_findChain 96 = .ok (.aload_n 0, 1) := by decide +kernel
theorem dX9_findChain_97 : decode cX9_findChain 97 = .ok (.iload_n 2, 1) := by decide +kernel
theorem dX9_findChain_98 : decode cX9_findChain 98 = .ok (.iconst 1, 1) := by decide +kernel
theorem dX9_findChain_99 : decode cX9_findChain 99 = .ok (.iconst 1, 1) := by decide +kernel
theorem dX9_findChain_100 : decode cX9_findChain 100 = .ok (.iload_n 1, 1) := by decide +kernel
theorem dX9_findChain_101 : decode cX9_findChain 101 = .ok (.ishl, 1) := by decide +kernel
theorem dX9_findChain_102 : decode cX9_findChain 102 = .ok (.iconst 0, 1) := by decide +kernel
theorem dX9_findChain_103 : decode cX9_findChain 103 = .ok (.invokevirtual 56, 3) := by decide +kernel
theorem dX9_findChain_106 : decode cX9_findChain 106 = .ok (.return_, 1) := by decide +kernel
abbrev YX9_findChain : li_Y := (yX9_findChain, cX9_findChain, 6, none)
theorem dX9_widestHearers_0 : decode cX9_widestHearers 0 = .ok (.iconst 3, 1) := by decide +kernel
theorem dX9_widestHearers_1 : decode cX9_widestHearers 1 = .ok (.istore_n 3, 1) := by decide +kernel
theorem dX9_widestHearers_2 : decode cX9_widestHearers 2 = .ok (.iload_n 3, 1) := by decide +kernel
theorem dX9_widestHearers_3 : decode cX9_widestHearers 3 = .ok (.ifCond .lt 44, 3) := by decide +kernel
theorem dX9_widestHearers_6 : decode cX9_widestHearers 6 = .ok (.aload_n 0, 1) := by decide +kernel
theorem dX9_widestHearers_7 : decode cX9_widestHearers 7 = .ok (.getfield 32, 3) := by decide +kernel
theorem dX9_widestHearers_10 : decode cX9_widestHearers 10 = .ok (.iload_n 1, 1) := by decide +kernel
theorem dX9_widestHearers_11 : decode cX9_widestHearers 11 = .ok (.iload_n 2, 1) := by decide +kernel
theorem dX9_widestHearers_12 : decode cX9_widestHearers 12 = .ok (.iload_n 3, 1) := by decide +kernel
theorem dX9_widestHearers_13 : decode cX9_widestHearers 13 = .ok (.iconst 0, 1) := by decide +kernel
theorem dX9_widestHearers_14 : decode cX9_widestHearers 14 = .ok (.invokevirtual 69, 3) := by decide +kernel
theorem dX9_widestHearers_17 : decode cX9_widestHearers 17 = .ok (.aload_n 0, 1) := by decide +kernel
theorem dX9_widestHearers_18 : decode cX9_widestHearers 18 = .ok (.getfield 28, 3) := by decide +kernel
theorem dX9_widestHearers_21 : decode cX9_widestHearers 21 = .ok (.getfield 73, 3) := by decide +kernel
theorem dX9_widestHearers_24 : decode cX9_widestHearers 24 = .ok (.iload_n 1, 1) := by decide +kernel
theorem dX9_widestHearers_25 : decode cX9_widestHearers 25 = .ok (.invokestatic 78, 3) := by decide +kernel
theorem dX9_widestHearers_28 : decode cX9_widestHearers 28 = .ok (.if_icmp .gt 13, 3) := by decide +kernel
theorem dX9_widestHearers_31 : decode cX9_widestHearers 31 = .ok (.aload_n 0, 1) := by decide +kernel
theorem dX9_widestHearers_32 : decode cX9_widestHearers 32 = .ok (.getfield 32, 3) := by decide +kernel
theorem dX9_widestHearers_35 : decode cX9_widestHearers 35 = .ok (.iload_n 1, 1) := by decide +kernel
theorem dX9_widestHearers_36 : decode cX9_widestHearers 36 = .ok (.iload_n 3, 1) := by decide +kernel
theorem dX9_widestHearers_37 : decode cX9_widestHearers 37 = .ok (.invokevirtual 104, 3) := by decide +kernel
theorem dX9_widestHearers_40 : decode cX9_widestHearers 40 = .ok (.ireturn, 1) := by decide +kernel
theorem dX9_widestHearers_41 : decode cX9_widestHearers 41 = .ok (.iinc 3 (-1), 3) := by decide +kernel
theorem dX9_widestHearers_44 : decode cX9_widestHearers 44 = .ok (.goto (-42), 3) := by decide +kernel
theorem dX9_widestHearers_47 : decode cX9_widestHearers 47 = .ok (.iconst 0, 1) := by decide +kernel
theorem dX9_widestHearers_48 : decode cX9_widestHearers 48 = .ok (.ireturn, 1) := by decide +kernel
abbrev YX9_widestHearers : li_Y := (yX9_widestHearers, cX9_widestHearers, 4, (some .int))
theorem dX9_knowers_0 : decode cX9_knowers 0 = .ok (.iconst 1, 1) := by decide +kernel
theorem dX9_knowers_1 : decode cX9_knowers 1 = .ok (.iload_n 1, 1) := by decide +kernel
theorem dX9_knowers_2 : decode cX9_knowers 2 = .ok (.ishl, 1) := by decide +kernel
theorem dX9_knowers_3 : decode cX9_knowers 3 = .ok (.istore_n 3, 1) := by decide +kernel
theorem dX9_knowers_4 : decode cX9_knowers 4 = .ok (.iconst 0, 1) := by decide +kernel
theorem dX9_knowers_5 : decode cX9_knowers 5 = .ok (.istore 4, 2) := by decide +kernel
theorem dX9_knowers_7 : decode cX9_knowers 7 = .ok (.iload 4, 2) := by decide +kernel
theorem dX9_knowers_9 : decode cX9_knowers 9 = .ok (.aload_n 0, 1) := by decide +kernel
theorem dX9_knowers_10 : decode cX9_knowers 10 = .ok (.getfield 24, 3) := by decide +kernel
theorem dX9_knowers_13 : decode cX9_knowers 13 = .ok (.getfield 36, 3) := by decide +kernel
theorem dX9_knowers_16 : decode cX9_knowers 16 = .ok (.if_icmp .ge 53, 3) := by decide +kernel
theorem dX9_knowers_19 : decode cX9_knowers 19 = .ok (.iconst 0, 1) := by decide +kernel
theorem dX9_knowers_20 : decode cX9_knowers 20 = .ok (.istore 5, 2) := by decide +kernel
theorem dX9_knowers_22 : decode cX9_knowers 22 = .ok (.iload 5, 2) := by decide +kernel
theorem dX9_knowers_24 : decode cX9_knowers 24 = .ok (.aload_n 0, 1) := by decide +kernel
theorem dX9_knowers_25 : decode cX9_knowers 25 = .ok (.getfield 24, 3) := by decide +kernel
theorem dX9_knowers_28 : decode cX9_knowers 28 = .ok (.getfield 36, 3) := by decide +kernel
theorem dX9_knowers_31 : decode cX9_knowers 31 = .ok (.if_icmp .ge 32, 3) := by decide +kernel
theorem dX9_knowers_34 : decode cX9_knowers 34 = .ok (.iload_n 2, 1) := by decide +kernel
theorem dX9_knowers_35 : decode cX9_knowers 35 = .ok (.iload_n 3, 1) := by decide +kernel
theorem dX9_knowers_36 : decode cX9_knowers 36 = .ok (.iand, 1) := by decide +kernel
theorem dX9_knowers_37 : decode cX9_knowers 37 = .ok (.iload 5, 2) := by decide +kernel
theorem dX9_knowers_39 : decode cX9_knowers 39 = .ok (.invokestatic 88, 3) := by decide +kernel
theorem dX9_knowers_42 : decode cX9_knowers 42 = .ok (.ifCond .eq 15, 3) := by decide +kernel
theorem dX9_knowers_45 : decode cX9_knowers 45 = .ok (.iload_n 3, 1) := by decide +kernel
theorem dX9_knowers_46 : decode cX9_knowers 46 = .ok (.aload_n 0, 1) := by decide +kernel
theorem dX9_knowers_47 : decode cX9_knowers 47 = .ok (.getfield 15, 3) := by decide +kernel
theorem dX9_knowers_50 : decode cX9_knowers 50 = .ok (.iload 5, 2) := by decide +kernel
theorem dX9_knowers_52 : decode cX9_knowers 52 = .ok (.invokestatic 78, 3) := by decide +kernel
theorem dX9_knowers_55 : decode cX9_knowers 55 = .ok (.ior, 1) := by decide +kernel
theorem dX9_knowers_56 : decode cX9_knowers 56 = .ok (.istore_n 3, 1) := by decide +kernel
theorem dX9_knowers_57 : decode cX9_knowers 57 = .ok (.iinc 5 1, 3) := by decide +kernel
theorem dX9_knowers_60 : decode cX9_knowers 60 = .ok (.goto (-38), 3) := by decide +kernel
theorem dX9_knowers_63 : decode cX9_knowers 63 = .ok (.iinc 4 1, 3) := by decide +kernel
theorem dX9_knowers_66 : decode cX9_knowers 66 = .ok (.goto (-59), 3) := by decide +kernel
theorem dX9_knowers_69 : decode cX9_knowers 69 = .ok (.iload_n 3, 1) := by decide +kernel
theorem dX9_knowers_70 : decode cX9_knowers 70 = .ok (.ireturn, 1) := by decide +kernel
abbrev YX9_knowers : li_Y := (yX9_knowers, cX9_knowers, 6, (some .int))
theorem dX9_fewestCriers_0 : decode cX9_fewestCriers 0 = .ok (.iconst 0, 1) := by decide +kernel
theorem dX9_fewestCriers_1 : decode cX9_fewestCriers 1 = .ok (.istore 4, 2) := by decide +kernel
theorem dX9_fewestCriers_3 : decode cX9_fewestCriers 3 = .ok (.iload 4, 2) := by decide +kernel
theorem dX9_fewestCriers_5 : decode cX9_fewestCriers 5 = .ok (.aload_n 0, 1) := by decide +kernel
theorem dX9_fewestCriers_6 : decode cX9_fewestCriers 6 = .ok (.getfield 24, 3) := by decide +kernel
theorem dX9_fewestCriers_9 : decode cX9_fewestCriers 9 = .ok (.getfield 36, 3) := by decide +kernel
theorem dX9_fewestCriers_12 : decode cX9_fewestCriers 12 = .ok (.if_icmp .ge 25, 3) := by decide +kernel
theorem dX9_fewestCriers_15 : decode cX9_fewestCriers 15 = .ok (.aload_n 0, 1) := by decide +kernel
theorem dX9_fewestCriers_16 : decode cX9_fewestCriers 16 = .ok (.getfield 15, 3) := by decide +kernel
theorem dX9_fewestCriers_19 : decode cX9_fewestCriers 19 = .ok (.iload 4, 2) := by decide +kernel
theorem dX9_fewestCriers_21 : decode cX9_fewestCriers 21 = .ok (.aload_n 0, 1) := by decide +kernel
theorem dX9_fewestCriers_22 : decode cX9_fewestCriers 22 = .ok (.iload 4, 2) := by decide +kernel
theorem dX9_fewestCriers_24 : decode cX9_fewestCriers 24 = .ok (.iload_n 3, 1) := by decide +kernel
theorem dX9_fewestCriers_25 : decode cX9_fewestCriers 25 = .ok (.invokevirtual 92, 3) := by decide +kernel
theorem dX9_fewestCriers_28 : decode cX9_fewestCriers 28 = .ok (.invokestatic 46, 3) := by decide +kernel
theorem dX9_fewestCriers_31 : decode cX9_fewestCriers 31 = .ok (.iinc 4 1, 3) := by decide +kernel
theorem dX9_fewestCriers_34 : decode cX9_fewestCriers 34 = .ok (.goto (-31), 3) := by decide +kernel
theorem dX9_fewestCriers_37 : decode cX9_fewestCriers 37 = .ok (.iconst (-1), 1) := by decide +kernel
theorem dX9_fewestCriers_38 : decode cX9_fewestCriers 38 = .ok (.istore 4, 2) := by decide +kernel
theorem dX9_fewestCriers_40 : decode cX9_fewestCriers 40 = .ok (.iconst 0, 1) := by decide +kernel
theorem dX9_fewestCriers_41 : decode cX9_fewestCriers 41 = .ok (.istore 5, 2) := by decide +kernel
theorem dX9_fewestCriers_43 : decode cX9_fewestCriers 43 = .ok (.iload 5, 2) := by decide +kernel
theorem dX9_fewestCriers_45 : decode cX9_fewestCriers 45 = .ok (.iconst 1, 1) := by decide +kernel
theorem dX9_fewestCriers_46 : decode cX9_fewestCriers 46 = .ok (.aload_n 0, 1) := by decide +kernel
theorem dX9_fewestCriers_47 : decode cX9_fewestCriers 47 = .ok (.getfield 24, 3) := by decide +kernel
theorem dX9_fewestCriers_50 : decode cX9_fewestCriers 50 = .ok (.getfield 36, 3) := by decide +kernel
theorem dX9_fewestCriers_53 : decode cX9_fewestCriers 53 = .ok (.ishl, 1) := by decide +kernel
theorem dX9_fewestCriers_54 : decode cX9_fewestCriers 54 = .ok (.if_icmp .ge 57, 3) := by decide +kernel
theorem dX9_fewestCriers_57 : decode cX9_fewestCriers 57 = .ok (.iload 4, 2) := by decide +kernel
theorem dX9_fewestCriers_59 : decode cX9_fewestCriers 59 = .ok (.ifCond .lt 16, 3) := by decide +kernel
theorem dX9_fewestCriers_62 : decode cX9_fewestCriers 62 = .ok (.iload 5, 2) := by decide +kernel
theorem dX9_fewestCriers_64 : decode cX9_fewestCriers 64 = .ok (.invokestatic 95, 3) := by decide +kernel
theorem dX9_fewestCriers_67 : decode cX9_fewestCriers 67 = .ok (.iload 4, 2) := by decide +kernel
theorem dX9_fewestCriers_69 : decode cX9_fewestCriers 69 = .ok (.invokestatic 95, 3) := by decide +kernel
theorem dX9_fewestCriers_72 : decode cX9_fewestCriers 72 = .ok (.if_icmp .ge 7, 3) := by decide +kernel
theorem dX9_fewestCriers_75 : decode cX9_fewestCriers 75 = .ok (.iconst 1, 1) := by decide +kernel
theorem dX9_fewestCriers_76 : decode cX9_fewestCriers 76 = .ok (.goto 4, 3) := by decide +kernel
theorem dX9_fewestCriers_79 : decode cX9_fewestCriers 79 = .ok (.iconst 0, 1) := by decide +kernel
theorem dX9_fewestCriers_80 : decode cX9_fewestCriers 80 = .ok (.istore 6, 2) := by decide +kernel
theorem dX9_fewestCriers_82 : decode cX9_fewestCriers 82 = .ok (.iload 6, 2) := by decide +kernel
theorem dX9_fewestCriers_84 : decode cX9_fewestCriers 84 = .ok (.ifCond .eq 21, 3) := by decide +kernel
theorem dX9_fewestCriers_87 : decode cX9_fewestCriers 87 = .ok (.iload_n 2, 1) := by decide +kernel
theorem dX9_fewestCriers_88 : decode cX9_fewestCriers 88 = .ok (.aload_n 0, 1) := by decide +kernel
theorem dX9_fewestCriers_89 : decode cX9_fewestCriers 89 = .ok (.iload_n 1, 1) := by decide +kernel
theorem dX9_fewestCriers_90 : decode cX9_fewestCriers 90 = .ok (.iload 5, 2) := by decide +kernel
theorem dX9_fewestCriers_92 : decode cX9_fewestCriers 92 = .ok (.invokevirtual 101, 3) := by decide +kernel
theorem dX9_fewestCriers_95 : decode cX9_fewestCriers 95 = .ok (.iconst (-1), 1) := by decide +kernel
theorem dX9_fewestCriers_96 : decode cX9_fewestCriers 96 = .ok (.ixor, 1) := by decide +kernel
theorem dX9_fewestCriers_97 : decode cX9_fewestCriers 97 = .ok (.iand, 1) := by decide +kernel
theorem dX9_fewestCriers_98 : decode cX9_fewestCriers 98 = .ok (.ifCond .ne 7, 3) := by decide +kernel
theorem dX9_fewestCriers_101 : decode cX9_fewestCriers 101 = .ok (.iload 5, 2) := by decide +kernel
theorem dX9_fewestCriers_103 : decode cX9_fewestCriers 103 = .ok (.istore 4, 2) := by decide +kernel
theorem dX9_fewestCriers_105 : decode cX9_fewestCriers 105 = .ok (.iinc 5 1, 3) := by decide +kernel
theorem dX9_fewestCriers_108 : decode cX9_fewestCriers 108 = .ok (.goto (-65), 3) := by decide +kernel
theorem dX9_fewestCriers_111 : decode cX9_fewestCriers 111 = .ok (.iload 4, 2) := by decide +kernel
theorem dX9_fewestCriers_113 : decode cX9_fewestCriers 113 = .ok (.ireturn, 1) := by decide +kernel
abbrev YX9_fewestCriers : li_Y := (yX9_fewestCriers, cX9_fewestCriers, 7, (some .int))
set_option maxRecDepth 100000 in
set_option maxHeartbeats 4000000 in
theorem k_X9_linkCost {l : Launch} {Z : li_Z} (d : Nat) (hd : 6 ≤ d) (p1 : Int32) (p2 : Int32) (p3 : Int32) (M0 : li_M) : li_Met l Z YX9_linkCost d [.ref (Z.2.2 158), .int p1, .int p2, .int p3] M0 (li_SI (fun i => i = 146 ∨ i = 147) M0) := by
  refine li_enter (by decide +kernel) (Nat.le_of_ble_eq_true rfl) ?_
  show li_T l Z YX9_linkCost d 0 [(0, .ref (Z.2.2 158)), (1, .int p1), (2, .int p2), (3, .int p3)] [] M0 _
  have hf : li_fr (fun i => i = 146 ∨ i = 147) M0 M0 := li_fr_refl
  refine li_aload_n 0 dX9_linkCost_0 rfl ?_
  refine li_getr (k := 2) (N := 9) (T := TX9) (C0 := RX9) dX9_linkCost_1 (by decide) sh_158 rfl rfl (by decide) (by decide) li_in9 w_406 ?_
  refine li_iload_n 1 dX9_linkCost_4 rfl ?_
  refine li_iload_n 2 dX9_linkCost_5 rfl ?_
  refine li_iload_n 3 dX9_linkCost_6 rfl ?_
  refine li_callV (n := 3) (As := [.int p1, .int p2, .int p3]) dX9_linkCost_7 (k_X0_cheapestWay (d - 1) (by omega) cob_148 p1 p2 p3 M0) (by omega) (Nat.le_of_ble_eq_true rfl) w_1069 w_969 w_970 w_109 w_971 (by decide +kernel) rfl (by decide) sh_148 rfl rfl (Nat.le_of_ble_eq_true rfl) (fun r M2 h3 => ?_)
  obtain ⟨⟨x1, rfl⟩, h3⟩ := h3
  have hf := li_fr_trans hf h3 (fun i (h : i = 146 ∨ i = 147) => (show i = 146 ∨ i = 147 by omega))
  refine li_istore [(4, .int x1), (0, .ref (Z.2.2 158)), (1, .int p1), (2, .int p2), (3, .int p3)] dX9_linkCost_10 (by decide) rfl ?_
  refine li_aload_n 1 dX9_linkCost_12 rfl ?_
  refine li_getr (k := 2) (N := 9) (T := TX9) (C0 := RX9) dX9_linkCost_13 (by decide) sh_158 rfl rfl (by decide) (by decide) li_in9 w_406 ?_
  refine li_iload_n 2 dX9_linkCost_16 rfl ?_
  refine li_iload_n 4 dX9_linkCost_17 rfl ?_
  refine li_iload 0 dX9_linkCost_18 rfl ?_
  refine li_aload_n 1 dX9_linkCost_20 rfl ?_
  refine li_getr (k := 0) (N := 9) (T := TX9) (C0 := RX9) dX9_linkCost_21 (by decide) sh_158 rfl rfl (by decide) (by decide) li_in9 w_404 ?_
  refine li_iload_n 2 dX9_linkCost_24 rfl ?_
  refine li_iload_n 3 dX9_linkCost_25 rfl ?_
  refine li_callV (n := 2) (As := [.int p1, .int p2]) dX9_linkCost_26 (k_X8_apart (d - 1) (by omega) p1 p2 M2) (by omega) (Nat.le_of_ble_eq_true rfl) w_1070 w_798 w_799 w_104 w_800 (by decide +kernel) rfl (by decide) sh_5 rfl rfl (Nat.le_of_ble_eq_true rfl) (fun r M5 h6 => ?_)
  obtain ⟨⟨x4, rfl⟩, h6⟩ := h6
  have hf := li_fr_trans hf h6 (fun i h => False.elim h)
  refine li_callV (n := 4) (As := [.int p1, .int p3, .int x1, .int x4]) dX9_linkCost_29 (k_X0_ofWord (d - 1) (by omega) cob_148 p1 p3 x1 x4 M5) (by omega) (Nat.le_of_ble_eq_true rfl) w_1071 w_812 w_813 w_109 w_814 (by decide +kernel) rfl (by decide) sh_148 rfl rfl (Nat.le_of_ble_eq_true rfl) (fun r M8 h9 => ?_)
  obtain ⟨⟨x7, rfl⟩, h9⟩ := h9
  have hf := li_fr_trans hf h9 (fun i (h : i = 146 ∨ i = 147) => (show i = 146 ∨ i = 147 by omega))
  refine li_istore [(5, .int x7), (4, .int x1), (0, .ref (Z.2.2 158)), (1, .int p1), (2, .int p2), (3, .int p3)] dX9_linkCost_32 (by decide) rfl ?_
  refine li_iload 0 dX9_linkCost_34 rfl ?_
  refine li_aload_n 2 dX9_linkCost_36 rfl ?_
  refine li_getr (k := 1) (N := 9) (T := TX9) (C0 := RX9) dX9_linkCost_37 (by decide) sh_158 rfl rfl (by decide) (by decide) li_in9 w_405 ?_
  refine li_getr (k := 4) (N := 11) (T := TX4) (C0 := RX4) dX9_linkCost_40 (by decide) sh_13 rfl rfl (by decide) (by decide) li_in4 w_241 ?_
  refine li_iload_n 3 dX9_linkCost_43 rfl ?_
  refine li_callN (n := 2) (As := [.ref (Z.2.2 14), .int p1]) dX9_linkCost_44 (k_X11_at (d - 1) (by omega) (by decide) sh_14 (by decide) p1 M8) (by omega) (Nat.le_of_ble_eq_true rfl) nw_25 w_569 w_101 w_570 (by decide +kernel) rfl rfl (Nat.le_of_ble_eq_true rfl) (fun r M11 h12 => ?_)
  obtain ⟨⟨x10, rfl⟩, h12⟩ := h12
  have hf := li_fr_trans hf h12 (fun i h => False.elim h)
  refine li_icmp_gt 55 dX9_linkCost_47 (by decide) (fun c13 => ?_) (fun c13 => ?_)
  · refine li_iconst (-1) dX9_linkCost_55 (by decide) ?_
    exact li_iret dX9_linkCost_56 rfl rfl ⟨⟨_, rfl⟩, hf⟩
  · refine li_iload 0 dX9_linkCost_50 rfl ?_
    refine li_goto 56 dX9_linkCost_52 (by decide) ?_
    exact li_iret dX9_linkCost_56 rfl rfl ⟨⟨_, rfl⟩, hf⟩
set_option maxRecDepth 100000 in
set_option maxHeartbeats 4000000 in
theorem k_X9_walk {l : Launch} {Z : li_Z} (d : Nat) (hd : 2 ≤ d) (p1 p2 p3 p4 : Int32) (dE : Nat) (IH : p2.toInt < 6 → ∀ (q1 q2 q3 q4 : Int32), q2.toInt = p2.toInt + 1 → ∀ (M : li_M), li_Met l Z YX9_walk dE [.ref (Z.2.2 158), .int q1, .int q2, .int q3, .int q4] M (li_SV (fun i => i = 158 ∨ i = 161 ∨ i = 162) M)) (hE : dE + 1 ≤ d) (M0 : li_M) : li_Met l Z YX9_walk d [.ref (Z.2.2 158), .int p1, .int p2, .int p3, .int p4] M0 (li_SV (fun i => i = 158 ∨ i = 161 ∨ i = 162) M0) := by
  refine li_enter (by decide +kernel) (Nat.le_of_ble_eq_true rfl) ?_
  show li_T l Z YX9_walk d 0 [(0, .ref (Z.2.2 158)), (1, .int p1), (2, .int p2), (3, .int p3), (4, .int p4)] [] M0 _
  have hf : li_fr (fun i => i = 158 ∨ i = 161 ∨ i = 162) M0 M0 := li_fr_refl
  have gp1 := tl_rg p1
  have gp2 := tl_rg p2
  have gp3 := tl_rg p3
  have gp4 := tl_rg p4
  refine li_aload_n 0 dX9_walk_0 rfl ?_
  refine li_getr (k := 5) (N := 9) (T := TX9) (C0 := RX9) dX9_walk_1 (by decide) sh_158 rfl rfl (by decide) (by decide) li_in9 w_409 ?_
  refine li_iload_n 2 dX9_walk_4 rfl ?_
  refine li_iconst 1 dX9_walk_5 (by decide) ?_
  refine li_isub dX9_walk_6 ?_
  refine li_top (fun x1 ex1 => ?_)
  have tx1 : (-2147483648 ≤ p2.toInt - 1 ∧ p2.toInt - 1 ≤ 2147483647) → x1.toInt = p2.toInt - 1 := tl_sub ex1
  refine li_callN (n := 2) (As := [.ref (Z.2.2 161), .int x1]) dX9_walk_7 (k_X11_at (d - 1) (by omega) (by decide) sh_161 (by decide) x1 M0) (by omega) (Nat.le_of_ble_eq_true rfl) nw_25 w_569 w_101 w_570 (by decide +kernel) rfl rfl (Nat.le_of_ble_eq_true rfl) (fun r M3 h4 => ?_)
  obtain ⟨⟨x2, rfl⟩, h4⟩ := h4
  have gx2 := tl_rg x2
  have hf := li_fr_trans hf h4 (fun i h => False.elim h)
  refine li_istore [(5, .int x2), (0, .ref (Z.2.2 158)), (1, .int p1), (2, .int p2), (3, .int p3), (4, .int p4)] dX9_walk_10 (by decide) rfl ?_
  refine li_iload 0 dX9_walk_12 rfl ?_
  refine li_iload_n 2 dX9_walk_14 rfl ?_
  refine li_icmp_ne 61 dX9_walk_15 (by decide) (fun c5 => ?_) (fun c5 => ?_)
  · have tc5 : ¬ x2.toInt = p1.toInt := tl_ne c5
    refine li_iconst 0 dX9_walk_61 (by decide) ?_
    refine li_istore [(6, .int 0), (5, .int x2), (0, .ref (Z.2.2 158)), (1, .int p1), (2, .int p2), (3, .int p3), (4, .int p4)] dX9_walk_62 (by decide) rfl ?_
    have L64 : ∀ (n : Nat) (x6 : Int32) (M7 : li_M), (2147483647 - (x6 : Int32).toInt).toNat < n → li_fr (fun i => i = 158 ∨ i = 161 ∨ i = 162) M0 M7 → li_T l Z YX9_walk d 64 [(6, .int x6), (5, .int x2), (0, .ref (Z.2.2 158)), (1, .int p1), (2, .int p2), (3, .int p3), (4, .int p4)] [] M7 (li_SV (fun i => i = 158 ∨ i = 161 ∨ i = 162) M0) := by
      intro n
      induction n with
      | zero => intro x6 M7 hn; exact absurd hn (Nat.not_lt_zero _)
      | succ n ih64 =>
        intro x6 M7 hn hf
        have gx6 := tl_rg x6
        refine li_iload 0 dX9_walk_64 rfl ?_
        refine li_aload_n 2 dX9_walk_66 rfl ?_
        refine li_getr (k := 0) (N := 9) (T := TX9) (C0 := RX9) dX9_walk_67 (by decide) sh_158 rfl rfl (by decide) (by decide) li_in9 w_404 ?_
        refine li_geti (k := 0) (N := 9) (T := TX8) (C0 := RX8) dX9_walk_70 (by decide) sh_5 rfl rfl (by decide) li_in8 w_175 ?_
        refine li_top (fun x8 ex8 => ?_)
        have gx8 := tl_rg x8
        refine li_icmp_ge 148 dX9_walk_73 (by decide) (fun c9 => ?_) (fun c9 => ?_)
        · have tc9 : x8.toInt ≤ x6.toInt := tl_le c9
          exact li_vret dX9_walk_148 rfl ⟨rfl, hf⟩
        · have tc9 : x6.toInt < x8.toInt := tl_nle c9
          refine li_iload_n 4 dX9_walk_76 rfl ?_
          refine li_bipush 6 dX9_walk_77 (by decide) ?_
          refine li_icmp_ge 148 dX9_walk_79 (by decide) (fun c10 => ?_) (fun c10 => ?_)
          · have tc10 : 6 ≤ p2.toInt := tl_le c10
            exact li_vret dX9_walk_148 rfl ⟨rfl, hf⟩
          · have tc10 : p2.toInt < 6 := tl_nle c10
            refine li_aload_n 2 dX9_walk_82 rfl ?_
            refine li_getr (k := 3) (N := 9) (T := TX9) (C0 := RX9) dX9_walk_83 (by decide) sh_158 rfl rfl (by decide) (by decide) li_in9 w_407 ?_
            refine li_iload 1 dX9_walk_86 rfl ?_
            refine li_bipush 6 dX9_walk_88 (by decide) ?_
            refine li_imul dX9_walk_90 ?_
            refine li_top (fun x11 ex11 => ?_)
            have tx11 : (-2147483648 ≤ x2.toInt * 6 ∧ x2.toInt * 6 ≤ 2147483647) → x11.toInt = x2.toInt * 6 := tl_mul ex11
            refine li_iload 0 dX9_walk_91 rfl ?_
            refine li_iadd dX9_walk_93 ?_
            refine li_top (fun x12 ex12 => ?_)
            have tx12 : (-2147483648 ≤ x11.toInt + x6.toInt ∧ x11.toInt + x6.toInt ≤ 2147483647) → x12.toInt = x11.toInt + x6.toInt := tl_add ex12
            refine li_callN (n := 2) (As := [.ref (Z.2.2 159), .int x12]) dX9_walk_94 (k_X11_at (d - 1) (by omega) (by decide) sh_159 (by decide) x12 M7) (by omega) (Nat.le_of_ble_eq_true rfl) nw_25 w_569 w_101 w_570 (by decide +kernel) rfl rfl (Nat.le_of_ble_eq_true rfl) (fun r M14 h15 => ?_)
            obtain ⟨⟨x13, rfl⟩, h15⟩ := h15
            have gx13 := tl_rg x13
            have hf := li_fr_trans hf h15 (fun i h => False.elim h)
            refine li_istore [(7, .int x13), (6, .int x6), (5, .int x2), (0, .ref (Z.2.2 158)), (1, .int p1), (2, .int p2), (3, .int p3), (4, .int p4)] dX9_walk_97 (by decide) rfl ?_
            refine li_iload_n 6 dX9_walk_99 rfl ?_
            refine li_iload 1 dX9_walk_100 rfl ?_
            refine li_callN (n := 2) (As := [.int p3, .int x6]) dX9_walk_102 (k_X11_holds (d - 1) (by omega) p3 x6 M14) (by omega) (Nat.le_of_ble_eq_true rfl) nw_27 w_857 w_101 w_858 (by decide +kernel) rfl rfl (Nat.le_of_ble_eq_true rfl) (fun r M17 h18 => ?_)
            obtain ⟨⟨x16, rfl, bx16⟩, h18⟩ := h18
            have ux16 := tl_b bx16
            have hf := li_fr_trans hf h18 (fun i h => False.elim h)
            have J142 : ∀  (M20 : li_M), li_fr (fun i => i = 158 ∨ i = 161 ∨ i = 162) M0 M20 → li_T l Z YX9_walk d 142 [(7, .int x13), (6, .int x6), (5, .int x2), (0, .ref (Z.2.2 158)), (1, .int p1), (2, .int p2), (3, .int p3), (4, .int p4)] [] M20 (li_SV (fun i => i = 158 ∨ i = 161 ∨ i = 162) M0) := by
              intro  M20 hf
              obtain ⟨x21, ex21⟩ : ∃ y : Int32, y = x6 + 1 := ⟨_, rfl⟩
              have tx21 : (-2147483648 ≤ x6.toInt + 1 ∧ x6.toInt + 1 ≤ 2147483647) → x21.toInt = x6.toInt + 1 := tl_add ex21
              refine li_iinc 1 [(6, .int x21), (7, .int x13), (5, .int x2), (0, .ref (Z.2.2 158)), (1, .int p1), (2, .int p2), (3, .int p3), (4, .int p4)] x21 dX9_walk_142 rfl (by rw [ex21]; rfl) (by decide) rfl ?_
              refine li_goto 64 dX9_walk_145 (by decide) ?_
              refine li_pick [0, 2, 3, 4, 5, 6, 7] [(6, .int x21), (5, .int x2), (0, .ref (Z.2.2 158)), (1, .int p1), (2, .int p2), (3, .int p3), (4, .int p4)] rfl ?_
              exact ih64 x21 M20 (by have h9 := li_up (li_gt c9); rw [← ex21] at h9; omega) hf
            refine li_if_ne 142 dX9_walk_105 (by decide) (fun c19 => ?_) (fun c19 => ?_)
            · have tc19 : ¬ x16.toInt = 0 := tl_ne c19
              refine li_pick [0, 1, 2, 3, 4, 5, 6, 7] [(7, .int x13), (6, .int x6), (5, .int x2), (0, .ref (Z.2.2 158)), (1, .int p1), (2, .int p2), (3, .int p3), (4, .int p4)] rfl ?_
              exact J142  M17 hf
            · have tc19 : x16.toInt = 0 := tl_eq c19
              refine li_iload 0 dX9_walk_108 rfl ?_
              refine li_if_lt 142 dX9_walk_110 (by decide) (fun c22 => ?_) (fun c22 => ?_)
              · have tc22 : x13.toInt < 0 := tl_lt c22
                refine li_pick [0, 1, 2, 3, 4, 5, 6, 7] [(7, .int x13), (6, .int x6), (5, .int x2), (0, .ref (Z.2.2 158)), (1, .int p1), (2, .int p2), (3, .int p3), (4, .int p4)] rfl ?_
                exact J142  M17 hf
              · have tc22 : 0 ≤ x13.toInt := tl_nlt c22
                refine li_aload_n 3 dX9_walk_113 rfl ?_
                refine li_getr (k := 5) (N := 9) (T := TX9) (C0 := RX9) dX9_walk_114 (by decide) sh_158 rfl rfl (by decide) (by decide) li_in9 w_409 ?_
                refine li_iload_n 5 dX9_walk_117 rfl ?_
                refine li_iload 1 dX9_walk_118 rfl ?_
                refine li_callN (n := 3) (As := [.ref (Z.2.2 161), .int p2, .int x6]) dX9_walk_120 (k_X11_put (d - 1) (by omega) (by decide) sh_161 (by decide) p2 x6 M17) (by omega) (Nat.le_of_ble_eq_true rfl) nw_26 w_522 w_101 w_523 (by decide +kernel) rfl rfl (Nat.le_of_ble_eq_true rfl) (fun r M24 h25 => ?_)
                obtain ⟨rfl, h25⟩ := h25
                have hf := li_fr_trans hf h25 (fun i (h : i = 161) => (show i = 158 ∨ i = 161 ∨ i = 162 by omega))
                refine li_aload_n 3 dX9_walk_123 rfl ?_
                refine li_iload_n 4 dX9_walk_124 rfl ?_
                refine li_iload_n 5 dX9_walk_125 rfl ?_
                refine li_iconst 1 dX9_walk_126 (by decide) ?_
                refine li_iadd dX9_walk_127 ?_
                refine li_top (fun x26 ex26 => ?_)
                have tx26 : (-2147483648 ≤ p2.toInt + 1 ∧ p2.toInt + 1 ≤ 2147483647) → x26.toInt = p2.toInt + 1 := tl_add ex26
                refine li_iload_n 6 dX9_walk_128 rfl ?_
                refine li_iconst 1 dX9_walk_129 (by decide) ?_
                refine li_iload 1 dX9_walk_130 rfl ?_
                refine li_ishl dX9_walk_132 ?_
                refine li_top (fun x27 ex27 => ?_)
                refine li_ior dX9_walk_133 ?_
                refine li_top (fun x28 ex28 => ?_)
                refine li_iload 7 dX9_walk_134 rfl ?_
                refine li_iload 0 dX9_walk_136 rfl ?_
                refine li_iadd dX9_walk_138 ?_
                refine li_top (fun x29 ex29 => ?_)
                have tx29 : (-2147483648 ≤ p4.toInt + x13.toInt ∧ p4.toInt + x13.toInt ≤ 2147483647) → x29.toInt = p4.toInt + x13.toInt := tl_add ex29
                refine li_callV (n := 4) (As := [.int p1, .int x26, .int x28, .int x29]) dX9_walk_139 (IH (by omega) p1 x26 x28 x29 (by omega) M24) (by omega) (Nat.le_of_ble_eq_true rfl) w_1074 w_1076 w_26 w_110 w_1077 (by decide +kernel) rfl (by decide) sh_158 rfl rfl (Nat.le_of_ble_eq_true rfl) (fun r M31 h32 => ?_)
                obtain ⟨rfl, h32⟩ := h32
                have hf := li_fr_trans hf h32 (fun i (h : i = 158 ∨ i = 161 ∨ i = 162) => (show i = 158 ∨ i = 161 ∨ i = 162 by omega))
                refine li_pick [0, 1, 2, 3, 4, 5, 6, 7] [(7, .int x13), (6, .int x6), (5, .int x2), (0, .ref (Z.2.2 158)), (1, .int p1), (2, .int p2), (3, .int p3), (4, .int p4)] rfl ?_
                exact J142  M31 hf
    have z0 : (0 : Int32).toInt = 0 := rfl
    exact L64 _ 0 M3 (Nat.lt_succ_self _) hf
  · have tc5 : x2.toInt = p1.toInt := tl_eq c5
    refine li_aload_n 1 dX9_walk_18 rfl ?_
    refine li_geti (k := 7) (N := 9) (T := TX9) (C0 := RX9) dX9_walk_19 (by decide) sh_158 rfl rfl (by decide) li_in9 w_412 ?_
    refine li_top (fun x33 ex33 => ?_)
    have gx33 := tl_rg x33
    refine li_if_eq 34 dX9_walk_22 (by decide) (fun c34 => ?_) (fun c34 => ?_)
    · have tc34 : x33.toInt = 0 := tl_eq c34
      refine li_aload_n 1 dX9_walk_34 rfl ?_
      refine li_iload_n 3 dX9_walk_35 rfl ?_
      refine li_puti (k := 7) (N := 9) (T := TX9) (C0 := RX9) dX9_walk_36 (by decide) sh_158 rfl rfl (by decide) li_in9 tyX9_ok nmX9 rfl rfl rfl rfl w_412 ?_
      refine li_nm (fun M35 eM35 => ?_)
      have hf := li_fr_ui hf (show 158 = 158 ∨ 158 = 161 ∨ 158 = 162 by omega) eM35
      have k36 : M35.1 158 7 = p2 := by rw [eM35, li_ui_at, if_pos rfl, if_pos rfl]
      refine li_aload_n 1 dX9_walk_39 rfl ?_
      refine li_iload 5 dX9_walk_40 rfl ?_
      refine li_puti (k := 8) (N := 9) (T := TX9) (C0 := RX9) dX9_walk_42 (by decide) sh_158 rfl rfl (by decide) li_in9 tyX9_ok nmX9 rfl rfl rfl rfl w_414 ?_
      refine li_nm (fun M37 eM37 => ?_)
      have hf := li_fr_ui hf (show 158 = 158 ∨ 158 = 161 ∨ 158 = 162 by omega) eM37
      have k38 : M37.1 158 7 = p2 := by rw [eM37, li_ui_at, if_pos rfl, if_neg (by decide)]; exact k36
      have k39 : M37.1 158 8 = p4 := by rw [eM37, li_ui_at, if_pos rfl, if_pos rfl]
      refine li_aload_n 1 dX9_walk_45 rfl ?_
      refine li_getr (k := 5) (N := 9) (T := TX9) (C0 := RX9) dX9_walk_46 (by decide) sh_158 rfl rfl (by decide) (by decide) li_in9 w_409 ?_
      refine li_iconst 0 dX9_walk_49 (by decide) ?_
      refine li_aload_n 1 dX9_walk_50 rfl ?_
      refine li_getr (k := 6) (N := 9) (T := TX9) (C0 := RX9) dX9_walk_51 (by decide) sh_158 rfl rfl (by decide) (by decide) li_in9 w_410 ?_
      refine li_iconst 0 dX9_walk_54 (by decide) ?_
      refine li_bipush 6 dX9_walk_55 (by decide) ?_
      refine li_copyI dX9_walk_57 (by omega) w_1078 w_753 w_752 w_118 (by decide) sh_161 (by decide) sh_162 (by decide) (by decide) (by decide) (Nat.le_of_ble_eq_true rfl) ?_
      refine li_nm (fun M40 eM40 => ?_)
      have hf := li_fr_uc hf (show 162 = 158 ∨ 162 = 161 ∨ 162 = 162 by omega) eM40
      exact li_vret dX9_walk_60 rfl ⟨rfl, hf⟩
    · have tc34 : ¬ x33.toInt = 0 := tl_ne c34
      refine li_iload 5 dX9_walk_25 rfl ?_
      refine li_aload_n 1 dX9_walk_27 rfl ?_
      refine li_geti (k := 8) (N := 9) (T := TX9) (C0 := RX9) dX9_walk_28 (by decide) sh_158 rfl rfl (by decide) li_in9 w_414 ?_
      refine li_top (fun x41 ex41 => ?_)
      have gx41 := tl_rg x41
      refine li_icmp_ge 60 dX9_walk_31 (by decide) (fun c42 => ?_) (fun c42 => ?_)
      · have tc42 : x41.toInt ≤ p4.toInt := tl_le c42
        exact li_vret dX9_walk_60 rfl ⟨rfl, hf⟩
      · have tc42 : p4.toInt < x41.toInt := tl_nle c42
        refine li_aload_n 1 dX9_walk_34 rfl ?_
        refine li_iload_n 3 dX9_walk_35 rfl ?_
        refine li_puti (k := 7) (N := 9) (T := TX9) (C0 := RX9) dX9_walk_36 (by decide) sh_158 rfl rfl (by decide) li_in9 tyX9_ok nmX9 rfl rfl rfl rfl w_412 ?_
        refine li_nm (fun M43 eM43 => ?_)
        have hf := li_fr_ui hf (show 158 = 158 ∨ 158 = 161 ∨ 158 = 162 by omega) eM43
        have k44 : M43.1 158 8 = x41 := by rw [eM43, li_ui_at, if_pos rfl, if_neg (by decide)]; exact ex41.symm
        have k45 : M43.1 158 7 = p2 := by rw [eM43, li_ui_at, if_pos rfl, if_pos rfl]
        refine li_aload_n 1 dX9_walk_39 rfl ?_
        refine li_iload 5 dX9_walk_40 rfl ?_
        refine li_puti (k := 8) (N := 9) (T := TX9) (C0 := RX9) dX9_walk_42 (by decide) sh_158 rfl rfl (by decide) li_in9 tyX9_ok nmX9 rfl rfl rfl rfl w_414 ?_
        refine li_nm (fun M46 eM46 => ?_)
        have hf := li_fr_ui hf (show 158 = 158 ∨ 158 = 161 ∨ 158 = 162 by omega) eM46
        have k47 : M46.1 158 7 = p2 := by rw [eM46, li_ui_at, if_pos rfl, if_neg (by decide)]; exact k45
        have k48 : M46.1 158 8 = p4 := by rw [eM46, li_ui_at, if_pos rfl, if_pos rfl]
        refine li_aload_n 1 dX9_walk_45 rfl ?_
        refine li_getr (k := 5) (N := 9) (T := TX9) (C0 := RX9) dX9_walk_46 (by decide) sh_158 rfl rfl (by decide) (by decide) li_in9 w_409 ?_
        refine li_iconst 0 dX9_walk_49 (by decide) ?_
        refine li_aload_n 1 dX9_walk_50 rfl ?_
        refine li_getr (k := 6) (N := 9) (T := TX9) (C0 := RX9) dX9_walk_51 (by decide) sh_158 rfl rfl (by decide) (by decide) li_in9 w_410 ?_
        refine li_iconst 0 dX9_walk_54 (by decide) ?_
        refine li_bipush 6 dX9_walk_55 (by decide) ?_
        refine li_copyI dX9_walk_57 (by omega) w_1078 w_753 w_752 w_118 (by decide) sh_161 (by decide) sh_162 (by decide) (by decide) (by decide) (Nat.le_of_ble_eq_true rfl) ?_
        refine li_nm (fun M49 eM49 => ?_)
        have hf := li_fr_uc hf (show 162 = 158 ∨ 162 = 161 ∨ 162 = 162 by omega) eM49
        exact li_vret dX9_walk_60 rfl ⟨rfl, hf⟩
theorem kk_X9_walk {l : Launch} {Z : li_Z} : ∀ (n d : Nat) (p1 p2 p3 p4 : Int32) (M0 : li_M), (6 - p2.toInt).toNat ≤ n → n + 8 ≤ d → li_Met l Z YX9_walk d [.ref (Z.2.2 158), .int p1, .int p2, .int p3, .int p4] M0 (li_SV (fun i => i = 158 ∨ i = 161 ∨ i = 162) M0) := by
  intro n
  induction n with
  | zero =>
    intro d p1 p2 p3 p4 M0 h1 h2
    exact k_X9_walk d (by omega) p1 p2 p3 p4 0 (fun h => absurd h (by omega)) (by omega) M0
  | succ n ih =>
    intro d p1 p2 p3 p4 M0 h1 h2
    exact k_X9_walk d (by omega) p1 p2 p3 p4 (n + 8) (fun h q1 q2 q3 q4 hq M => ih (n + 8) q1 q2 q3 q4 M (by omega) (by omega)) (by omega) M0
set_option maxRecDepth 100000 in
set_option maxHeartbeats 4000000 in
theorem k_X9_findChain {l : Launch} {Z : li_Z} (d : Nat) (hd : 15 ≤ d) (p1 : Int32) (p2 : Int32) (p3 : Int32) (M0 : li_M) : li_Met l Z YX9_findChain d [.ref (Z.2.2 158), .int p1, .int p2, .int p3] M0 (li_SV (fun i => i = 146 ∨ i = 147 ∨ i = 158 ∨ i = 159 ∨ i = 161 ∨ i = 162) M0) := by
  refine li_enter (by decide +kernel) (Nat.le_of_ble_eq_true rfl) ?_
  show li_T l Z YX9_findChain d 0 [(0, .ref (Z.2.2 158)), (1, .int p1), (2, .int p2), (3, .int p3)] [] M0 _
  have hf : li_fr (fun i => i = 146 ∨ i = 147 ∨ i = 158 ∨ i = 159 ∨ i = 161 ∨ i = 162) M0 M0 := li_fr_refl
  refine li_iconst 0 dX9_findChain_0 (by decide) ?_
  refine li_istore [(4, .int 0), (0, .ref (Z.2.2 158)), (1, .int p1), (2, .int p2), (3, .int p3)] dX9_findChain_1 (by decide) rfl ?_
  have L3 : ∀ (n : Nat) (x1 : Int32) (M2 : li_M), (2147483647 - (x1 : Int32).toInt).toNat < n → li_fr (fun i => i = 146 ∨ i = 147 ∨ i = 158 ∨ i = 159 ∨ i = 161 ∨ i = 162) M0 M2 → li_T l Z YX9_findChain d 3 [(4, .int x1), (0, .ref (Z.2.2 158)), (1, .int p1), (2, .int p2), (3, .int p3)] [] M2 (li_SV (fun i => i = 146 ∨ i = 147 ∨ i = 158 ∨ i = 159 ∨ i = 161 ∨ i = 162) M0) := by
    intro n
    induction n with
    | zero => intro x1 M2 hn; exact absurd hn (Nat.not_lt_zero _)
    | succ n ih3 =>
      intro x1 M2 hn hf
      refine li_iload 0 dX9_findChain_3 rfl ?_
      refine li_aload_n 1 dX9_findChain_5 rfl ?_
      refine li_getr (k := 0) (N := 9) (T := TX9) (C0 := RX9) dX9_findChain_6 (by decide) sh_158 rfl rfl (by decide) (by decide) li_in9 w_404 ?_
      refine li_geti (k := 0) (N := 9) (T := TX8) (C0 := RX8) dX9_findChain_9 (by decide) sh_5 rfl rfl (by decide) li_in8 w_175 ?_
      refine li_top (fun x3 ex3 => ?_)
      refine li_icmp_ge 77 dX9_findChain_12 (by decide) (fun c4 => ?_) (fun c4 => ?_)
      · refine li_aload_n 1 dX9_findChain_77 rfl ?_
        refine li_iconst 0 dX9_findChain_78 (by decide) ?_
        refine li_puti (k := 7) (N := 9) (T := TX9) (C0 := RX9) dX9_findChain_79 (by decide) sh_158 rfl rfl (by decide) li_in9 tyX9_ok nmX9 rfl rfl rfl rfl w_412 ?_
        refine li_nm (fun M5 eM5 => ?_)
        have hf := li_fr_ui hf (show 158 = 146 ∨ 158 = 147 ∨ 158 = 158 ∨ 158 = 159 ∨ 158 = 161 ∨ 158 = 162 by omega) eM5
        refine li_aload_n 1 dX9_findChain_82 rfl ?_
        refine li_iconst 0 dX9_findChain_83 (by decide) ?_
        refine li_puti (k := 8) (N := 9) (T := TX9) (C0 := RX9) dX9_findChain_84 (by decide) sh_158 rfl rfl (by decide) li_in9 tyX9_ok nmX9 rfl rfl rfl rfl w_414 ?_
        refine li_nm (fun M6 eM6 => ?_)
        have hf := li_fr_ui hf (show 158 = 146 ∨ 158 = 147 ∨ 158 = 158 ∨ 158 = 159 ∨ 158 = 161 ∨ 158 = 162 by omega) eM6
        refine li_aload_n 1 dX9_findChain_87 rfl ?_
        refine li_getr (k := 5) (N := 9) (T := TX9) (C0 := RX9) dX9_findChain_88 (by decide) sh_158 rfl rfl (by decide) (by decide) li_in9 w_409 ?_
        refine li_iconst 0 dX9_findChain_91 (by decide) ?_
        refine li_iload_n 2 dX9_findChain_92 rfl ?_
        refine li_callN (n := 3) (As := [.ref (Z.2.2 161), .int 0, .int p1]) dX9_findChain_93 (k_X11_put (d - 1) (by omega) (by decide) sh_161 (by decide) 0 p1 M6) (by omega) (Nat.le_of_ble_eq_true rfl) nw_26 w_522 w_101 w_523 (by decide +kernel) rfl rfl (Nat.le_of_ble_eq_true rfl) (fun r M8 h9 => ?_)
        obtain ⟨rfl, h9⟩ := h9
        have hf := li_fr_trans hf h9 (fun i (h : i = 161) => (show i = 146 ∨ i = 147 ∨ i = 158 ∨ i = 159 ∨ i = 161 ∨ i = 162 by omega))
        refine li_aload_n 1 dX9_findChain_96 rfl ?_
        refine li_iload_n 3 dX9_findChain_97 rfl ?_
        refine li_iconst 1 dX9_findChain_98 (by decide) ?_
        refine li_iconst 1 dX9_findChain_99 (by decide) ?_
        refine li_iload_n 2 dX9_findChain_100 rfl ?_
        refine li_ishl dX9_findChain_101 ?_
        refine li_top (fun x10 ex10 => ?_)
        refine li_iconst 0 dX9_findChain_102 (by decide) ?_
        refine li_callV (n := 4) (As := [.int p2, .int 1, .int x10, .int 0]) dX9_findChain_103 (kk_X9_walk 6 (d - 1) p2 1 x10 0 M8 (by decide) (by omega)) (by omega) (Nat.le_of_ble_eq_true rfl) w_1074 w_1076 w_26 w_110 w_1077 (by decide +kernel) rfl (by decide) sh_158 rfl rfl (Nat.le_of_ble_eq_true rfl) (fun r M12 h13 => ?_)
        obtain ⟨rfl, h13⟩ := h13
        have hf := li_fr_trans hf h13 (fun i (h : i = 158 ∨ i = 161 ∨ i = 162) => (show i = 146 ∨ i = 147 ∨ i = 158 ∨ i = 159 ∨ i = 161 ∨ i = 162 by omega))
        exact li_vret dX9_findChain_106 rfl ⟨rfl, hf⟩
      · refine li_iconst 0 dX9_findChain_15 (by decide) ?_
        refine li_istore [(5, .int 0), (4, .int x1), (0, .ref (Z.2.2 158)), (1, .int p1), (2, .int p2), (3, .int p3)] dX9_findChain_16 (by decide) rfl ?_
        have L18 : ∀ (n : Nat) (x14 : Int32) (M15 : li_M), (2147483647 - (x14 : Int32).toInt).toNat < n → li_fr (fun i => i = 146 ∨ i = 147 ∨ i = 158 ∨ i = 159 ∨ i = 161 ∨ i = 162) M0 M15 → li_T l Z YX9_findChain d 18 [(5, .int x14), (4, .int x1), (0, .ref (Z.2.2 158)), (1, .int p1), (2, .int p2), (3, .int p3)] [] M15 (li_SV (fun i => i = 146 ∨ i = 147 ∨ i = 158 ∨ i = 159 ∨ i = 161 ∨ i = 162) M0) := by
          intro n
          induction n with
          | zero => intro x14 M15 hn; exact absurd hn (Nat.not_lt_zero _)
          | succ n ih18 =>
            intro x14 M15 hn hf
            refine li_iload 0 dX9_findChain_18 rfl ?_
            refine li_aload_n 2 dX9_findChain_20 rfl ?_
            refine li_getr (k := 0) (N := 9) (T := TX9) (C0 := RX9) dX9_findChain_21 (by decide) sh_158 rfl rfl (by decide) (by decide) li_in9 w_404 ?_
            refine li_geti (k := 0) (N := 9) (T := TX8) (C0 := RX8) dX9_findChain_24 (by decide) sh_5 rfl rfl (by decide) li_in8 w_175 ?_
            refine li_top (fun x16 ex16 => ?_)
            refine li_icmp_ge 71 dX9_findChain_27 (by decide) (fun c17 => ?_) (fun c17 => ?_)
            · obtain ⟨x18, ex18⟩ : ∃ y : Int32, y = x1 + 1 := ⟨_, rfl⟩
              refine li_iinc 1 [(4, .int x18), (5, .int x14), (0, .ref (Z.2.2 158)), (1, .int p1), (2, .int p2), (3, .int p3)] x18 dX9_findChain_71 rfl (by rw [ex18]; rfl) (by decide) rfl ?_
              refine li_goto 3 dX9_findChain_74 (by decide) ?_
              refine li_pick [0, 2, 3, 4, 5] [(4, .int x18), (0, .ref (Z.2.2 158)), (1, .int p1), (2, .int p2), (3, .int p3)] rfl ?_
              exact ih3 x18 M15 (by have h9 := li_up (li_gt c4); rw [← ex18] at h9; omega) hf
            · refine li_aload_n 2 dX9_findChain_30 rfl ?_
              refine li_getr (k := 3) (N := 9) (T := TX9) (C0 := RX9) dX9_findChain_31 (by decide) sh_158 rfl rfl (by decide) (by decide) li_in9 w_407 ?_
              refine li_iload 1 dX9_findChain_34 rfl ?_
              refine li_bipush 6 dX9_findChain_36 (by decide) ?_
              refine li_imul dX9_findChain_38 ?_
              refine li_top (fun x19 ex19 => ?_)
              refine li_iload 0 dX9_findChain_39 rfl ?_
              refine li_iadd dX9_findChain_41 ?_
              refine li_top (fun x20 ex20 => ?_)
              refine li_iload 1 dX9_findChain_42 rfl ?_
              refine li_iload 0 dX9_findChain_44 rfl ?_
              have J62 : ∀ (x22 : Int32) (M23 : li_M), li_fr (fun i => i = 146 ∨ i = 147 ∨ i = 158 ∨ i = 159 ∨ i = 161 ∨ i = 162) M0 M23 → li_T l Z YX9_findChain d 62 [(5, .int x14), (4, .int x1), (0, .ref (Z.2.2 158)), (1, .int p1), (2, .int p2), (3, .int p3)] [.int x22, .int x20, .ref (Z.2.2 159)] M23 (li_SV (fun i => i = 146 ∨ i = 147 ∨ i = 158 ∨ i = 159 ∨ i = 161 ∨ i = 162) M0) := by
                intro x22 M23 hf
                refine li_callN (n := 3) (As := [.ref (Z.2.2 159), .int x20, .int x22]) dX9_findChain_62 (k_X11_put (d - 1) (by omega) (by decide) sh_159 (by decide) x20 x22 M23) (by omega) (Nat.le_of_ble_eq_true rfl) nw_26 w_522 w_101 w_523 (by decide +kernel) rfl rfl (Nat.le_of_ble_eq_true rfl) (fun r M25 h26 => ?_)
                obtain ⟨rfl, h26⟩ := h26
                have hf := li_fr_trans hf h26 (fun i (h : i = 159) => (show i = 146 ∨ i = 147 ∨ i = 158 ∨ i = 159 ∨ i = 161 ∨ i = 162 by omega))
                obtain ⟨x27, ex27⟩ : ∃ y : Int32, y = x14 + 1 := ⟨_, rfl⟩
                refine li_iinc 0 [(5, .int x27), (4, .int x1), (0, .ref (Z.2.2 158)), (1, .int p1), (2, .int p2), (3, .int p3)] x27 dX9_findChain_65 rfl (by rw [ex27]; rfl) (by decide) rfl ?_
                refine li_goto 18 dX9_findChain_68 (by decide) ?_
                refine li_pick [0, 1, 2, 3, 4, 5] [(5, .int x27), (4, .int x1), (0, .ref (Z.2.2 158)), (1, .int p1), (2, .int p2), (3, .int p3)] rfl ?_
                exact ih18 x27 M25 (by have h9 := li_up (li_gt c17); rw [← ex27] at h9; omega) hf
              refine li_icmp_ne 53 dX9_findChain_46 (by decide) (fun c21 => ?_) (fun c21 => ?_)
              · refine li_aload_n 2 dX9_findChain_53 rfl ?_
                refine li_iload 1 dX9_findChain_54 rfl ?_
                refine li_iload 0 dX9_findChain_56 rfl ?_
                refine li_iload_n 5 dX9_findChain_58 rfl ?_
                refine li_callV (n := 3) (As := [.int x1, .int x14, .int p3]) dX9_findChain_59 (k_X9_linkCost (d - 1) (by omega) x1 x14 p3 M15) (by omega) (Nat.le_of_ble_eq_true rfl) w_1065 w_1067 w_25 w_110 w_1068 (by decide +kernel) rfl (by decide) sh_158 rfl rfl (Nat.le_of_ble_eq_true rfl) (fun r M29 h30 => ?_)
                obtain ⟨⟨x28, rfl⟩, h30⟩ := h30
                have hf := li_fr_trans hf h30 (fun i (h : i = 146 ∨ i = 147) => (show i = 146 ∨ i = 147 ∨ i = 158 ∨ i = 159 ∨ i = 161 ∨ i = 162 by omega))
                refine li_pick [0, 1, 2, 3, 4, 5] [(5, .int x14), (4, .int x1), (0, .ref (Z.2.2 158)), (1, .int p1), (2, .int p2), (3, .int p3)] rfl ?_
                exact J62 x28 M29 hf
              · refine li_iconst (-1) dX9_findChain_49 (by decide) ?_
                refine li_goto 62 dX9_findChain_50 (by decide) ?_
                refine li_pick [0, 1, 2, 3, 4, 5] [(5, .int x14), (4, .int x1), (0, .ref (Z.2.2 158)), (1, .int p1), (2, .int p2), (3, .int p3)] rfl ?_
                exact J62 (-1) M15 hf
        exact L18 _ 0 M2 (Nat.lt_succ_self _) hf
  exact L3 _ 0 M0 (Nat.lt_succ_self _) hf
set_option maxRecDepth 100000 in
set_option maxHeartbeats 4000000 in
theorem k_X9_widestHearers {l : Launch} {Z : li_Z} (d : Nat) (hd : 5 ≤ d) (p1 : Int32) (p2 : Int32) (M0 : li_M) : li_Met l Z YX9_widestHearers d [.ref (Z.2.2 158), .int p1, .int p2] M0 (li_SI (fun i => i = 146 ∨ i = 147) M0) := by
  refine li_enter (by decide +kernel) (Nat.le_of_ble_eq_true rfl) ?_
  show li_T l Z YX9_widestHearers d 0 [(0, .ref (Z.2.2 158)), (1, .int p1), (2, .int p2)] [] M0 _
  have hf : li_fr (fun i => i = 146 ∨ i = 147) M0 M0 := li_fr_refl
  refine li_iconst 3 dX9_widestHearers_0 (by decide) ?_
  refine li_istore_n [(3, .int 3), (0, .ref (Z.2.2 158)), (1, .int p1), (2, .int p2)] dX9_widestHearers_1 (by decide) rfl ?_
  have L2 : ∀ (n : Nat) (x1 : Int32) (M2 : li_M), ((x1 : Int32).toInt + 2147483648).toNat < n → li_fr (fun i => i = 146 ∨ i = 147) M0 M2 → li_T l Z YX9_widestHearers d 2 [(3, .int x1), (0, .ref (Z.2.2 158)), (1, .int p1), (2, .int p2)] [] M2 (li_SI (fun i => i = 146 ∨ i = 147) M0) := by
    intro n
    induction n with
    | zero => intro x1 M2 hn; exact absurd hn (Nat.not_lt_zero _)
    | succ n ih2 =>
      intro x1 M2 hn hf
      refine li_iload_n 0 dX9_widestHearers_2 rfl ?_
      refine li_if_lt 47 dX9_widestHearers_3 (by decide) (fun c3 => ?_) (fun c3 => ?_)
      · refine li_iconst 0 dX9_widestHearers_47 (by decide) ?_
        exact li_iret dX9_widestHearers_48 rfl rfl ⟨⟨_, rfl⟩, hf⟩
      · refine li_aload_n 1 dX9_widestHearers_6 rfl ?_
        refine li_getr (k := 2) (N := 9) (T := TX9) (C0 := RX9) dX9_widestHearers_7 (by decide) sh_158 rfl rfl (by decide) (by decide) li_in9 w_406 ?_
        refine li_iload_n 2 dX9_widestHearers_10 rfl ?_
        refine li_iload_n 3 dX9_widestHearers_11 rfl ?_
        refine li_iload_n 0 dX9_widestHearers_12 rfl ?_
        refine li_iconst 0 dX9_widestHearers_13 (by decide) ?_
        refine li_callV (n := 4) (As := [.int p1, .int p2, .int x1, .int 0]) dX9_widestHearers_14 (k_X0_ofWord (d - 1) (by omega) cob_148 p1 p2 x1 0 M2) (by omega) (Nat.le_of_ble_eq_true rfl) w_1071 w_812 w_813 w_109 w_814 (by decide +kernel) rfl (by decide) sh_148 rfl rfl (Nat.le_of_ble_eq_true rfl) (fun r M5 h6 => ?_)
        obtain ⟨⟨x4, rfl⟩, h6⟩ := h6
        have hf := li_fr_trans hf h6 (fun i (h : i = 146 ∨ i = 147) => (show i = 146 ∨ i = 147 by omega))
        refine li_aload_n 1 dX9_widestHearers_17 rfl ?_
        refine li_getr (k := 1) (N := 9) (T := TX9) (C0 := RX9) dX9_widestHearers_18 (by decide) sh_158 rfl rfl (by decide) (by decide) li_in9 w_405 ?_
        refine li_getr (k := 4) (N := 11) (T := TX4) (C0 := RX4) dX9_widestHearers_21 (by decide) sh_13 rfl rfl (by decide) (by decide) li_in4 w_241 ?_
        refine li_iload_n 2 dX9_widestHearers_24 rfl ?_
        refine li_callN (n := 2) (As := [.ref (Z.2.2 14), .int p1]) dX9_widestHearers_25 (k_X11_at (d - 1) (by omega) (by decide) sh_14 (by decide) p1 M5) (by omega) (Nat.le_of_ble_eq_true rfl) nw_25 w_569 w_101 w_570 (by decide +kernel) rfl rfl (Nat.le_of_ble_eq_true rfl) (fun r M8 h9 => ?_)
        obtain ⟨⟨x7, rfl⟩, h9⟩ := h9
        have hf := li_fr_trans hf h9 (fun i h => False.elim h)
        refine li_icmp_gt 41 dX9_widestHearers_28 (by decide) (fun c10 => ?_) (fun c10 => ?_)
        · obtain ⟨x11, ex11⟩ : ∃ y : Int32, y = x1 + (-1) := ⟨_, rfl⟩
          refine li_iinc 0 [(3, .int x11), (0, .ref (Z.2.2 158)), (1, .int p1), (2, .int p2)] x11 dX9_widestHearers_41 rfl (by rw [ex11]; rfl) (by decide) rfl ?_
          refine li_goto 2 dX9_widestHearers_44 (by decide) ?_
          refine li_pick [0, 1, 2, 3] [(3, .int x11), (0, .ref (Z.2.2 158)), (1, .int p1), (2, .int p2)] rfl ?_
          exact ih2 x11 M8 (by have h9 := li_dn1 c3; rw [← ex11] at h9; omega) hf
        · refine li_aload_n 1 dX9_widestHearers_31 rfl ?_
          refine li_getr (k := 2) (N := 9) (T := TX9) (C0 := RX9) dX9_widestHearers_32 (by decide) sh_158 rfl rfl (by decide) (by decide) li_in9 w_406 ?_
          refine li_iload_n 2 dX9_widestHearers_35 rfl ?_
          refine li_iload_n 0 dX9_widestHearers_36 rfl ?_
          refine li_callV (n := 2) (As := [.int p1, .int x1]) dX9_widestHearers_37 (k_X0_hearers (d - 1) (by omega) cob_148 p1 x1 M8) (by omega) (Nat.le_of_ble_eq_true rfl) w_1098 w_817 w_818 w_109 w_819 (by decide +kernel) rfl (by decide) sh_148 rfl rfl (Nat.le_of_ble_eq_true rfl) (fun r M13 h14 => ?_)
          obtain ⟨⟨x12, rfl⟩, h14⟩ := h14
          have hf := li_fr_trans hf h14 (fun i h => False.elim h)
          exact li_iret dX9_widestHearers_40 rfl rfl ⟨⟨_, rfl⟩, hf⟩
  exact L2 _ 3 M0 (Nat.lt_succ_self _) hf
set_option maxRecDepth 100000 in
set_option maxHeartbeats 4000000 in
theorem k_X9_knowers {l : Launch} {Z : li_Z} (d : Nat) (hd : 2 ≤ d) (p1 : Int32) (p2 : Int32) (M0 : li_M) : li_Met l Z YX9_knowers d [.ref (Z.2.2 158), .int p1, .int p2] M0 (li_SI (fun i => False) M0) := by
  refine li_enter (by decide +kernel) (Nat.le_of_ble_eq_true rfl) ?_
  show li_T l Z YX9_knowers d 0 [(0, .ref (Z.2.2 158)), (1, .int p1), (2, .int p2)] [] M0 _
  have hf : li_fr (fun i => False) M0 M0 := li_fr_refl
  refine li_iconst 1 dX9_knowers_0 (by decide) ?_
  refine li_iload_n 1 dX9_knowers_1 rfl ?_
  refine li_ishl dX9_knowers_2 ?_
  refine li_top (fun x1 ex1 => ?_)
  refine li_istore_n [(3, .int x1), (0, .ref (Z.2.2 158)), (1, .int p1), (2, .int p2)] dX9_knowers_3 (by decide) rfl ?_
  refine li_iconst 0 dX9_knowers_4 (by decide) ?_
  refine li_istore [(4, .int 0), (3, .int x1), (0, .ref (Z.2.2 158)), (1, .int p1), (2, .int p2)] dX9_knowers_5 (by decide) rfl ?_
  have L7 : ∀ (n : Nat) (x2 : Int32) (x3 : Int32) (M4 : li_M), (2147483647 - (x2 : Int32).toInt).toNat < n → li_fr (fun i => False) M0 M4 → li_T l Z YX9_knowers d 7 [(4, .int x2), (3, .int x3), (0, .ref (Z.2.2 158)), (1, .int p1), (2, .int p2)] [] M4 (li_SI (fun i => False) M0) := by
    intro n
    induction n with
    | zero => intro x2 x3 M4 hn; exact absurd hn (Nat.not_lt_zero _)
    | succ n ih7 =>
      intro x2 x3 M4 hn hf
      refine li_iload 0 dX9_knowers_7 rfl ?_
      refine li_aload_n 2 dX9_knowers_9 rfl ?_
      refine li_getr (k := 0) (N := 9) (T := TX9) (C0 := RX9) dX9_knowers_10 (by decide) sh_158 rfl rfl (by decide) (by decide) li_in9 w_404 ?_
      refine li_geti (k := 0) (N := 9) (T := TX8) (C0 := RX8) dX9_knowers_13 (by decide) sh_5 rfl rfl (by decide) li_in8 w_175 ?_
      refine li_top (fun x5 ex5 => ?_)
      refine li_icmp_ge 69 dX9_knowers_16 (by decide) (fun c6 => ?_) (fun c6 => ?_)
      · refine li_iload_n 1 dX9_knowers_69 rfl ?_
        exact li_iret dX9_knowers_70 rfl rfl ⟨⟨_, rfl⟩, hf⟩
      · refine li_iconst 0 dX9_knowers_19 (by decide) ?_
        refine li_istore [(5, .int 0), (4, .int x2), (3, .int x3), (0, .ref (Z.2.2 158)), (1, .int p1), (2, .int p2)] dX9_knowers_20 (by decide) rfl ?_
        have L22 : ∀ (n : Nat) (x7 : Int32) (x8 : Int32) (M9 : li_M), (2147483647 - (x7 : Int32).toInt).toNat < n → li_fr (fun i => False) M0 M9 → li_T l Z YX9_knowers d 22 [(5, .int x7), (4, .int x2), (3, .int x8), (0, .ref (Z.2.2 158)), (1, .int p1), (2, .int p2)] [] M9 (li_SI (fun i => False) M0) := by
          intro n
          induction n with
          | zero => intro x7 x8 M9 hn; exact absurd hn (Nat.not_lt_zero _)
          | succ n ih22 =>
            intro x7 x8 M9 hn hf
            refine li_iload 0 dX9_knowers_22 rfl ?_
            refine li_aload_n 3 dX9_knowers_24 rfl ?_
            refine li_getr (k := 0) (N := 9) (T := TX9) (C0 := RX9) dX9_knowers_25 (by decide) sh_158 rfl rfl (by decide) (by decide) li_in9 w_404 ?_
            refine li_geti (k := 0) (N := 9) (T := TX8) (C0 := RX8) dX9_knowers_28 (by decide) sh_5 rfl rfl (by decide) li_in8 w_175 ?_
            refine li_top (fun x10 ex10 => ?_)
            refine li_icmp_ge 63 dX9_knowers_31 (by decide) (fun c11 => ?_) (fun c11 => ?_)
            · obtain ⟨x12, ex12⟩ : ∃ y : Int32, y = x2 + 1 := ⟨_, rfl⟩
              refine li_iinc 1 [(4, .int x12), (5, .int x7), (3, .int x8), (0, .ref (Z.2.2 158)), (1, .int p1), (2, .int p2)] x12 dX9_knowers_63 rfl (by rw [ex12]; rfl) (by decide) rfl ?_
              refine li_goto 7 dX9_knowers_66 (by decide) ?_
              refine li_pick [0, 2, 3, 4, 5] [(4, .int x12), (3, .int x8), (0, .ref (Z.2.2 158)), (1, .int p1), (2, .int p2)] rfl ?_
              exact ih7 x12 x8 M9 (by have h9 := li_up (li_gt c6); rw [← ex12] at h9; omega) hf
            · refine li_iload_n 5 dX9_knowers_34 rfl ?_
              refine li_iload_n 2 dX9_knowers_35 rfl ?_
              refine li_iand dX9_knowers_36 ?_
              refine li_top (fun x13 ex13 => ?_)
              refine li_iload 0 dX9_knowers_37 rfl ?_
              refine li_callN (n := 2) (As := [.int x13, .int x7]) dX9_knowers_39 (k_X11_holds (d - 1) (by omega) x13 x7 M9) (by omega) (Nat.le_of_ble_eq_true rfl) nw_27 w_857 w_101 w_858 (by decide +kernel) rfl rfl (Nat.le_of_ble_eq_true rfl) (fun r M15 h16 => ?_)
              obtain ⟨⟨x14, rfl, bx14⟩, h16⟩ := h16
              have hf := li_fr_trans hf h16 (fun i h => False.elim h)
              have J57 : ∀ (x18 : Int32) (M19 : li_M), li_fr (fun i => False) M0 M19 → li_T l Z YX9_knowers d 57 [(5, .int x7), (4, .int x2), (3, .int x18), (0, .ref (Z.2.2 158)), (1, .int p1), (2, .int p2)] [] M19 (li_SI (fun i => False) M0) := by
                intro x18 M19 hf
                obtain ⟨x20, ex20⟩ : ∃ y : Int32, y = x7 + 1 := ⟨_, rfl⟩
                refine li_iinc 0 [(5, .int x20), (4, .int x2), (3, .int x18), (0, .ref (Z.2.2 158)), (1, .int p1), (2, .int p2)] x20 dX9_knowers_57 rfl (by rw [ex20]; rfl) (by decide) rfl ?_
                refine li_goto 22 dX9_knowers_60 (by decide) ?_
                refine li_pick [0, 1, 2, 3, 4, 5] [(5, .int x20), (4, .int x2), (3, .int x18), (0, .ref (Z.2.2 158)), (1, .int p1), (2, .int p2)] rfl ?_
                exact ih22 x20 x18 M19 (by have h9 := li_up (li_gt c11); rw [← ex20] at h9; omega) hf
              refine li_if_eq 57 dX9_knowers_42 (by decide) (fun c17 => ?_) (fun c17 => ?_)
              · refine li_pick [0, 1, 2, 3, 4, 5] [(5, .int x7), (4, .int x2), (3, .int x8), (0, .ref (Z.2.2 158)), (1, .int p1), (2, .int p2)] rfl ?_
                exact J57 x8 M15 hf
              · refine li_iload_n 2 dX9_knowers_45 rfl ?_
                refine li_aload_n 3 dX9_knowers_46 rfl ?_
                refine li_getr (k := 4) (N := 9) (T := TX9) (C0 := RX9) dX9_knowers_47 (by decide) sh_158 rfl rfl (by decide) (by decide) li_in9 w_408 ?_
                refine li_iload 0 dX9_knowers_50 rfl ?_
                refine li_callN (n := 2) (As := [.ref (Z.2.2 160), .int x7]) dX9_knowers_52 (k_X11_at (d - 1) (by omega) (by decide) sh_160 (by decide) x7 M15) (by omega) (Nat.le_of_ble_eq_true rfl) nw_25 w_569 w_101 w_570 (by decide +kernel) rfl rfl (Nat.le_of_ble_eq_true rfl) (fun r M22 h23 => ?_)
                obtain ⟨⟨x21, rfl⟩, h23⟩ := h23
                have hf := li_fr_trans hf h23 (fun i h => False.elim h)
                refine li_ior dX9_knowers_55 ?_
                refine li_top (fun x24 ex24 => ?_)
                refine li_istore_n [(3, .int x24), (5, .int x7), (4, .int x2), (0, .ref (Z.2.2 158)), (1, .int p1), (2, .int p2)] dX9_knowers_56 (by decide) rfl ?_
                refine li_pick [1, 2, 0, 3, 4, 5] [(5, .int x7), (4, .int x2), (3, .int x24), (0, .ref (Z.2.2 158)), (1, .int p1), (2, .int p2)] rfl ?_
                exact J57 x24 M22 hf
        exact L22 _ 0 x3 M4 (Nat.lt_succ_self _) hf
  exact L7 _ 0 x1 M0 (Nat.lt_succ_self _) hf
set_option maxRecDepth 100000 in
set_option maxHeartbeats 4000000 in
theorem k_X9_fewestCriers {l : Launch} {Z : li_Z} (d : Nat) (hd : 6 ≤ d) (p1 : Int32) (p2 : Int32) (p3 : Int32) (M0 : li_M) : li_Met l Z YX9_fewestCriers d [.ref (Z.2.2 158), .int p1, .int p2, .int p3] M0 (li_SI (fun i => i = 146 ∨ i = 147 ∨ i = 160) M0) := by
  refine li_enter (by decide +kernel) (Nat.le_of_ble_eq_true rfl) ?_
  show li_T l Z YX9_fewestCriers d 0 [(0, .ref (Z.2.2 158)), (1, .int p1), (2, .int p2), (3, .int p3)] [] M0 _
  have hf : li_fr (fun i => i = 146 ∨ i = 147 ∨ i = 160) M0 M0 := li_fr_refl
  refine li_iconst 0 dX9_fewestCriers_0 (by decide) ?_
  refine li_istore [(4, .int 0), (0, .ref (Z.2.2 158)), (1, .int p1), (2, .int p2), (3, .int p3)] dX9_fewestCriers_1 (by decide) rfl ?_
  have L3 : ∀ (n : Nat) (x1 : Int32) (M2 : li_M), (2147483647 - (x1 : Int32).toInt).toNat < n → li_fr (fun i => i = 146 ∨ i = 147 ∨ i = 160) M0 M2 → li_T l Z YX9_fewestCriers d 3 [(4, .int x1), (0, .ref (Z.2.2 158)), (1, .int p1), (2, .int p2), (3, .int p3)] [] M2 (li_SI (fun i => i = 146 ∨ i = 147 ∨ i = 160) M0) := by
    intro n
    induction n with
    | zero => intro x1 M2 hn; exact absurd hn (Nat.not_lt_zero _)
    | succ n ih3 =>
      intro x1 M2 hn hf
      refine li_iload 0 dX9_fewestCriers_3 rfl ?_
      refine li_aload_n 1 dX9_fewestCriers_5 rfl ?_
      refine li_getr (k := 0) (N := 9) (T := TX9) (C0 := RX9) dX9_fewestCriers_6 (by decide) sh_158 rfl rfl (by decide) (by decide) li_in9 w_404 ?_
      refine li_geti (k := 0) (N := 9) (T := TX8) (C0 := RX8) dX9_fewestCriers_9 (by decide) sh_5 rfl rfl (by decide) li_in8 w_175 ?_
      refine li_top (fun x3 ex3 => ?_)
      refine li_icmp_ge 37 dX9_fewestCriers_12 (by decide) (fun c4 => ?_) (fun c4 => ?_)
      · refine li_iconst (-1) dX9_fewestCriers_37 (by decide) ?_
        refine li_istore [(4, .int (-1)), (0, .ref (Z.2.2 158)), (1, .int p1), (2, .int p2), (3, .int p3)] dX9_fewestCriers_38 (by decide) rfl ?_
        refine li_iconst 0 dX9_fewestCriers_40 (by decide) ?_
        refine li_istore [(5, .int 0), (4, .int (-1)), (0, .ref (Z.2.2 158)), (1, .int p1), (2, .int p2), (3, .int p3)] dX9_fewestCriers_41 (by decide) rfl ?_
        have L43 : ∀ (n : Nat) (x5 : Int32) (x6 : Int32) (M7 : li_M), (2147483647 - (x5 : Int32).toInt).toNat < n → li_fr (fun i => i = 146 ∨ i = 147 ∨ i = 160) M0 M7 → li_T l Z YX9_fewestCriers d 43 [(5, .int x5), (4, .int x6), (0, .ref (Z.2.2 158)), (1, .int p1), (2, .int p2), (3, .int p3)] [] M7 (li_SI (fun i => i = 146 ∨ i = 147 ∨ i = 160) M0) := by
          intro n
          induction n with
          | zero => intro x5 x6 M7 hn; exact absurd hn (Nat.not_lt_zero _)
          | succ n ih43 =>
            intro x5 x6 M7 hn hf
            refine li_iload 0 dX9_fewestCriers_43 rfl ?_
            refine li_iconst 1 dX9_fewestCriers_45 (by decide) ?_
            refine li_aload_n 2 dX9_fewestCriers_46 rfl ?_
            refine li_getr (k := 0) (N := 9) (T := TX9) (C0 := RX9) dX9_fewestCriers_47 (by decide) sh_158 rfl rfl (by decide) (by decide) li_in9 w_404 ?_
            refine li_geti (k := 0) (N := 9) (T := TX8) (C0 := RX8) dX9_fewestCriers_50 (by decide) sh_5 rfl rfl (by decide) li_in8 w_175 ?_
            refine li_top (fun x8 ex8 => ?_)
            refine li_ishl dX9_fewestCriers_53 ?_
            refine li_top (fun x9 ex9 => ?_)
            refine li_icmp_ge 111 dX9_fewestCriers_54 (by decide) (fun c10 => ?_) (fun c10 => ?_)
            · refine li_iload 1 dX9_fewestCriers_111 rfl ?_
              exact li_iret dX9_fewestCriers_113 rfl rfl ⟨⟨_, rfl⟩, hf⟩
            · refine li_iload 1 dX9_fewestCriers_57 rfl ?_
              have J80 : ∀ (x12 : Int32) (M13 : li_M), li_fr (fun i => i = 146 ∨ i = 147 ∨ i = 160) M0 M13 → li_T l Z YX9_fewestCriers d 80 [(5, .int x5), (4, .int x6), (0, .ref (Z.2.2 158)), (1, .int p1), (2, .int p2), (3, .int p3)] [.int x12] M13 (li_SI (fun i => i = 146 ∨ i = 147 ∨ i = 160) M0) := by
                intro x12 M13 hf
                refine li_istore [(6, .int x12), (5, .int x5), (4, .int x6), (0, .ref (Z.2.2 158)), (1, .int p1), (2, .int p2), (3, .int p3)] dX9_fewestCriers_80 (by decide) rfl ?_
                refine li_iload 0 dX9_fewestCriers_82 rfl ?_
                have J105 : ∀ (x15 : Int32) (M16 : li_M), li_fr (fun i => i = 146 ∨ i = 147 ∨ i = 160) M0 M16 → li_T l Z YX9_fewestCriers d 105 [(6, .int x12), (5, .int x5), (4, .int x15), (0, .ref (Z.2.2 158)), (1, .int p1), (2, .int p2), (3, .int p3)] [] M16 (li_SI (fun i => i = 146 ∨ i = 147 ∨ i = 160) M0) := by
                  intro x15 M16 hf
                  obtain ⟨x17, ex17⟩ : ∃ y : Int32, y = x5 + 1 := ⟨_, rfl⟩
                  refine li_iinc 1 [(5, .int x17), (6, .int x12), (4, .int x15), (0, .ref (Z.2.2 158)), (1, .int p1), (2, .int p2), (3, .int p3)] x17 dX9_fewestCriers_105 rfl (by rw [ex17]; rfl) (by decide) rfl ?_
                  refine li_goto 43 dX9_fewestCriers_108 (by decide) ?_
                  refine li_pick [0, 2, 3, 4, 5, 6] [(5, .int x17), (4, .int x15), (0, .ref (Z.2.2 158)), (1, .int p1), (2, .int p2), (3, .int p3)] rfl ?_
                  exact ih43 x17 x15 M16 (by have h9 := li_up (li_gt c10); rw [← ex17] at h9; omega) hf
                refine li_if_eq 105 dX9_fewestCriers_84 (by decide) (fun c14 => ?_) (fun c14 => ?_)
                · refine li_pick [0, 1, 2, 3, 4, 5, 6] [(6, .int x12), (5, .int x5), (4, .int x6), (0, .ref (Z.2.2 158)), (1, .int p1), (2, .int p2), (3, .int p3)] rfl ?_
                  exact J105 x6 M13 hf
                · refine li_iload_n 5 dX9_fewestCriers_87 rfl ?_
                  refine li_aload_n 3 dX9_fewestCriers_88 rfl ?_
                  refine li_iload_n 4 dX9_fewestCriers_89 rfl ?_
                  refine li_iload 1 dX9_fewestCriers_90 rfl ?_
                  refine li_callV (n := 2) (As := [.int p1, .int x5]) dX9_fewestCriers_92 (k_X9_knowers (d - 1) (by omega) p1 x5 M13) (by omega) (Nat.le_of_ble_eq_true rfl) w_1100 w_1102 w_28 w_110 w_1103 (by decide +kernel) rfl (by decide) sh_158 rfl rfl (Nat.le_of_ble_eq_true rfl) (fun r M19 h20 => ?_)
                  obtain ⟨⟨x18, rfl⟩, h20⟩ := h20
                  have hf := li_fr_trans hf h20 (fun i h => False.elim h)
                  refine li_iconst (-1) dX9_fewestCriers_95 (by decide) ?_
                  refine li_ixor dX9_fewestCriers_96 ?_
                  refine li_top (fun x21 ex21 => ?_)
                  refine li_iand dX9_fewestCriers_97 ?_
                  refine li_top (fun x22 ex22 => ?_)
                  refine li_if_ne 105 dX9_fewestCriers_98 (by decide) (fun c23 => ?_) (fun c23 => ?_)
                  · refine li_pick [0, 1, 2, 3, 4, 5, 6] [(6, .int x12), (5, .int x5), (4, .int x6), (0, .ref (Z.2.2 158)), (1, .int p1), (2, .int p2), (3, .int p3)] rfl ?_
                    exact J105 x6 M19 hf
                  · refine li_iload 1 dX9_fewestCriers_101 rfl ?_
                    refine li_istore [(4, .int x5), (6, .int x12), (5, .int x5), (0, .ref (Z.2.2 158)), (1, .int p1), (2, .int p2), (3, .int p3)] dX9_fewestCriers_103 (by decide) rfl ?_
                    refine li_pick [1, 2, 0, 3, 4, 5, 6] [(6, .int x12), (5, .int x5), (4, .int x5), (0, .ref (Z.2.2 158)), (1, .int p1), (2, .int p2), (3, .int p3)] rfl ?_
                    exact J105 x5 M19 hf
              refine li_if_lt 75 dX9_fewestCriers_59 (by decide) (fun c11 => ?_) (fun c11 => ?_)
              · refine li_iconst 1 dX9_fewestCriers_75 (by decide) ?_
                refine li_goto 80 dX9_fewestCriers_76 (by decide) ?_
                refine li_pick [0, 1, 2, 3, 4, 5] [(5, .int x5), (4, .int x6), (0, .ref (Z.2.2 158)), (1, .int p1), (2, .int p2), (3, .int p3)] rfl ?_
                exact J80 1 M7 hf
              · refine li_iload 0 dX9_fewestCriers_62 rfl ?_
                refine li_callS (n := 1) (As := [.int x5]) dX9_fewestCriers_64 (k_J6_bitCount_0f7a4 (d - 1) (by omega) x5 M7) (by omega) (Nat.le_of_ble_eq_true rfl) w_1099 w_822 w_123 w_823 (by decide +kernel) rfl rfl (Nat.le_of_ble_eq_true rfl) (fun r M25 h26 => ?_)
                obtain ⟨⟨x24, rfl⟩, h26⟩ := h26
                have hf := li_fr_trans hf h26 (fun i h => False.elim h)
                refine li_iload 1 dX9_fewestCriers_67 rfl ?_
                refine li_callS (n := 1) (As := [.int x6]) dX9_fewestCriers_69 (k_J6_bitCount_0f7a4 (d - 1) (by omega) x6 M25) (by omega) (Nat.le_of_ble_eq_true rfl) w_1099 w_822 w_123 w_823 (by decide +kernel) rfl rfl (Nat.le_of_ble_eq_true rfl) (fun r M28 h29 => ?_)
                obtain ⟨⟨x27, rfl⟩, h29⟩ := h29
                have hf := li_fr_trans hf h29 (fun i h => False.elim h)
                refine li_icmp_ge 79 dX9_fewestCriers_72 (by decide) (fun c30 => ?_) (fun c30 => ?_)
                · refine li_iconst 0 dX9_fewestCriers_79 (by decide) ?_
                  refine li_pick [0, 1, 2, 3, 4, 5] [(5, .int x5), (4, .int x6), (0, .ref (Z.2.2 158)), (1, .int p1), (2, .int p2), (3, .int p3)] rfl ?_
                  exact J80 0 M28 hf
                · refine li_iconst 1 dX9_fewestCriers_75 (by decide) ?_
                  refine li_goto 80 dX9_fewestCriers_76 (by decide) ?_
                  refine li_pick [0, 1, 2, 3, 4, 5] [(5, .int x5), (4, .int x6), (0, .ref (Z.2.2 158)), (1, .int p1), (2, .int p2), (3, .int p3)] rfl ?_
                  exact J80 1 M28 hf
        exact L43 _ 0 (-1) M2 (Nat.lt_succ_self _) hf
      · refine li_aload_n 1 dX9_fewestCriers_15 rfl ?_
        refine li_getr (k := 4) (N := 9) (T := TX9) (C0 := RX9) dX9_fewestCriers_16 (by decide) sh_158 rfl rfl (by decide) (by decide) li_in9 w_408 ?_
        refine li_iload 0 dX9_fewestCriers_19 rfl ?_
        refine li_aload_n 1 dX9_fewestCriers_21 rfl ?_
        refine li_iload 0 dX9_fewestCriers_22 rfl ?_
        refine li_iload_n 4 dX9_fewestCriers_24 rfl ?_
        refine li_callV (n := 2) (As := [.int x1, .int p3]) dX9_fewestCriers_25 (k_X9_widestHearers (d - 1) (by omega) x1 p3 M2) (by omega) (Nat.le_of_ble_eq_true rfl) w_1094 w_1096 w_27 w_110 w_1097 (by decide +kernel) rfl (by decide) sh_158 rfl rfl (Nat.le_of_ble_eq_true rfl) (fun r M32 h33 => ?_)
        obtain ⟨⟨x31, rfl⟩, h33⟩ := h33
        have hf := li_fr_trans hf h33 (fun i (h : i = 146 ∨ i = 147) => (show i = 146 ∨ i = 147 ∨ i = 160 by omega))
        refine li_callN (n := 3) (As := [.ref (Z.2.2 160), .int x1, .int x31]) dX9_fewestCriers_28 (k_X11_put (d - 1) (by omega) (by decide) sh_160 (by decide) x1 x31 M32) (by omega) (Nat.le_of_ble_eq_true rfl) nw_26 w_522 w_101 w_523 (by decide +kernel) rfl rfl (Nat.le_of_ble_eq_true rfl) (fun r M35 h36 => ?_)
        obtain ⟨rfl, h36⟩ := h36
        have hf := li_fr_trans hf h36 (fun i (h : i = 160) => (show i = 146 ∨ i = 147 ∨ i = 160 by omega))
        obtain ⟨x37, ex37⟩ : ∃ y : Int32, y = x1 + 1 := ⟨_, rfl⟩
        refine li_iinc 0 [(4, .int x37), (0, .ref (Z.2.2 158)), (1, .int p1), (2, .int p2), (3, .int p3)] x37 dX9_fewestCriers_31 rfl (by rw [ex37]; rfl) (by decide) rfl ?_
        refine li_goto 3 dX9_fewestCriers_34 (by decide) ?_
        refine li_pick [0, 1, 2, 3, 4] [(4, .int x37), (0, .ref (Z.2.2 158)), (1, .int p1), (2, .int p2), (3, .int p3)] rfl ?_
        exact ih3 x37 M35 (by have h9 := li_up (li_gt c4); rw [← ex37] at h9; omega) hf
  exact L3 _ 0 M0 (Nat.lt_succ_self _) hf
