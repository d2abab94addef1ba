theorem w_32 : (Jvm.Cond.selects "ClockForTalk$Dusk" ({ cls := "ClockForTalk$Dusk", name := "canCost", desc := "(III)Z" } : Jvm.MethodName) ({ cls := "ClockForTalk$Dusk", name := "canCost", desc := "(III)Z" } : Jvm.MethodName)) ∈ li_ws := li_mem 32 (by decide +kernel) (by decide +kernel)
theorem w_33 : (Jvm.Cond.selects "ClockForTalk$Dusk" ({ cls := "ClockForTalk$Dusk", name := "clearSums", desc := "(II)V" } : Jvm.MethodName) ({ cls := "ClockForTalk$Dusk", name := "clearSums", desc := "(II)V" } : Jvm.MethodName)) ∈ li_ws := li_mem 33 (by decide +kernel) (by decide +kernel)
theorem w_34 : (Jvm.Cond.selects "ClockForTalk$Dusk" ({ cls := "ClockForTalk$Dusk", name := "addSpeech", desc := "(IIII)V" } : Jvm.MethodName) ({ cls := "ClockForTalk$Dusk", name := "addSpeech", desc := "(IIII)V" } : Jvm.MethodName)) ∈ li_ws := li_mem 34 (by decide +kernel) (by decide +kernel)
theorem w_35 : (Jvm.Cond.selects "ClockForTalk$Dusk" ({ cls := "ClockForTalk$Dusk", name := "addShifted", desc := "(IIII)V" } : Jvm.MethodName) ({ cls := "ClockForTalk$Dusk", name := "addShifted", desc := "(IIII)V" } : Jvm.MethodName)) ∈ li_ws := li_mem 35 (by decide +kernel) (by decide +kernel)
theorem w_36 : (Jvm.Cond.selects "ClockForTalk$Dusk" ({ cls := "ClockForTalk$Dusk", name := "hasSum", desc := "(II)Z" } : Jvm.MethodName) ({ cls := "ClockForTalk$Dusk", name := "hasSum", desc := "(II)Z" } : Jvm.MethodName)) ∈ li_ws := li_mem 36 (by decide +kernel) (by decide +kernel)
theorem w_37 : (Jvm.Cond.selects "ClockForTalk$Dusk" ({ cls := "ClockForTalk$Dusk", name := "countSet", desc := "(I)V" } : Jvm.MethodName) ({ cls := "ClockForTalk$Dusk", name := "countSet", desc := "(I)V" } : Jvm.MethodName)) ∈ li_ws := li_mem 37 (by decide +kernel) (by decide +kernel)
theorem w_38 : (Jvm.Cond.selects "ClockForTalk$Dusk" ({ cls := "ClockForTalk$Dusk", name := "countSums", desc := "(II)I" } : Jvm.MethodName) ({ cls := "ClockForTalk$Dusk", name := "countSums", desc := "(II)I" } : Jvm.MethodName)) ∈ li_ws := li_mem 38 (by decide +kernel) (by decide +kernel)
theorem w_111 : (Jvm.Cond.initialized "ClockForTalk$Dusk") ∈ li_ws := li_mem 111 (by decide +kernel) (by decide +kernel)
theorem w_182 : (Jvm.Cond.fieldLink "ClockForTalk$Dusk" (114 : Nat) "ClockForTalk$Town" "wishes" "I") ∈ li_ws := li_mem 182 (by decide +kernel) (by decide +kernel)
theorem w_240 : (Jvm.Cond.fieldLink "ClockForTalk$Dusk" (54 : Nat) "ClockForTalk$Ledger" "clocks" "[I") ∈ li_ws := li_mem 240 (by decide +kernel) (by decide +kernel)
theorem w_372 : (Jvm.Cond.fieldLink "ClockForTalk$Dusk" (102 : Nat) "ClockForTalk$Costs" "prices" "[I") ∈ li_ws := li_mem 372 (by decide +kernel) (by decide +kernel)
theorem w_441 : (Jvm.Cond.fieldLink "ClockForTalk$Dusk" (19 : Nat) "ClockForTalk$Dusk" "town" "LClockForTalk$Town;") ∈ li_ws := li_mem 441 (by decide +kernel) (by decide +kernel)
theorem w_442 : (Jvm.Cond.fieldLink "ClockForTalk$Dusk" (23 : Nat) "ClockForTalk$Dusk" "ledger" "LClockForTalk$Ledger;") ∈ li_ws := li_mem 442 (by decide +kernel) (by decide +kernel)
theorem w_443 : (Jvm.Cond.fieldLink "ClockForTalk$Dusk" (27 : Nat) "ClockForTalk$Dusk" "costs" "LClockForTalk$Costs;") ∈ li_ws := li_mem 443 (by decide +kernel) (by decide +kernel)
theorem w_444 : (Jvm.Cond.fieldLink "ClockForTalk$Dusk" (9 : Nat) "ClockForTalk$Dusk" "readings" "[I") ∈ li_ws := li_mem 444 (by decide +kernel) (by decide +kernel)
theorem w_445 : (Jvm.Cond.fieldLink "ClockForTalk$Dusk" (15 : Nat) "ClockForTalk$Dusk" "sums" "[J") ∈ li_ws := li_mem 445 (by decide +kernel) (by decide +kernel)
theorem w_446 : (Jvm.Cond.fieldLink "ClockForTalk$Dusk" (35 : Nat) "ClockForTalk$Dusk" "readBits" "I") ∈ li_ws := li_mem 446 (by decide +kernel) (by decide +kernel)
theorem w_448 : (Jvm.Cond.fieldLink "ClockForTalk$Dusk" (39 : Nat) "ClockForTalk$Dusk" "explained" "I") ∈ li_ws := li_mem 448 (by decide +kernel) (by decide +kernel)
theorem w_450 : (Jvm.Cond.fieldLink "ClockForTalk$Dusk" (42 : Nat) "ClockForTalk$Dusk" "leastSet" "I") ∈ li_ws := li_mem 450 (by decide +kernel) (by decide +kernel)
theorem w_452 : (Jvm.Cond.fieldLink "ClockForTalk$Dusk" (45 : Nat) "ClockForTalk$Dusk" "inAll" "I") ∈ li_ws := li_mem 452 (by decide +kernel) (by decide +kernel)
theorem w_1181 : (Jvm.Cond.methodLink "ClockForTalk$Dusk" (48 : Nat) ({ cls := "ClockForTalk$Costs", name := "openThingsOf", desc := "(I)I" } : Jvm.MethodName)) ∈ li_ws := li_mem 1181 (by decide +kernel) (by decide +kernel)
theorem w_1183 : (Jvm.Cond.methodLink "ClockForTalk$Dusk" (63 : Nat) ({ cls := "ClockForTalk$Dusk", name := "wordsFor", desc := "(I)I" } : Jvm.MethodName)) ∈ li_ws := li_mem 1183 (by decide +kernel) (by decide +kernel)
theorem w_1184 : (Jvm.Cond.static ({ cls := "ClockForTalk$Dusk", name := "wordsFor", desc := "(I)I" } : Jvm.MethodName)) ∈ li_ws := li_mem 1184 (by decide +kernel) (by decide +kernel)
theorem w_1185 : (Jvm.Cond.code ({ cls := "ClockForTalk$Dusk", name := "wordsFor", desc := "(I)I" } : Jvm.MethodName) prog_3_method_5_code (1 : Nat) (Option.some Jvm.ClassFile.FieldType.int)) ∈ li_ws := li_mem 1185 (by decide +kernel) (by decide +kernel)
theorem w_1186 : (Jvm.Cond.methodLink "ClockForTalk$Dusk" (66 : Nat) ({ cls := "ClockForTalk$Dusk", name := "canCost", desc := "(III)Z" } : Jvm.MethodName)) ∈ li_ws := li_mem 1186 (by decide +kernel) (by decide +kernel)
theorem w_1188 : (Jvm.Cond.instanceMethod ({ cls := "ClockForTalk$Dusk", name := "canCost", desc := "(III)Z" } : Jvm.MethodName)) ∈ li_ws := li_mem 1188 (by decide +kernel) (by decide +kernel)
theorem w_1189 : (Jvm.Cond.code ({ cls := "ClockForTalk$Dusk", name := "canCost", desc := "(III)Z" } : Jvm.MethodName) prog_3_method_7_code (5 : Nat) (Option.some Jvm.ClassFile.FieldType.boolean)) ∈ li_ws := li_mem 1189 (by decide +kernel) (by decide +kernel)
theorem w_1190 : (Jvm.Cond.methodLink "ClockForTalk$Dusk" (78 : Nat) ({ cls := "java/lang/Integer", name := "bitCount", desc := "(I)I" } : Jvm.MethodName)) ∈ li_ws := li_mem 1190 (by decide +kernel) (by decide +kernel)
theorem w_1191 : (Jvm.Cond.methodLink "ClockForTalk$Dusk" (83 : Nat) ({ cls := "ClockForTalk$Dusk", name := "clearSums", desc := "(II)V" } : Jvm.MethodName)) ∈ li_ws := li_mem 1191 (by decide +kernel) (by decide +kernel)
theorem w_1193 : (Jvm.Cond.instanceMethod ({ cls := "ClockForTalk$Dusk", name := "clearSums", desc := "(II)V" } : Jvm.MethodName)) ∈ li_ws := li_mem 1193 (by decide +kernel) (by decide +kernel)
theorem w_1194 : (Jvm.Cond.code ({ cls := "ClockForTalk$Dusk", name := "clearSums", desc := "(II)V" } : Jvm.MethodName) prog_3_method_8_code (4 : Nat) (Option.none : Option Jvm.ClassFile.FieldType)) ∈ li_ws := li_mem 1194 (by decide +kernel) (by decide +kernel)
theorem w_1196 : (Jvm.Cond.methodLink "ClockForTalk$Dusk" (91 : Nat) ({ cls := "java/lang/Integer", name := "numberOfTrailingZeros", desc := "(I)I" } : Jvm.MethodName)) ∈ li_ws := li_mem 1196 (by decide +kernel) (by decide +kernel)
theorem w_1197 : (Jvm.Cond.methodLink "ClockForTalk$Dusk" (94 : Nat) ({ cls := "ClockForTalk$Dusk", name := "addSpeech", desc := "(IIII)V" } : Jvm.MethodName)) ∈ li_ws := li_mem 1197 (by decide +kernel) (by decide +kernel)
theorem w_1199 : (Jvm.Cond.instanceMethod ({ cls := "ClockForTalk$Dusk", name := "addSpeech", desc := "(IIII)V" } : Jvm.MethodName)) ∈ li_ws := li_mem 1199 (by decide +kernel) (by decide +kernel)
theorem w_1200 : (Jvm.Cond.code ({ cls := "ClockForTalk$Dusk", name := "addSpeech", desc := "(IIII)V" } : Jvm.MethodName) prog_3_method_9_code (7 : Nat) (Option.none : Option Jvm.ClassFile.FieldType)) ∈ li_ws := li_mem 1200 (by decide +kernel) (by decide +kernel)
theorem w_1201 : (Jvm.Cond.methodLink "ClockForTalk$Dusk" (105 : Nat) ({ cls := "ClockForTalk$Dusk", name := "addShifted", desc := "(IIII)V" } : Jvm.MethodName)) ∈ li_ws := li_mem 1201 (by decide +kernel) (by decide +kernel)
theorem w_1203 : (Jvm.Cond.instanceMethod ({ cls := "ClockForTalk$Dusk", name := "addShifted", desc := "(IIII)V" } : Jvm.MethodName)) ∈ li_ws := li_mem 1203 (by decide +kernel) (by decide +kernel)
theorem w_1204 : (Jvm.Cond.code ({ cls := "ClockForTalk$Dusk", name := "addShifted", desc := "(IIII)V" } : Jvm.MethodName) prog_3_method_10_code (10 : Nat) (Option.none : Option Jvm.ClassFile.FieldType)) ∈ li_ws := li_mem 1204 (by decide +kernel) (by decide +kernel)
theorem w_1206 : (Jvm.Cond.methodLink "ClockForTalk$Dusk" (98 : Nat) ({ cls := "ClockForTalk$Dusk", name := "hasSum", desc := "(II)Z" } : Jvm.MethodName)) ∈ li_ws := li_mem 1206 (by decide +kernel) (by decide +kernel)
theorem w_1208 : (Jvm.Cond.instanceMethod ({ cls := "ClockForTalk$Dusk", name := "hasSum", desc := "(II)Z" } : Jvm.MethodName)) ∈ li_ws := li_mem 1208 (by decide +kernel) (by decide +kernel)
theorem w_1209 : (Jvm.Cond.code ({ cls := "ClockForTalk$Dusk", name := "hasSum", desc := "(II)Z" } : Jvm.MethodName) prog_3_method_6_code (3 : Nat) (Option.some Jvm.ClassFile.FieldType.boolean)) ∈ li_ws := li_mem 1209 (by decide +kernel) (by decide +kernel)
theorem w_1210 : (Jvm.Cond.methodLink "ClockForTalk$Dusk" (70 : Nat) ({ cls := "ClockForTalk$Dusk", name := "countSet", desc := "(I)V" } : Jvm.MethodName)) ∈ li_ws := li_mem 1210 (by decide +kernel) (by decide +kernel)
theorem w_1212 : (Jvm.Cond.instanceMethod ({ cls := "ClockForTalk$Dusk", name := "countSet", desc := "(I)V" } : Jvm.MethodName)) ∈ li_ws := li_mem 1212 (by decide +kernel) (by decide +kernel)
theorem w_1213 : (Jvm.Cond.code ({ cls := "ClockForTalk$Dusk", name := "countSet", desc := "(I)V" } : Jvm.MethodName) prog_3_method_4_code (2 : Nat) (Option.none : Option Jvm.ClassFile.FieldType)) ∈ li_ws := li_mem 1213 (by decide +kernel) (by decide +kernel)
theorem w_1222 : (Jvm.Cond.methodLink "ClockForTalk$Dusk" (108 : Nat) ({ cls := "java/lang/Math", name := "min", desc := "(II)I" } : Jvm.MethodName)) ∈ li_ws := li_mem 1222 (by decide +kernel) (by decide +kernel)
theorem w_1224 : (Jvm.Cond.methodLink "ClockForTalk$Dusk" (122 : Nat) ({ cls := "ClockForTalk$Dusk", name := "countSums", desc := "(II)I" } : Jvm.MethodName)) ∈ li_ws := li_mem 1224 (by decide +kernel) (by decide +kernel)
theorem w_1226 : (Jvm.Cond.instanceMethod ({ cls := "ClockForTalk$Dusk", name := "countSums", desc := "(II)I" } : Jvm.MethodName)) ∈ li_ws := li_mem 1226 (by decide +kernel) (by decide +kernel)
theorem w_1227 : (Jvm.Cond.code ({ cls := "ClockForTalk$Dusk", name := "countSums", desc := "(II)I" } : Jvm.MethodName) prog_3_method_12_code (5 : Nat) (Option.some Jvm.ClassFile.FieldType.int)) ∈ li_ws := li_mem 1227 (by decide +kernel) (by decide +kernel)
theorem dX2_note_0 : decode cX2_note 0 = .ok (.aload_n 0, 1) := by decide +kernel
theorem dX2_note_1 : decode cX2_note 1 = .ok (.getfield 9, 3) := by decide +kernel
theorem dX2_note_4 : decode cX2_note 4 = .ok (.iload_n 1, 1) := by decide +kernel
theorem dX2_note_5 : decode cX2_note 5 = .ok (.iload_n 2, 1) := by decide +kernel
theorem dX2_note_6 : decode cX2_note 6 = .ok (.invokestatic 31, 3) := by decide +kernel
theorem dX2_note_9 : decode cX2_note 9 = .ok (.aload_n 0, 1) := by decide +kernel
theorem dX2_note_10 : decode cX2_note 10 = .ok (.dup, 1) := by decide +kernel
theorem dX2_note_11 : decode cX2_note 11 = .ok (.getfield 35, 3) := by decide +kernel
theorem dX2_note_14 : decode cX2_note 14 = .ok (.iconst 1, 1) := by decide +kernel
theorem dX2_note_15 : decode cX2_note 15 = .ok (.iload_n 1, 1) := by decide +kernel
theorem dX2_note_16 : decode cX2_note 16 = .ok (.ishl, 1) := by decide +kernel
theorem dX2_note_17 : decode cX2_note 17 = .ok (.ior, 1) := by decide +kernel
theorem dX2_note_18 : decode cX2_note 18 = .ok (.putfield 35, 3) := by decide +kernel
theorem dX2_note_21 : decode cX2_note 21 = .ok (.return_, 1) := by decide +kernel
abbrev YX2_note : li_Y := (yX2_note, cX2_note, 3, none)
theorem dX2_countSet_0 : decode cX2_countSet 0 = .ok (.aload_n 0, 1) := by decide +kernel
theorem dX2_countSet_1 : decode cX2_countSet 1 = .ok (.aload_n 0, 1) := by decide +kernel
theorem dX2_countSet_2 : decode cX2_countSet 2 = .ok (.getfield 39, 3) := by decide +kernel
theorem dX2_countSet_5 : decode cX2_countSet 5 = .ok (.ifCond .ne 7, 3) := by decide +kernel
theorem dX2_countSet_8 : decode cX2_countSet 8 = .ok (.iload_n 1, 1) := by decide +kernel
theorem dX2_countSet_9 : decode cX2_countSet 9 = .ok (.goto 7, 3) := by decide +kernel
theorem dX2_countSet_12 : decode cX2_countSet 12 = .ok (.aload_n 0, 1) := by decide +kernel
theorem dX2_countSet_13 : decode cX2_countSet 13 = .ok (.getfield 42, 3) := by decide +kernel
theorem dX2_countSet_16 : decode cX2_countSet 16 = .ok (.putfield 42, 3) := by decide +kernel
theorem dX2_countSet_19 : decode cX2_countSet 19 = .ok (.aload_n 0, 1) := by decide +kernel
theorem dX2_countSet_20 : decode cX2_countSet 20 = .ok (.aload_n 0, 1) := by decide +kernel
theorem dX2_countSet_21 : decode cX2_countSet 21 = .ok (.getfield 39, 3) := by decide +kernel
theorem dX2_countSet_24 : decode cX2_countSet 24 = .ok (.ifCond .ne 7, 3) := by decide +kernel
theorem dX2_countSet_27 : decode cX2_countSet 27 = .ok (.iload_n 1, 1) := by decide +kernel
theorem dX2_countSet_28 : decode cX2_countSet 28 = .ok (.goto 9, 3) := by decide +kernel
theorem dX2_countSet_31 : decode cX2_countSet 31 = .ok (.aload_n 0, 1) := by decide +kernel
theorem dX2_countSet_32 : decode cX2_countSet 32 = .ok (.getfield 45, 3) := by decide +kernel
theorem dX2_countSet_35 : decode cX2_countSet 35 = .ok (.iload_n 1, 1) := by decide +kernel
theorem dX2_countSet_36 : decode cX2_countSet 36 = .ok (.iand, 1) := by decide +kernel
theorem dX2_countSet_37 : decode cX2_countSet 37 = .ok (.putfield 45, 3) := by decide +kernel
theorem dX2_countSet_40 : decode cX2_countSet 40 = .ok (.aload_n 0, 1) := by decide +kernel
theorem dX2_countSet_41 : decode cX2_countSet 41 = .ok (.dup, 1) := by decide +kernel
theorem dX2_countSet_42 : decode cX2_countSet 42 = .ok (.getfield 39, 3) := by decide +kernel
theorem dX2_countSet_45 : decode cX2_countSet 45 = .ok (.iconst 1, 1) := by decide +kernel
theorem dX2_countSet_46 : decode cX2_countSet 46 = .ok (.iadd, 1) := by decide +kernel
theorem dX2_countSet_47 : decode cX2_countSet 47 = .ok (.putfield 39, 3) := by decide +kernel
theorem dX2_countSet_50 : decode cX2_countSet 50 = .ok (.return_, 1) := by decide +kernel
abbrev YX2_countSet : li_Y := (yX2_countSet, cX2_countSet, 2, none)
theorem dX2_hasSum_0 : decode cX2_hasSum 0 = .ok (.aload_n 0, 1) := by decide +kernel
theorem dX2_hasSum_1 : decode cX2_hasSum 1 = .ok (.getfield 15, 3) := by decide +kernel
theorem dX2_hasSum_4 : decode cX2_hasSum 4 = .ok (.iload_n 1, 1) := by decide +kernel
theorem dX2_hasSum_5 : decode cX2_hasSum 5 = .ok (.bipush 125, 2) := by decide +kernel
theorem dX2_hasSum_7 : decode cX2_hasSum 7 = .ok (.imul, 1) := by decide +kernel
theorem dX2_hasSum_8 : decode cX2_hasSum 8 = .ok (.iload_n 2, 1) := by decide +kernel
theorem dX2_hasSum_9 : decode cX2_hasSum 9 = .ok (.bipush 64, 2) := by decide +kernel
theorem dX2_hasSum_11 : decode cX2_hasSum 11 = .ok (.idiv, 1) := by decide +kernel
theorem dX2_hasSum_12 : decode cX2_hasSum 12 = .ok (.iadd, 1) := by decide +kernel
theorem dX2_hasSum_13 : decode cX2_hasSum 13 = .ok (.invokestatic 74, 3) := by decide +kernel
theorem dX2_hasSum_16 : decode cX2_hasSum 16 = .ok (.iload_n 2, 1) := by decide +kernel
theorem dX2_hasSum_17 : decode cX2_hasSum 17 = .ok (.bipush 64, 2) := by decide +kernel
theorem dX2_hasSum_19 : decode cX2_hasSum 19 = .ok (.irem, 1) := by decide +kernel
theorem dX2_hasSum_20 : decode cX2_hasSum 20 = .ok (.lushr, 1) := by decide +kernel
theorem dX2_hasSum_21 : decode cX2_hasSum 21 = .ok (.lconst 1, 1) := by decide +kernel
theorem dX2_hasSum_22 : decode cX2_hasSum 22 = .ok (.land, 1) := by decide +kernel
theorem dX2_hasSum_23 : decode cX2_hasSum 23 = .ok (.lconst 0, 1) := by decide +kernel
theorem dX2_hasSum_24 : decode cX2_hasSum 24 = .ok (.lcmp, 1) := by decide +kernel
theorem dX2_hasSum_25 : decode cX2_hasSum 25 = .ok (.ifCond .eq 7, 3) := by decide +kernel
theorem dX2_hasSum_28 : decode cX2_hasSum 28 = .ok (.iconst 1, 1) := by decide +kernel
theorem dX2_hasSum_29 : decode cX2_hasSum 29 = .ok (.goto 4, 3) := by decide +kernel
theorem dX2_hasSum_32 : decode cX2_hasSum 32 = .ok (.iconst 0, 1) := by decide +kernel
theorem dX2_hasSum_33 : decode cX2_hasSum 33 = .ok (.ireturn, 1) := by decide +kernel
abbrev YX2_hasSum : li_Y := (yX2_hasSum, cX2_hasSum, 3, (some .boolean))
theorem dX2_clearSums_0 : decode cX2_clearSums 0 = .ok (.iconst 0, 1) := by decide +kernel
theorem dX2_clearSums_1 : decode cX2_clearSums 1 = .ok (.istore_n 3, 1) := by decide +kernel
theorem dX2_clearSums_2 : decode cX2_clearSums 2 = .ok (.iload_n 3, 1) := by decide +kernel
theorem dX2_clearSums_3 : decode cX2_clearSums 3 = .ok (.iload_n 2, 1) := by decide +kernel
theorem dX2_clearSums_4 : decode cX2_clearSums 4 = .ok (.if_icmp .ge 23, 3) := by decide +kernel
theorem dX2_clearSums_7 : decode cX2_clearSums 7 = .ok (.aload_n 0, 1) := by decide +kernel
theorem dX2_clearSums_8 : decode cX2_clearSums 8 = .ok (.getfield 15, 3) := by decide +kernel
theorem dX2_clearSums_11 : decode cX2_clearSums 11 = .ok (.iload_n 1, 1) := by decide +kernel
theorem dX2_clearSums_12 : decode cX2_clearSums 12 = .ok (.bipush 125, 2) := by decide +kernel
theorem dX2_clearSums_14 : decode cX2_clearSums 14 = .ok (.imul, 1) := by decide +kernel
theorem dX2_clearSums_15 : decode cX2_clearSums 15 = .ok (.iload_n 3, 1) := by decide +kernel
theorem dX2_clearSums_16 : decode cX2_clearSums 16 = .ok (.iadd, 1) := by decide +kernel
theorem dX2_clearSums_17 : decode cX2_clearSums 17 = .ok (.lconst 0, 1) := by decide +kernel
theorem dX2_clearSums_18 : decode cX2_clearSums 18 = .ok (.invokestatic 87, 3) := by decide +kernel
theorem dX2_clearSums_21 : decode cX2_clearSums 21 = .ok (.iinc 3 1, 3) := by decide +kernel
theorem dX2_clearSums_24 : decode cX2_clearSums 24 = .ok (.goto (-22), 3) := by decide +kernel
theorem dX2_clearSums_27 : decode cX2_clearSums 27 = .ok (.return_, 1) := by decide +kernel
abbrev YX2_clearSums : li_Y := (yX2_clearSums, cX2_clearSums, 4, none)
theorem dX2_addShifted_0 : decode cX2_addShifted 0 = .ok (.iload_n 3, 1) := by decide +kernel
theorem dX2_addShifted_1 : decode cX2_addShifted 1 = .ok (.bipush 64, 2) := by decide +kernel
theorem dX2_addShifted_3 : decode cX2_addShifted 3 = .ok (.idiv, 1) := by decide +kernel
theorem dX2_addShifted_4 : decode cX2_addShifted 4 = .ok (.istore 5, 2) := by decide +kernel
theorem dX2_addShifted_6 : decode cX2_addShifted 6 = .ok (.iload_n 3, 1) := by decide +kernel
theorem dX2_addShifted_7 : decode cX2_addShifted 7 = .ok (.bipush 64, 2) := by decide +kernel
theorem dX2_addShifted_9 : decode cX2_addShifted 9 = .ok (.irem, 1) := by decide +kernel
theorem dX2_addShifted_10 : decode cX2_addShifted 10 = .ok (.istore 6, 2) := by decide +kernel
theorem dX2_addShifted_12 : decode cX2_addShifted 12 = .ok (.iload 5, 2) := by decide +kernel
theorem dX2_addShifted_14 : decode cX2_addShifted 14 = .ok (.istore 7, 2) := by decide +kernel
theorem dX2_addShifted_16 : decode cX2_addShifted 16 = .ok (.iload 7, 2) := by decide +kernel
theorem dX2_addShifted_18 : decode cX2_addShifted 18 = .ok (.iload 4, 2) := by decide +kernel
theorem dX2_addShifted_20 : decode cX2_addShifted 20 = .ok (.if_icmp .ge 92, 3) := by decide +kernel
theorem dX2_addShifted_23 : decode cX2_addShifted 23 = .ok (.aload_n 0, 1) := by decide +kernel
theorem dX2_addShifted_24 : decode cX2_addShifted 24 = .ok (.getfield 15, 3) := by decide +kernel
theorem dX2_addShifted_27 : decode cX2_addShifted 27 = .ok (.iload_n 1, 1) := by decide +kernel
theorem dX2_addShifted_28 : decode cX2_addShifted 28 = .ok (.iload 7, 2) := by decide +kernel
theorem dX2_addShifted_30 : decode cX2_addShifted 30 = .ok (.iadd, 1) := by decide +kernel
theorem dX2_addShifted_31 : decode cX2_addShifted 31 = .ok (.iload 5, 2) := by decide +kernel
theorem dX2_addShifted_33 : decode cX2_addShifted 33 = .ok (.isub, 1) := by decide +kernel
theorem dX2_addShifted_34 : decode cX2_addShifted 34 = .ok (.invokestatic 74, 3) := by decide +kernel
theorem dX2_addShifted_37 : decode cX2_addShifted 37 = .ok (.iload 6, 2) := by decide +kernel
theorem dX2_addShifted_39 : decode cX2_addShifted 39 = .ok (.lshl, 1) := by decide +kernel
theorem dX2_addShifted_40 : decode cX2_addShifted 40 = .ok (.lstore 8, 2) := by decide +kernel
theorem dX2_addShifted_42 : decode cX2_addShifted 42 = .ok (.iload 6, 2) := by decide +kernel
theorem dX2_addShifted_44 : decode cX2_addShifted 44 = .ok (.ifCond .le 37, 3) := by decide +kernel
theorem dX2_addShifted_47 : decode cX2_addShifted 47 = .ok (.iload 7, 2) := by decide +kernel
theorem dX2_addShifted_49 : decode cX2_addShifted 49 = .ok (.iload 5, 2) := by decide +kernel
theorem dX2_addShifted_51 : decode cX2_addShifted 51 = .ok (.if_icmp .le 30, 3) := by decide +kernel
theorem dX2_addShifted_54 : decode cX2_addShifted 54 = .ok (.lload 8, 2) := by decide +kernel
theorem dX2_addShifted_56 : decode cX2_addShifted 56 = .ok (.aload_n 0, 1) := by decide +kernel
theorem dX2_addShifted_57 : decode cX2_addShifted 57 = .ok (.getfield 15, 3) := by decide +kernel
theorem dX2_addShifted_60 : decode cX2_addShifted 60 = .ok (.iload_n 1, 1) := by decide +kernel
theorem dX2_addShifted_61 : decode cX2_addShifted 61 = .ok (.iload 7, 2) := by decide +kernel
theorem dX2_addShifted_63 : decode cX2_addShifted 63 = .ok (.iadd, 1) := by decide +kernel
theorem dX2_addShifted_64 : decode cX2_addShifted 64 = .ok (.iload 5, 2) := by decide +kernel
theorem dX2_addShifted_66 : decode cX2_addShifted 66 = .ok (.isub, 1) := by decide +kernel
theorem dX2_addShifted_67 : decode cX2_addShifted 67 = .ok (.iconst 1, 1) := by decide +kernel
theorem dX2_addShifted_68 : decode cX2_addShifted 68 = .ok (.isub, 1) := by decide +kernel
theorem dX2_addShifted_69 : decode cX2_addShifted 69 = .ok (.invokestatic 74, 3) := by decide +kernel
theorem dX2_addShifted_72 : decode cX2_addShifted 72 = .ok (.bipush 64, 2) := by decide +kernel
theorem dX2_addShifted_74 : decode cX2_addShifted 74 = .ok (.iload 6, 2) := by decide +kernel
theorem dX2_addShifted_76 : decode cX2_addShifted 76 = .ok (.isub, 1) := by decide +kernel
theorem dX2_addShifted_77 : decode cX2_addShifted 77 = .ok (.lushr, 1) := by decide +kernel
theorem dX2_addShifted_78 : decode cX2_addShifted 78 = .ok (.lor, 1) := by decide +kernel
theorem dX2_addShifted_79 : decode cX2_addShifted 79 = .ok (.lstore 8, 2) := by decide +kernel
theorem dX2_addShifted_81 : decode cX2_addShifted 81 = .ok (.aload_n 0, 1) := by decide +kernel
theorem dX2_addShifted_82 : decode cX2_addShifted 82 = .ok (.getfield 15, 3) := by decide +kernel
theorem dX2_addShifted_85 : decode cX2_addShifted 85 = .ok (.iload_n 2, 1) := by decide +kernel
theorem dX2_addShifted_86 : decode cX2_addShifted 86 = .ok (.iload 7, 2) := by decide +kernel
theorem dX2_addShifted_88 : decode cX2_addShifted 88 = .ok (.iadd, 1) := by decide +kernel
theorem dX2_addShifted_89 : decode cX2_addShifted 89 = .ok (.aload_n 0, 1) := by decide +kernel
theorem dX2_addShifted_90 : decode cX2_addShifted 90 = .ok (.getfield 15, 3) := by decide +kernel
theorem dX2_addShifted_93 : decode cX2_addShifted 93 = .ok (.iload_n 2, 1) := by decide +kernel
theorem dX2_addShifted_94 : decode cX2_addShifted 94 = .ok (.iload 7, 2) := by decide +kernel
theorem dX2_addShifted_96 : decode cX2_addShifted 96 = .ok (.iadd, 1) := by decide +kernel
theorem dX2_addShifted_97 : decode cX2_addShifted 97 = .ok (.invokestatic 74, 3) := by decide +kernel
theorem dX2_addShifted_100 : decode cX2_addShifted 100 = .ok (.lload 8, 2) := by decide +kernel
theorem dX2_addShifted_102 : decode cX2_addShifted 102 = .ok (.lor, 1) := by decide +kernel
theorem dX2_addShifted_103 : decode cX2_addShifted 103 = .ok (.invokestatic 87, 3) := by decide +kernel
theorem dX2_addShifted_106 : decode cX2_addShifted 106 = .ok (.iinc 7 1, 3) := by decide +kernel
theorem dX2_addShifted_109 : decode cX2_addShifted 109 = .ok (.goto (-93), 3) := by decide +kernel
theorem dX2_addShifted_112 : decode cX2_addShifted 112 = .ok (.return_, 1) := by decide +kernel
abbrev YX2_addShifted : li_Y := (yX2_addShifted, cX2_addShifted, 10, none)
theorem dX2_addSpeech_0 : decode cX2_addSpeech 0 = .ok (.iconst 0, 1) := by decide +kernel
theorem dX2_addSpeech_1 : decode cX2_addSpeech 1 = .ok (.istore 5, 2) := by decide +kernel
theorem dX2_addSpeech_3 : decode cX2_addSpeech 3 = .ok (.iload 5, 2) := by decide +kernel
theorem dX2_addSpeech_5 : decode cX2_addSpeech 5 = .ok (.iconst 4, 1) := by decide +kernel
theorem dX2_addSpeech_6 : decode cX2_addSpeech 6 = .ok (.if_icmp .ge 48, 3) := by decide +kernel
theorem dX2_addSpeech_9 : decode cX2_addSpeech 9 = .ok (.aload_n 0, 1) := by decide +kernel
theorem dX2_addSpeech_10 : decode cX2_addSpeech 10 = .ok (.getfield 27, 3) := by decide +kernel
theorem dX2_addSpeech_13 : decode cX2_addSpeech 13 = .ok (.getfield 102, 3) := by decide +kernel
theorem dX2_addSpeech_16 : decode cX2_addSpeech 16 = .ok (.iload_n 3, 1) := by decide +kernel
theorem dX2_addSpeech_17 : decode cX2_addSpeech 17 = .ok (.iconst 4, 1) := by decide +kernel
theorem dX2_addSpeech_18 : decode cX2_addSpeech 18 = .ok (.imul, 1) := by decide +kernel
theorem dX2_addSpeech_19 : decode cX2_addSpeech 19 = .ok (.iload 5, 2) := by decide +kernel
theorem dX2_addSpeech_21 : decode cX2_addSpeech 21 = .ok (.iadd, 1) := by decide +kernel
theorem dX2_addSpeech_22 : decode cX2_addSpeech 22 = .ok (.invokestatic 59, 3) := by decide +kernel
theorem dX2_addSpeech_25 : decode cX2_addSpeech 25 = .ok (.istore 6, 2) := by decide +kernel
theorem dX2_addSpeech_27 : decode cX2_addSpeech 27 = .ok (.iload 6, 2) := by decide +kernel
theorem dX2_addSpeech_29 : decode cX2_addSpeech 29 = .ok (.ifCond .lt 19, 3) := by decide +kernel
theorem dX2_addSpeech_32 : decode cX2_addSpeech 32 = .ok (.aload_n 0, 1) := by decide +kernel
theorem dX2_addSpeech_33 : decode cX2_addSpeech 33 = .ok (.iload_n 1, 1) := by decide +kernel
theorem dX2_addSpeech_34 : decode cX2_addSpeech 34 = .ok (.bipush 125, 2) := by decide +kernel
theorem dX2_addSpeech_36 : decode cX2_addSpeech 36 = .ok (.imul, 1) := by decide +kernel
theorem dX2_addSpeech_37 : decode cX2_addSpeech 37 = .ok (.iload_n 2, 1) := by decide +kernel
theorem dX2_addSpeech_38 : decode cX2_addSpeech 38 = .ok (.bipush 125, 2) := by decide +kernel
theorem dX2_addSpeech_40 : decode cX2_addSpeech 40 = .ok (.imul, 1) := by decide +kernel
theorem dX2_addSpeech_41 : decode cX2_addSpeech 41 = .ok (.iload 6, 2) := by decide +kernel
theorem dX2_addSpeech_43 : decode cX2_addSpeech 43 = .ok (.iload 4, 2) := by decide +kernel
theorem dX2_addSpeech_45 : decode cX2_addSpeech 45 = .ok (.invokevirtual 105, 3) := by decide +kernel
theorem dX2_addSpeech_48 : decode cX2_addSpeech 48 = .ok (.iinc 5 1, 3) := by decide +kernel
theorem dX2_addSpeech_51 : decode cX2_addSpeech 51 = .ok (.goto (-48), 3) := by decide +kernel
theorem dX2_addSpeech_54 : decode cX2_addSpeech 54 = .ok (.return_, 1) := by decide +kernel
abbrev YX2_addSpeech : li_Y := (yX2_addSpeech, cX2_addSpeech, 7, none)
theorem dX2_canCost_0 : decode cX2_canCost 0 = .ok (.iload_n 1, 1) := by decide +kernel
theorem dX2_canCost_1 : decode cX2_canCost 1 = .ok (.invokestatic 78, 3) := by decide +kernel
theorem dX2_canCost_4 : decode cX2_canCost 4 = .ok (.istore 4, 2) := by decide +kernel
theorem dX2_canCost_6 : decode cX2_canCost 6 = .ok (.aload_n 0, 1) := by decide +kernel
theorem dX2_canCost_7 : decode cX2_canCost 7 = .ok (.iload 4, 2) := by decide +kernel
theorem dX2_canCost_9 : decode cX2_canCost 9 = .ok (.iload_n 3, 1) := by decide +kernel
theorem dX2_canCost_10 : decode cX2_canCost 10 = .ok (.invokevirtual 83, 3) := by decide +kernel
theorem dX2_canCost_13 : decode cX2_canCost 13 = .ok (.iload 4, 2) := by decide +kernel
theorem dX2_canCost_15 : decode cX2_canCost 15 = .ok (.ifCond .ne 15, 3) := by decide +kernel
theorem dX2_canCost_18 : decode cX2_canCost 18 = .ok (.aload_n 0, 1) := by decide +kernel
theorem dX2_canCost_19 : decode cX2_canCost 19 = .ok (.getfield 15, 3) := by decide +kernel
theorem dX2_canCost_22 : decode cX2_canCost 22 = .ok (.iconst 0, 1) := by decide +kernel
theorem dX2_canCost_23 : decode cX2_canCost 23 = .ok (.lconst 1, 1) := by decide +kernel
theorem dX2_canCost_24 : decode cX2_canCost 24 = .ok (.invokestatic 87, 3) := by decide +kernel
theorem dX2_canCost_27 : decode cX2_canCost 27 = .ok (.goto 18, 3) := by decide +kernel
theorem dX2_canCost_30 : decode cX2_canCost 30 = .ok (.aload_n 0, 1) := by decide +kernel
theorem dX2_canCost_31 : decode cX2_canCost 31 = .ok (.iload 4, 2) := by decide +kernel
theorem dX2_canCost_33 : decode cX2_canCost 33 = .ok (.iconst 1, 1) := by decide +kernel
theorem dX2_canCost_34 : decode cX2_canCost 34 = .ok (.isub, 1) := by decide +kernel
theorem dX2_canCost_35 : decode cX2_canCost 35 = .ok (.iload 4, 2) := by decide +kernel
theorem dX2_canCost_37 : decode cX2_canCost 37 = .ok (.iload_n 1, 1) := by decide +kernel
theorem dX2_canCost_38 : decode cX2_canCost 38 = .ok (.invokestatic 91, 3) := by decide +kernel
theorem dX2_canCost_41 : decode cX2_canCost 41 = .ok (.iload_n 3, 1) := by decide +kernel
theorem dX2_canCost_42 : decode cX2_canCost 42 = .ok (.invokevirtual 94, 3) := by decide +kernel
theorem dX2_canCost_45 : decode cX2_canCost 45 = .ok (.aload_n 0, 1) := by decide +kernel
theorem dX2_canCost_46 : decode cX2_canCost 46 = .ok (.iload 4, 2) := by decide +kernel
theorem dX2_canCost_48 : decode cX2_canCost 48 = .ok (.iload_n 2, 1) := by decide +kernel
theorem dX2_canCost_49 : decode cX2_canCost 49 = .ok (.invokevirtual 98, 3) := by decide +kernel
theorem dX2_canCost_52 : decode cX2_canCost 52 = .ok (.ireturn, 1) := by decide +kernel
abbrev YX2_canCost : li_Y := (yX2_canCost, cX2_canCost, 5, (some .boolean))
theorem dX2_explain_0 : decode cX2_explain 0 = .ok (.aload_n 0, 1) := by decide +kernel
theorem dX2_explain_1 : decode cX2_explain 1 = .ok (.iconst 0, 1) := by decide +kernel
theorem dX2_explain_2 : decode cX2_explain 2 = .ok (.putfield 39, 3) := by decide +kernel
theorem dX2_explain_5 : decode cX2_explain 5 = .ok (.aload_n 0, 1) := by decide +kernel
theorem dX2_explain_6 : decode cX2_explain 6 = .ok (.iconst (-1), 1) := by decide +kernel
theorem dX2_explain_7 : decode cX2_explain 7 = .ok (.putfield 42, 3) := by decide +kernel
theorem dX2_explain_10 : decode cX2_explain 10 = .ok (.aload_n 0, 1) := by decide +kernel
theorem dX2_explain_11 : decode cX2_explain 11 = .ok (.iconst 0, 1) := by decide +kernel
theorem dX2_explain_12 : decode cX2_explain 12 = .ok (.putfield 45, 3) := by decide +kernel
theorem dX2_explain_15 : decode cX2_explain 15 = .ok (.aload_n 0, 1) := by decide +kernel
theorem dX2_explain_16 : decode cX2_explain 16 = .ok (.getfield 27, 3) := by decide +kernel
theorem dX2_explain_19 : decode cX2_explain 19 = .ok (.iload_n 1, 1) := by decide +kernel
theorem dX2_explain_20 : decode cX2_explain 20 = .ok (.invokevirtual 48, 3) := by decide +kernel
theorem dX2_explain_23 : decode cX2_explain 23 = .ok (.istore_n 2, 1) := by decide +kernel
theorem dX2_explain_24 : decode cX2_explain 24 = .ok (.aload_n 0, 1) := by decide +kernel
theorem dX2_explain_25 : decode cX2_explain 25 = .ok (.getfield 23, 3) := by decide +kernel
theorem dX2_explain_28 : decode cX2_explain 28 = .ok (.getfield 54, 3) := by decide +kernel
theorem dX2_explain_31 : decode cX2_explain 31 = .ok (.iload_n 1, 1) := by decide +kernel
theorem dX2_explain_32 : decode cX2_explain 32 = .ok (.invokestatic 59, 3) := by decide +kernel
theorem dX2_explain_35 : decode cX2_explain 35 = .ok (.aload_n 0, 1) := by decide +kernel
theorem dX2_explain_36 : decode cX2_explain 36 = .ok (.getfield 9, 3) := by decide +kernel
theorem dX2_explain_39 : decode cX2_explain 39 = .ok (.iload_n 1, 1) := by decide +kernel
theorem dX2_explain_40 : decode cX2_explain 40 = .ok (.invokestatic 59, 3) := by decide +kernel
theorem dX2_explain_43 : decode cX2_explain 43 = .ok (.isub, 1) := by decide +kernel
theorem dX2_explain_44 : decode cX2_explain 44 = .ok (.istore_n 3, 1) := by decide +kernel
theorem dX2_explain_45 : decode cX2_explain 45 = .ok (.iload_n 3, 1) := by decide +kernel
theorem dX2_explain_46 : decode cX2_explain 46 = .ok (.invokestatic 63, 3) := by decide +kernel
theorem dX2_explain_49 : decode cX2_explain 49 = .ok (.istore 4, 2) := by decide +kernel
theorem dX2_explain_51 : decode cX2_explain 51 = .ok (.iload 4, 2) := by decide +kernel
theorem dX2_explain_53 : decode cX2_explain 53 = .ok (.ifCond .ne 4, 3) := by decide +kernel
theorem dX2_explain_56 : decode cX2_explain 56 = .ok (.return_, 1) := by decide +kernel
theorem dX2_explain_57 : decode cX2_explain 57 = .ok (.iconst 0, 1) := by decide +kernel
theorem dX2_explain_58 : decode cX2_explain 58 = .ok (.istore 5, 2) := by decide +kernel
theorem dX2_explain_60 : decode cX2_explain 60 = .ok (.iload 5, 2) := by decide +kernel
theorem dX2_explain_62 : decode cX2_explain 62 = .ok (.sipush 256, 3) := by decide +kernel
theorem dX2_explain_65 : decode cX2_explain 65 = .ok (.if_icmp .ge 36, 3) := by decide +kernel
theorem dX2_explain_68 : decode cX2_explain 68 = .ok (.iload 5, 2) := by decide +kernel
theorem dX2_explain_70 : decode cX2_explain 70 = .ok (.iload_n 2, 1) := by decide +kernel
theorem dX2_explain_71 : decode cX2_explain 71 = .ok (.iconst (-1), 1) := by decide +kernel
theorem dX2_explain_72 : decode cX2_explain 72 = .ok (.ixor, 1) := by decide +kernel
theorem dX2_explain_73 : decode cX2_explain 73 = .ok (.iand, 1) := by decide +kernel
theorem dX2_explain_74 : decode cX2_explain 74 = .ok (.ifCond .ne 21, 3) := by decide +kernel
theorem dX2_explain_77 : decode cX2_explain 77 = .ok (.aload_n 0, 1) := by decide +kernel
theorem dX2_explain_78 : decode cX2_explain 78 = .ok (.iload 5, 2) := by decide +kernel
theorem dX2_explain_80 : decode cX2_explain 80 = .ok (.iload_n 3, 1) := by decide +kernel
theorem dX2_explain_81 : decode cX2_explain 81 = .ok (.iload 4, 2) := by decide +kernel
theorem dX2_explain_83 : decode cX2_explain 83 = .ok (.invokevirtual 66, 3) := by decide +kernel
theorem dX2_explain_86 : decode cX2_explain 86 = .ok (.ifCond .eq 9, 3) := by decide +kernel
theorem dX2_explain_89 : decode cX2_explain 89 = .ok (.aload_n 0, 1) := by decide +kernel
theorem dX2_explain_90 : decode cX2_explain 90 = .ok (.iload 5, 2) := by decide +kernel
theorem dX2_explain_92 : decode cX2_explain 92 = .ok (.invokevirtual 70, 3) := by decide +kernel
theorem dX2_explain_95 : decode cX2_explain 95 = .ok (.iinc 5 1, 3) := by decide +kernel
theorem dX2_explain_98 : decode cX2_explain 98 = .ok (.goto (-38), 3) := by decide +kernel
theorem dX2_explain_101 : decode cX2_explain 101 = .ok (.return_, 1) := by decide +kernel
abbrev YX2_explain : li_Y := (yX2_explain, cX2_explain, 6, none)
theorem dX2_countSums_0 : decode cX2_countSums 0 = .ok (.iconst 0, 1) := by decide +kernel
theorem dX2_countSums_1 : decode cX2_countSums 1 = .ok (.istore_n 3, 1) := by decide +kernel
theorem dX2_countSums_2 : decode cX2_countSums 2 = .ok (.iconst 0, 1) := by decide +kernel
theorem dX2_countSums_3 : decode cX2_countSums 3 = .ok (.istore 4, 2) := by decide +kernel
theorem dX2_countSums_5 : decode cX2_countSums 5 = .ok (.iload 4, 2) := by decide +kernel
theorem dX2_countSums_7 : decode cX2_countSums 7 = .ok (.iload_n 2, 1) := by decide +kernel
theorem dX2_countSums_8 : decode cX2_countSums 8 = .ok (.if_icmp .gt 22, 3) := by decide +kernel
theorem dX2_countSums_11 : decode cX2_countSums 11 = .ok (.aload_n 0, 1) := by decide +kernel
theorem dX2_countSums_12 : decode cX2_countSums 12 = .ok (.iload_n 1, 1) := by decide +kernel
theorem dX2_countSums_13 : decode cX2_countSums 13 = .ok (.iload 4, 2) := by decide +kernel
theorem dX2_countSums_15 : decode cX2_countSums 15 = .ok (.invokevirtual 98, 3) := by decide +kernel
theorem dX2_countSums_18 : decode cX2_countSums 18 = .ok (.ifCond .eq 6, 3) := by decide +kernel
theorem dX2_countSums_21 : decode cX2_countSums 21 = .ok (.iinc 3 1, 3) := by decide +kernel
theorem dX2_countSums_24 : decode cX2_countSums 24 = .ok (.iinc 4 1, 3) := by decide +kernel
theorem dX2_countSums_27 : decode cX2_countSums 27 = .ok (.goto (-22), 3) := by decide +kernel
theorem dX2_countSums_30 : decode cX2_countSums 30 = .ok (.iload_n 3, 1) := by decide +kernel
theorem dX2_countSums_31 : decode cX2_countSums 31 = .ok (.ireturn, 1) := by decide +kernel
abbrev YX2_countSums : li_Y := (yX2_countSums, cX2_countSums, 5, (some .int))
theorem dX2_differentReadings_0 : decode cX2_differentReadings 0 = .ok (.aload_n 0, 1) := by decide +kernel
theorem dX2_differentReadings_1 : decode cX2_differentReadings 1 = .ok (.getfield 23, 3) := by decide +kernel
theorem dX2_differentReadings_4 : decode cX2_differentReadings 4 = .ok (.getfield 54, 3) := by decide +kernel
theorem dX2_differentReadings_7 : decode cX2_differentReadings 7 = .ok (.iload_n 1, 1) := by decide +kernel
theorem dX2_differentReadings_8 : decode cX2_differentReadings 8 = .ok (.invokestatic 59, 3) := by decide +kernel
theorem dX2_differentReadings_11 : decode cX2_differentReadings 11 = .ok (.sipush 7999, 3) := by decide +kernel
theorem dX2_differentReadings_14 : decode cX2_differentReadings 14 = .ok (.invokestatic 108, 3) := by decide +kernel
theorem dX2_differentReadings_17 : decode cX2_differentReadings 17 = .ok (.istore_n 2, 1) := by decide +kernel
theorem dX2_differentReadings_18 : decode cX2_differentReadings 18 = .ok (.iload_n 2, 1) := by decide +kernel
theorem dX2_differentReadings_19 : decode cX2_differentReadings 19 = .ok (.invokestatic 63, 3) := by decide +kernel
theorem dX2_differentReadings_22 : decode cX2_differentReadings 22 = .ok (.istore_n 3, 1) := by decide +kernel
theorem dX2_differentReadings_23 : decode cX2_differentReadings 23 = .ok (.aload_n 0, 1) := by decide +kernel
theorem dX2_differentReadings_24 : decode cX2_differentReadings 24 = .ok (.getfield 27, 3) := by decide +kernel
theorem dX2_differentReadings_27 : decode cX2_differentReadings 27 = .ok (.iload_n 1, 1) := by decide +kernel
theorem dX2_differentReadings_28 : decode cX2_differentReadings 28 = .ok (.invokevirtual 48, 3) := by decide +kernel
theorem dX2_differentReadings_31 : decode cX2_differentReadings 31 = .ok (.istore 4, 2) := by decide +kernel
theorem dX2_differentReadings_33 : decode cX2_differentReadings 33 = .ok (.aload_n 0, 1) := by decide +kernel
theorem dX2_differentReadings_34 : decode cX2_differentReadings 34 = .ok (.iconst 0, 1) := by decide +kernel
theorem dX2_differentReadings_35 : decode cX2_differentReadings 35 = .ok (.iload_n 3, 1) := by decide +kernel
theorem dX2_differentReadings_36 : decode cX2_differentReadings 36 = .ok (.invokevirtual 83, 3) := by decide +kernel
theorem dX2_differentReadings_39 : decode cX2_differentReadings 39 = .ok (.aload_n 0, 1) := by decide +kernel
theorem dX2_differentReadings_40 : decode cX2_differentReadings 40 = .ok (.getfield 15, 3) := by decide +kernel
theorem dX2_differentReadings_43 : decode cX2_differentReadings 43 = .ok (.iconst 0, 1) := by decide +kernel
theorem dX2_differentReadings_44 : decode cX2_differentReadings 44 = .ok (.lconst 1, 1) := by decide +kernel
theorem dX2_differentReadings_45 : decode cX2_differentReadings 45 = .ok (.invokestatic 87, 3) := by decide +kernel
theorem dX2_differentReadings_48 : decode cX2_differentReadings 48 = .ok (.iconst 0, 1) := by decide +kernel
theorem dX2_differentReadings_49 : decode cX2_differentReadings 49 = .ok (.istore 5, 2) := by decide +kernel
theorem dX2_differentReadings_51 : decode cX2_differentReadings 51 = .ok (.iconst 0, 1) := by decide +kernel
theorem dX2_differentReadings_52 : decode cX2_differentReadings 52 = .ok (.istore 6, 2) := by decide +kernel
theorem dX2_differentReadings_54 : decode cX2_differentReadings 54 = .ok (.iload 6, 2) := by decide +kernel
theorem dX2_differentReadings_56 : decode cX2_differentReadings 56 = .ok (.aload_n 0, 1) := by decide +kernel
theorem dX2_differentReadings_57 : decode cX2_differentReadings 57 = .ok (.getfield 19, 3) := by decide +kernel
theorem dX2_differentReadings_60 : decode cX2_differentReadings 60 = .ok (.getfield 114, 3) := by decide +kernel
theorem dX2_differentReadings_63 : decode cX2_differentReadings 63 = .ok (.if_icmp .ge 62, 3) := by decide +kernel
theorem dX2_differentReadings_66 : decode cX2_differentReadings 66 = .ok (.iload 4, 2) := by decide +kernel
theorem dX2_differentReadings_68 : decode cX2_differentReadings 68 = .ok (.iload 6, 2) := by decide +kernel
theorem dX2_differentReadings_70 : decode cX2_differentReadings 70 = .ok (.invokestatic 119, 3) := by decide +kernel
theorem dX2_differentReadings_73 : decode cX2_differentReadings 73 = .ok (.ifCond .eq 46, 3) := by decide +kernel
theorem dX2_differentReadings_76 : decode cX2_differentReadings 76 = .ok (.aload_n 0, 1) := by decide +kernel
theorem dX2_differentReadings_77 : decode cX2_differentReadings 77 = .ok (.iload 5, 2) := by decide +kernel
theorem dX2_differentReadings_79 : decode cX2_differentReadings 79 = .ok (.iconst 1, 1) := by decide +kernel
theorem dX2_differentReadings_80 : decode cX2_differentReadings 80 = .ok (.iadd, 1) := by decide +kernel
theorem dX2_differentReadings_81 : decode cX2_differentReadings 81 = .ok (.iload_n 3, 1) := by decide +kernel
theorem dX2_differentReadings_82 : decode cX2_differentReadings 82 = .ok (.invokevirtual 83, 3) := by decide +kernel
theorem dX2_differentReadings_85 : decode cX2_differentReadings 85 = .ok (.aload_n 0, 1) := by decide +kernel
theorem dX2_differentReadings_86 : decode cX2_differentReadings 86 = .ok (.iload 5, 2) := by decide +kernel
theorem dX2_differentReadings_88 : decode cX2_differentReadings 88 = .ok (.bipush 125, 2) := by decide +kernel
theorem dX2_differentReadings_90 : decode cX2_differentReadings 90 = .ok (.imul, 1) := by decide +kernel
theorem dX2_differentReadings_91 : decode cX2_differentReadings 91 = .ok (.iload 5, 2) := by decide +kernel
theorem dX2_differentReadings_93 : decode cX2_differentReadings 93 = .ok (.iconst 1, 1) := by decide +kernel
theorem dX2_differentReadings_94 : decode cX2_differentReadings 94 = .ok (.iadd, 1) := by decide +kernel
theorem dX2_differentReadings_95 : decode cX2_differentReadings 95 = .ok (.bipush 125, 2) := by decide +kernel
theorem dX2_differentReadings_97 : decode cX2_differentReadings 97 = .ok (.imul, 1) := by decide +kernel
theorem dX2_differentReadings_98 : decode cX2_differentReadings 98 = .ok (.iconst 0, 1) := by decide +kernel
theorem dX2_differentReadings_99 : decode cX2_differentReadings 99 = .ok (.iload_n 3, 1) := by decide +kernel
theorem dX2_differentReadings_100 : decode cX2_differentReadings 100 = .ok (.invokevirtual 105, 3) := by decide +kernel
theorem dX2_differentReadings_103 : decode cX2_differentReadings 103 = .ok (.aload_n 0, 1) := by decide +kernel
theorem dX2_differentReadings_104 : decode cX2_differentReadings 104 = .ok (.iload 5, 2) := by decide +kernel
theorem dX2_differentReadings_106 : decode cX2_differentReadings 106 = .ok (.iload 5, 2) := by decide +kernel
theorem dX2_differentReadings_108 : decode cX2_differentReadings 108 = .ok (.iconst 1, 1) := by decide +kernel
theorem dX2_differentReadings_109 : decode cX2_differentReadings 109 = .ok (.iadd, 1) := by decide +kernel
theorem dX2_differentReadings_110 : decode cX2_differentReadings 110 = .ok (.iload 6, 2) := by decide +kernel
theorem dX2_differentReadings_112 : decode cX2_differentReadings 112 = .ok (.iload_n 3, 1) := by decide +kernel
theorem dX2_differentReadings_113 : decode cX2_differentReadings 113 = .ok (.invokevirtual 94, 3) := by decide +kernel
theorem dX2_differentReadings_116 : decode cX2_differentReadings 116 = .ok (.iinc 5 1, 3) := by decide +kernel
theorem dX2_differentReadings_119 : decode cX2_differentReadings 119 = .ok (.iinc 6 1, 3) := by decide +kernel
theorem dX2_differentReadings_122 : decode cX2_differentReadings 122 = .ok (.goto (-68), 3) := by decide +kernel
theorem dX2_differentReadings_125 : decode cX2_differentReadings 125 = .ok (.aload_n 0, 1) := by decide +kernel
theorem dX2_differentReadings_126 : decode cX2_differentReadings 126 = .ok (.iload 5, 2) := by decide +kernel
theorem dX2_differentReadings_128 : decode cX2_differentReadings 128 = .ok (.iload_n 2, 1) := by decide +kernel
theorem dX2_differentReadings_129 : decode cX2_differentReadings 129 = .ok (.invokevirtual 122, 3) := by decide +kernel
theorem dX2_differentReadings_132 : decode cX2_differentReadings 132 = .ok (.ireturn, 1) := by decide +kernel
abbrev YX2_differentReadings : li_Y := (yX2_differentReadings, cX2_differentReadings, 7, (some .int))
set_option maxRecDepth 100000 in
set_option maxHeartbeats 4000000 in
theorem k_X2_hasSum {l : Launch} {Z : li_Z} (d : Nat) (hd : 2 ≤ d) (p1 : Int32) (p2 : Int32) (M0 : li_M) : li_Met l Z YX2_hasSum d [.ref (Z.2.2 171), .int p1, .int p2] M0 (li_SZ (fun i => False) M0) := by
  refine li_enter (by decide +kernel) (Nat.le_of_ble_eq_true rfl) ?_
  show li_T l Z YX2_hasSum d 0 [(0, .ref (Z.2.2 171)), (1, .int p1), (2, .int p2)] [] M0 _
  have hf : li_fr (fun i => False) M0 M0 := li_fr_refl
  refine li_aload_n 0 dX2_hasSum_0 rfl ?_
  refine li_getr (k := 4) (N := 9) (T := TX2) (C0 := RX2) dX2_hasSum_1 (by decide) sh_171 rfl rfl (by decide) (by decide) li_in2 w_445 ?_
  refine li_iload_n 1 dX2_hasSum_4 rfl ?_
  refine li_bipush 125 dX2_hasSum_5 (by decide) ?_
  refine li_imul dX2_hasSum_7 ?_
  refine li_top (fun x1 ex1 => ?_)
  refine li_iload_n 2 dX2_hasSum_8 rfl ?_
  refine li_bipush 64 dX2_hasSum_9 (by decide) ?_
  refine li_idiv dX2_hasSum_11 (by decide) ?_
  refine li_top (fun x2 ex2 => ?_)
  refine li_iadd dX2_hasSum_12 ?_
  refine li_top (fun x3 ex3 => ?_)
  refine li_callN (n := 2) (As := [.ref (Z.2.2 173), .int x3]) dX2_hasSum_13 (k_X11_wordAt (d - 1) (by omega) (by decide) sh_173 (by decide) x3 M0) (by omega) (Nat.le_of_ble_eq_true rfl) nw_35 w_919 w_101 w_920 (by decide +kernel) rfl rfl (Nat.le_of_ble_eq_true rfl) (fun r M5 h6 => ?_)
  obtain ⟨⟨x4, rfl⟩, h6⟩ := h6
  have hf := li_fr_trans hf h6 (fun i h => False.elim h)
  refine li_iload_n 2 dX2_hasSum_16 rfl ?_
  refine li_bipush 64 dX2_hasSum_17 (by decide) ?_
  refine li_irem dX2_hasSum_19 (by decide) ?_
  refine li_top (fun x7 ex7 => ?_)
  refine li_lushr dX2_hasSum_20 ?_
  refine li_topL (fun x8 ex8 => ?_)
  refine li_lconst 1 dX2_hasSum_21 (by decide) ?_
  refine li_land dX2_hasSum_22 ?_
  refine li_topL (fun x9 ex9 => ?_)
  refine li_lconst 0 dX2_hasSum_23 (by decide) ?_
  refine li_lcmp dX2_hasSum_24 ?_
  refine li_top (fun x10 ex10 => ?_)
  refine li_if_eq 32 dX2_hasSum_25 (by decide) (fun c11 => ?_) (fun c11 => ?_)
  · refine li_iconst 0 dX2_hasSum_32 (by decide) ?_
    exact li_iret dX2_hasSum_33 rfl (li_nz (Or.inl rfl)) ⟨⟨_, rfl, Or.inl rfl⟩, hf⟩
  · refine li_iconst 1 dX2_hasSum_28 (by decide) ?_
    refine li_goto 33 dX2_hasSum_29 (by decide) ?_
    exact li_iret dX2_hasSum_33 rfl (li_nz (Or.inr rfl)) ⟨⟨_, rfl, Or.inr rfl⟩, hf⟩
set_option maxRecDepth 100000 in
set_option maxHeartbeats 4000000 in
theorem k_X2_clearSums {l : Launch} {Z : li_Z} (d : Nat) (hd : 2 ≤ d) (p1 : Int32) (p2 : Int32) (M0 : li_M) : li_Met l Z YX2_clearSums d [.ref (Z.2.2 171), .int p1, .int p2] M0 (li_SV (fun i => i = 173) M0) := by
  refine li_enter (by decide +kernel) (Nat.le_of_ble_eq_true rfl) ?_
  show li_T l Z YX2_clearSums d 0 [(0, .ref (Z.2.2 171)), (1, .int p1), (2, .int p2)] [] M0 _
  have hf : li_fr (fun i => i = 173) M0 M0 := li_fr_refl
  refine li_iconst 0 dX2_clearSums_0 (by decide) ?_
  refine li_istore_n [(3, .int 0), (0, .ref (Z.2.2 171)), (1, .int p1), (2, .int p2)] dX2_clearSums_1 (by decide) rfl ?_
  have L2 : ∀ (n : Nat) (x1 : Int32) (M2 : li_M), (2147483647 - (x1 : Int32).toInt).toNat < n → li_fr (fun i => i = 173) M0 M2 → li_T l Z YX2_clearSums d 2 [(3, .int x1), (0, .ref (Z.2.2 171)), (1, .int p1), (2, .int p2)] [] M2 (li_SV (fun i => i = 173) M0) := by
    intro n
    induction n with
    | zero => intro x1 M2 hn; exact absurd hn (Nat.not_lt_zero _)
    | succ n ih2 =>
      intro x1 M2 hn hf
      refine li_iload_n 0 dX2_clearSums_2 rfl ?_
      refine li_iload_n 3 dX2_clearSums_3 rfl ?_
      refine li_icmp_ge 27 dX2_clearSums_4 (by decide) (fun c3 => ?_) (fun c3 => ?_)
      · exact li_vret dX2_clearSums_27 rfl ⟨rfl, hf⟩
      · refine li_aload_n 1 dX2_clearSums_7 rfl ?_
        refine li_getr (k := 4) (N := 9) (T := TX2) (C0 := RX2) dX2_clearSums_8 (by decide) sh_171 rfl rfl (by decide) (by decide) li_in2 w_445 ?_
        refine li_iload_n 2 dX2_clearSums_11 rfl ?_
        refine li_bipush 125 dX2_clearSums_12 (by decide) ?_
        refine li_imul dX2_clearSums_14 ?_
        refine li_top (fun x4 ex4 => ?_)
        refine li_iload_n 0 dX2_clearSums_15 rfl ?_
        refine li_iadd dX2_clearSums_16 ?_
        refine li_top (fun x5 ex5 => ?_)
        refine li_lconst 0 dX2_clearSums_17 (by decide) ?_
        refine li_callN (n := 3) (As := [.ref (Z.2.2 173), .int x5, .long 0]) dX2_clearSums_18 (k_X11_putWord (d - 1) (by omega) (by decide) sh_173 (by decide) x5 0 M2) (by omega) (Nat.le_of_ble_eq_true rfl) nw_34 w_903 w_101 w_904 (by decide +kernel) rfl rfl (Nat.le_of_ble_eq_true rfl) (fun r M7 h8 => ?_)
        obtain ⟨rfl, h8⟩ := h8
        have hf := li_fr_trans hf h8 (fun i (h : i = 173) => (show i = 173 by omega))
        obtain ⟨x9, ex9⟩ : ∃ y : Int32, y = x1 + 1 := ⟨_, rfl⟩
        refine li_iinc 0 [(3, .int x9), (0, .ref (Z.2.2 171)), (1, .int p1), (2, .int p2)] x9 dX2_clearSums_21 rfl (by rw [ex9]; rfl) (by decide) rfl ?_
        refine li_goto 2 dX2_clearSums_24 (by decide) ?_
        refine li_pick [0, 1, 2, 3] [(3, .int x9), (0, .ref (Z.2.2 171)), (1, .int p1), (2, .int p2)] rfl ?_
        exact ih2 x9 M7 (by have h9 := li_up (li_gt c3); rw [← ex9] at h9; omega) hf
  exact L2 _ 0 M0 (Nat.lt_succ_self _) hf
set_option maxRecDepth 100000 in
set_option maxHeartbeats 4000000 in
theorem k_X2_addShifted {l : Launch} {Z : li_Z} (d : Nat) (hd : 2 ≤ d) (p1 : Int32) (p2 : Int32) (p3 : Int32) (p4 : Int32) (M0 : li_M) : li_Met l Z YX2_addShifted d [.ref (Z.2.2 171), .int p1, .int p2, .int p3, .int p4] M0 (li_SV (fun i => i = 173) M0) := by
  refine li_enter (by decide +kernel) (Nat.le_of_ble_eq_true rfl) ?_
  show li_T l Z YX2_addShifted d 0 [(0, .ref (Z.2.2 171)), (1, .int p1), (2, .int p2), (3, .int p3), (4, .int p4)] [] M0 _
  have hf : li_fr (fun i => i = 173) M0 M0 := li_fr_refl
  refine li_iload_n 3 dX2_addShifted_0 rfl ?_
  refine li_bipush 64 dX2_addShifted_1 (by decide) ?_
  refine li_idiv dX2_addShifted_3 (by decide) ?_
  refine li_top (fun x1 ex1 => ?_)
  refine li_istore [(5, .int x1), (0, .ref (Z.2.2 171)), (1, .int p1), (2, .int p2), (3, .int p3), (4, .int p4)] dX2_addShifted_4 (by decide) rfl ?_
  refine li_iload_n 4 dX2_addShifted_6 rfl ?_
  refine li_bipush 64 dX2_addShifted_7 (by decide) ?_
  refine li_irem dX2_addShifted_9 (by decide) ?_
  refine li_top (fun x2 ex2 => ?_)
  refine li_istore [(6, .int x2), (5, .int x1), (0, .ref (Z.2.2 171)), (1, .int p1), (2, .int p2), (3, .int p3), (4, .int p4)] dX2_addShifted_10 (by decide) rfl ?_
  refine li_iload 1 dX2_addShifted_12 rfl ?_
  refine li_istore [(7, .int x1), (6, .int x2), (5, .int x1), (0, .ref (Z.2.2 171)), (1, .int p1), (2, .int p2), (3, .int p3), (4, .int p4)] dX2_addShifted_14 (by decide) rfl ?_
  have L16 : ∀ (n : Nat) (x3 : Int32) (M4 : li_M), (2147483647 - (x3 : Int32).toInt).toNat < n → li_fr (fun i => i = 173) M0 M4 → li_T l Z YX2_addShifted d 16 [(7, .int x3), (6, .int x2), (5, .int x1), (0, .ref (Z.2.2 171)), (1, .int p1), (2, .int p2), (3, .int p3), (4, .int p4)] [] M4 (li_SV (fun i => i = 173) M0) := by
    intro n
    induction n with
    | zero => intro x3 M4 hn; exact absurd hn (Nat.not_lt_zero _)
    | succ n ih16 =>
      intro x3 M4 hn hf
      refine li_iload 0 dX2_addShifted_16 rfl ?_
      refine li_iload 7 dX2_addShifted_18 rfl ?_
      refine li_icmp_ge 112 dX2_addShifted_20 (by decide) (fun c5 => ?_) (fun c5 => ?_)
      · exact li_vret dX2_addShifted_112 rfl ⟨rfl, hf⟩
      · refine li_aload_n 3 dX2_addShifted_23 rfl ?_
        refine li_getr (k := 4) (N := 9) (T := TX2) (C0 := RX2) dX2_addShifted_24 (by decide) sh_171 rfl rfl (by decide) (by decide) li_in2 w_445 ?_
        refine li_iload_n 4 dX2_addShifted_27 rfl ?_
        refine li_iload 0 dX2_addShifted_28 rfl ?_
        refine li_iadd dX2_addShifted_30 ?_
        refine li_top (fun x6 ex6 => ?_)
        refine li_iload 2 dX2_addShifted_31 rfl ?_
        refine li_isub dX2_addShifted_33 ?_
        refine li_top (fun x7 ex7 => ?_)
        refine li_callN (n := 2) (As := [.ref (Z.2.2 173), .int x7]) dX2_addShifted_34 (k_X11_wordAt (d - 1) (by omega) (by decide) sh_173 (by decide) x7 M4) (by omega) (Nat.le_of_ble_eq_true rfl) nw_35 w_919 w_101 w_920 (by decide +kernel) rfl rfl (Nat.le_of_ble_eq_true rfl) (fun r M9 h10 => ?_)
        obtain ⟨⟨x8, rfl⟩, h10⟩ := h10
        have hf := li_fr_trans hf h10 (fun i h => False.elim h)
        refine li_iload 1 dX2_addShifted_37 rfl ?_
        refine li_lshl dX2_addShifted_39 ?_
        refine li_topL (fun x11 ex11 => ?_)
        refine li_lstore [(8, .long x11), (7, .int x3), (6, .int x2), (5, .int x1), (0, .ref (Z.2.2 171)), (1, .int p1), (2, .int p2), (3, .int p3), (4, .int p4)] dX2_addShifted_40 (by decide) rfl ?_
        refine li_iload 2 dX2_addShifted_42 rfl ?_
        have J81 : ∀ (x13 : Int64) (M14 : li_M), li_fr (fun i => i = 173) M0 M14 → li_T l Z YX2_addShifted d 81 [(8, .long x13), (7, .int x3), (6, .int x2), (5, .int x1), (0, .ref (Z.2.2 171)), (1, .int p1), (2, .int p2), (3, .int p3), (4, .int p4)] [] M14 (li_SV (fun i => i = 173) M0) := by
          intro x13 M14 hf
          refine li_aload_n 4 dX2_addShifted_81 rfl ?_
          refine li_getr (k := 4) (N := 9) (T := TX2) (C0 := RX2) dX2_addShifted_82 (by decide) sh_171 rfl rfl (by decide) (by decide) li_in2 w_445 ?_
          refine li_iload_n 6 dX2_addShifted_85 rfl ?_
          refine li_iload 1 dX2_addShifted_86 rfl ?_
          refine li_iadd dX2_addShifted_88 ?_
          refine li_top (fun x15 ex15 => ?_)
          refine li_aload_n 4 dX2_addShifted_89 rfl ?_
          refine li_getr (k := 4) (N := 9) (T := TX2) (C0 := RX2) dX2_addShifted_90 (by decide) sh_171 rfl rfl (by decide) (by decide) li_in2 w_445 ?_
          refine li_iload_n 6 dX2_addShifted_93 rfl ?_
          refine li_iload 1 dX2_addShifted_94 rfl ?_
          refine li_iadd dX2_addShifted_96 ?_
          refine li_top (fun x16 ex16 => ?_)
          refine li_callN (n := 2) (As := [.ref (Z.2.2 173), .int x16]) dX2_addShifted_97 (k_X11_wordAt (d - 1) (by omega) (by decide) sh_173 (by decide) x16 M14) (by omega) (Nat.le_of_ble_eq_true rfl) nw_35 w_919 w_101 w_920 (by decide +kernel) rfl rfl (Nat.le_of_ble_eq_true rfl) (fun r M18 h19 => ?_)
          obtain ⟨⟨x17, rfl⟩, h19⟩ := h19
          have hf := li_fr_trans hf h19 (fun i h => False.elim h)
          refine li_lload 0 dX2_addShifted_100 rfl ?_
          refine li_lor dX2_addShifted_102 ?_
          refine li_topL (fun x20 ex20 => ?_)
          refine li_callN (n := 3) (As := [.ref (Z.2.2 173), .int x15, .long x20]) dX2_addShifted_103 (k_X11_putWord (d - 1) (by omega) (by decide) sh_173 (by decide) x15 x20 M18) (by omega) (Nat.le_of_ble_eq_true rfl) nw_34 w_903 w_101 w_904 (by decide +kernel) rfl rfl (Nat.le_of_ble_eq_true rfl) (fun r M22 h23 => ?_)
          obtain ⟨rfl, h23⟩ := h23
          have hf := li_fr_trans hf h23 (fun i (h : i = 173) => (show i = 173 by omega))
          obtain ⟨x24, ex24⟩ : ∃ y : Int32, y = x3 + 1 := ⟨_, rfl⟩
          refine li_iinc 1 [(7, .int x24), (8, .long x13), (6, .int x2), (5, .int x1), (0, .ref (Z.2.2 171)), (1, .int p1), (2, .int p2), (3, .int p3), (4, .int p4)] x24 dX2_addShifted_106 rfl (by rw [ex24]; rfl) (by decide) rfl ?_
          refine li_goto 16 dX2_addShifted_109 (by decide) ?_
          refine li_pick [0, 2, 3, 4, 5, 6, 7, 8] [(7, .int x24), (6, .int x2), (5, .int x1), (0, .ref (Z.2.2 171)), (1, .int p1), (2, .int p2), (3, .int p3), (4, .int p4)] rfl ?_
          exact ih16 x24 M22 (by have h9 := li_up (li_gt c5); rw [← ex24] at h9; omega) hf
        refine li_if_le 81 dX2_addShifted_44 (by decide) (fun c12 => ?_) (fun c12 => ?_)
        · refine li_pick [0, 1, 2, 3, 4, 5, 6, 7, 8] [(8, .long x11), (7, .int x3), (6, .int x2), (5, .int x1), (0, .ref (Z.2.2 171)), (1, .int p1), (2, .int p2), (3, .int p3), (4, .int p4)] rfl ?_
          exact J81 x11 M9 hf
        · refine li_iload 1 dX2_addShifted_47 rfl ?_
          refine li_iload 3 dX2_addShifted_49 rfl ?_
          refine li_icmp_le 81 dX2_addShifted_51 (by decide) (fun c25 => ?_) (fun c25 => ?_)
          · refine li_pick [0, 1, 2, 3, 4, 5, 6, 7, 8] [(8, .long x11), (7, .int x3), (6, .int x2), (5, .int x1), (0, .ref (Z.2.2 171)), (1, .int p1), (2, .int p2), (3, .int p3), (4, .int p4)] rfl ?_
            exact J81 x11 M9 hf
          · refine li_lload 0 dX2_addShifted_54 rfl ?_
            refine li_aload_n 4 dX2_addShifted_56 rfl ?_
            refine li_getr (k := 4) (N := 9) (T := TX2) (C0 := RX2) dX2_addShifted_57 (by decide) sh_171 rfl rfl (by decide) (by decide) li_in2 w_445 ?_
            refine li_iload_n 5 dX2_addShifted_60 rfl ?_
            refine li_iload 1 dX2_addShifted_61 rfl ?_
            refine li_iadd dX2_addShifted_63 ?_
            refine li_top (fun x26 ex26 => ?_)
            refine li_iload 3 dX2_addShifted_64 rfl ?_
            refine li_isub dX2_addShifted_66 ?_
            refine li_top (fun x27 ex27 => ?_)
            refine li_iconst 1 dX2_addShifted_67 (by decide) ?_
            refine li_isub dX2_addShifted_68 ?_
            refine li_top (fun x28 ex28 => ?_)
            refine li_callN (n := 2) (As := [.ref (Z.2.2 173), .int x28]) dX2_addShifted_69 (k_X11_wordAt (d - 1) (by omega) (by decide) sh_173 (by decide) x28 M9) (by omega) (Nat.le_of_ble_eq_true rfl) nw_35 w_919 w_101 w_920 (by decide +kernel) rfl rfl (Nat.le_of_ble_eq_true rfl) (fun r M30 h31 => ?_)
            obtain ⟨⟨x29, rfl⟩, h31⟩ := h31
            have hf := li_fr_trans hf h31 (fun i h => False.elim h)
            refine li_bipush 64 dX2_addShifted_72 (by decide) ?_
            refine li_iload 2 dX2_addShifted_74 rfl ?_
            refine li_isub dX2_addShifted_76 ?_
            refine li_top (fun x32 ex32 => ?_)
            refine li_lushr dX2_addShifted_77 ?_
            refine li_topL (fun x33 ex33 => ?_)
            refine li_lor dX2_addShifted_78 ?_
            refine li_topL (fun x34 ex34 => ?_)
            refine li_lstore [(8, .long x34), (7, .int x3), (6, .int x2), (5, .int x1), (0, .ref (Z.2.2 171)), (1, .int p1), (2, .int p2), (3, .int p3), (4, .int p4)] dX2_addShifted_79 (by decide) rfl ?_
            refine li_pick [0, 1, 2, 3, 4, 5, 6, 7, 8] [(8, .long x34), (7, .int x3), (6, .int x2), (5, .int x1), (0, .ref (Z.2.2 171)), (1, .int p1), (2, .int p2), (3, .int p3), (4, .int p4)] rfl ?_
            exact J81 x34 M30 hf
  exact L16 _ x1 M0 (Nat.lt_succ_self _) hf
set_option maxRecDepth 100000 in
set_option maxHeartbeats 4000000 in
theorem k_X2_addSpeech {l : Launch} {Z : li_Z} (d : Nat) (hd : 3 ≤ d) (p1 : Int32) (p2 : Int32) (p3 : Int32) (p4 : Int32) (M0 : li_M) : li_Met l Z YX2_addSpeech d [.ref (Z.2.2 171), .int p1, .int p2, .int p3, .int p4] M0 (li_SV (fun i => i = 173) M0) := by
  refine li_enter (by decide +kernel) (Nat.le_of_ble_eq_true rfl) ?_
  show li_T l Z YX2_addSpeech d 0 [(0, .ref (Z.2.2 171)), (1, .int p1), (2, .int p2), (3, .int p3), (4, .int p4)] [] M0 _
  have hf : li_fr (fun i => i = 173) M0 M0 := li_fr_refl
  refine li_iconst 0 dX2_addSpeech_0 (by decide) ?_
  refine li_istore [(5, .int 0), (0, .ref (Z.2.2 171)), (1, .int p1), (2, .int p2), (3, .int p3), (4, .int p4)] dX2_addSpeech_1 (by decide) rfl ?_
  have L3 : ∀ (n : Nat) (x1 : Int32) (M2 : li_M), (2147483647 - (x1 : Int32).toInt).toNat < n → li_fr (fun i => i = 173) M0 M2 → li_T l Z YX2_addSpeech d 3 [(5, .int x1), (0, .ref (Z.2.2 171)), (1, .int p1), (2, .int p2), (3, .int p3), (4, .int p4)] [] M2 (li_SV (fun i => i = 173) M0) := by
    intro n
    induction n with
    | zero => intro x1 M2 hn; exact absurd hn (Nat.not_lt_zero _)
    | succ n ih3 =>
      intro x1 M2 hn hf
      refine li_iload 0 dX2_addSpeech_3 rfl ?_
      refine li_iconst 4 dX2_addSpeech_5 (by decide) ?_
      refine li_icmp_ge 54 dX2_addSpeech_6 (by decide) (fun c3 => ?_) (fun c3 => ?_)
      · exact li_vret dX2_addSpeech_54 rfl ⟨rfl, hf⟩
      · refine li_aload_n 1 dX2_addSpeech_9 rfl ?_
        refine li_getr (k := 2) (N := 9) (T := TX2) (C0 := RX2) dX2_addSpeech_10 (by decide) sh_171 rfl rfl (by decide) (by decide) li_in2 w_443 ?_
        refine li_getr (k := 3) (N := 8) (T := TX0) (C0 := RX0) dX2_addSpeech_13 (by decide) sh_148 rfl rfl (by decide) (by decide) li_in0 w_372 ?_
        refine li_iload_n 4 dX2_addSpeech_16 rfl ?_
        refine li_iconst 4 dX2_addSpeech_17 (by decide) ?_
        refine li_imul dX2_addSpeech_18 ?_
        refine li_top (fun x4 ex4 => ?_)
        refine li_iload 0 dX2_addSpeech_19 rfl ?_
        refine li_iadd dX2_addSpeech_21 ?_
        refine li_top (fun x5 ex5 => ?_)
        refine li_callN (n := 2) (As := [.ref (Z.2.2 149), .int x5]) dX2_addSpeech_22 (k_X11_at (d - 1) (by omega) (by decide) sh_149 (by decide) x5 M2) (by omega) (Nat.le_of_ble_eq_true rfl) nw_33 w_569 w_101 w_570 (by decide +kernel) rfl rfl (Nat.le_of_ble_eq_true rfl) (fun r M7 h8 => ?_)
        obtain ⟨⟨x6, rfl⟩, h8⟩ := h8
        have hf := li_fr_trans hf h8 (fun i h => False.elim h)
        refine li_istore [(6, .int x6), (5, .int x1), (0, .ref (Z.2.2 171)), (1, .int p1), (2, .int p2), (3, .int p3), (4, .int p4)] dX2_addSpeech_25 (by decide) rfl ?_
        refine li_iload 0 dX2_addSpeech_27 rfl ?_
        have J48 : ∀  (M10 : li_M), li_fr (fun i => i = 173) M0 M10 → li_T l Z YX2_addSpeech d 48 [(6, .int x6), (5, .int x1), (0, .ref (Z.2.2 171)), (1, .int p1), (2, .int p2), (3, .int p3), (4, .int p4)] [] M10 (li_SV (fun i => i = 173) M0) := by
          intro  M10 hf
          obtain ⟨x11, ex11⟩ : ∃ y : Int32, y = x1 + 1 := ⟨_, rfl⟩
          refine li_iinc 1 [(5, .int x11), (6, .int x6), (0, .ref (Z.2.2 171)), (1, .int p1), (2, .int p2), (3, .int p3), (4, .int p4)] x11 dX2_addSpeech_48 rfl (by rw [ex11]; rfl) (by decide) rfl ?_
          refine li_goto 3 dX2_addSpeech_51 (by decide) ?_
          refine li_pick [0, 2, 3, 4, 5, 6] [(5, .int x11), (0, .ref (Z.2.2 171)), (1, .int p1), (2, .int p2), (3, .int p3), (4, .int p4)] rfl ?_
          exact ih3 x11 M10 (by have h9 := li_up (li_gt c3); rw [← ex11] at h9; omega) hf
        refine li_if_lt 48 dX2_addSpeech_29 (by decide) (fun c9 => ?_) (fun c9 => ?_)
        · refine li_pick [0, 1, 2, 3, 4, 5, 6] [(6, .int x6), (5, .int x1), (0, .ref (Z.2.2 171)), (1, .int p1), (2, .int p2), (3, .int p3), (4, .int p4)] rfl ?_
          exact J48  M7 hf
        · refine li_aload_n 2 dX2_addSpeech_32 rfl ?_
          refine li_iload_n 3 dX2_addSpeech_33 rfl ?_
          refine li_bipush 125 dX2_addSpeech_34 (by decide) ?_
          refine li_imul dX2_addSpeech_36 ?_
          refine li_top (fun x12 ex12 => ?_)
          refine li_iload_n 4 dX2_addSpeech_37 rfl ?_
          refine li_bipush 125 dX2_addSpeech_38 (by decide) ?_
          refine li_imul dX2_addSpeech_40 ?_
          refine li_top (fun x13 ex13 => ?_)
          refine li_iload 0 dX2_addSpeech_41 rfl ?_
          refine li_iload 6 dX2_addSpeech_43 rfl ?_
          refine li_callV (n := 4) (As := [.int x12, .int x13, .int x6, .int p4]) dX2_addSpeech_45 (k_X2_addShifted (d - 1) (by omega) x12 x13 x6 p4 M7) (by omega) (Nat.le_of_ble_eq_true rfl) w_1201 w_1203 w_35 w_111 w_1204 (by decide +kernel) rfl (by decide) sh_171 rfl rfl (Nat.le_of_ble_eq_true rfl) (fun r M15 h16 => ?_)
          obtain ⟨rfl, h16⟩ := h16
          have hf := li_fr_trans hf h16 (fun i (h : i = 173) => (show i = 173 by omega))
          refine li_pick [0, 1, 2, 3, 4, 5, 6] [(6, .int x6), (5, .int x1), (0, .ref (Z.2.2 171)), (1, .int p1), (2, .int p2), (3, .int p3), (4, .int p4)] rfl ?_
          exact J48  M15 hf
  exact L3 _ 0 M0 (Nat.lt_succ_self _) hf
set_option maxRecDepth 100000 in
set_option maxHeartbeats 4000000 in
theorem k_X2_canCost {l : Launch} {Z : li_Z} (d : Nat) (hd : 4 ≤ d) (p1 : Int32) (p2 : Int32) (p3 : Int32) (M0 : li_M) : li_Met l Z YX2_canCost d [.ref (Z.2.2 171), .int p1, .int p2, .int p3] M0 (li_SZ (fun i => i = 173) M0) := by
  refine li_enter (by decide +kernel) (Nat.le_of_ble_eq_true rfl) ?_
  show li_T l Z YX2_canCost d 0 [(0, .ref (Z.2.2 171)), (1, .int p1), (2, .int p2), (3, .int p3)] [] M0 _
  have hf : li_fr (fun i => i = 173) M0 M0 := li_fr_refl
  refine li_iload_n 1 dX2_canCost_0 rfl ?_
  refine li_callS (n := 1) (As := [.int p1]) dX2_canCost_1 (k_J6_bitCount_0f7a4 (d - 1) (by omega) p1 M0) (by omega) (Nat.le_of_ble_eq_true rfl) w_1190 w_822 w_123 w_823 (by decide +kernel) rfl rfl (Nat.le_of_ble_eq_true rfl) (fun r M2 h3 => ?_)
  obtain ⟨⟨x1, rfl⟩, h3⟩ := h3
  have hf := li_fr_trans hf h3 (fun i h => False.elim h)
  refine li_istore [(4, .int x1), (0, .ref (Z.2.2 171)), (1, .int p1), (2, .int p2), (3, .int p3)] dX2_canCost_4 (by decide) rfl ?_
  refine li_aload_n 1 dX2_canCost_6 rfl ?_
  refine li_iload 0 dX2_canCost_7 rfl ?_
  refine li_iload_n 4 dX2_canCost_9 rfl ?_
  refine li_callV (n := 2) (As := [.int x1, .int p3]) dX2_canCost_10 (k_X2_clearSums (d - 1) (by omega) x1 p3 M2) (by omega) (Nat.le_of_ble_eq_true rfl) w_1191 w_1193 w_33 w_111 w_1194 (by decide +kernel) rfl (by decide) sh_171 rfl rfl (Nat.le_of_ble_eq_true rfl) (fun r M5 h6 => ?_)
  obtain ⟨rfl, h6⟩ := h6
  have hf := li_fr_trans hf h6 (fun i (h : i = 173) => (show i = 173 by omega))
  refine li_iload 0 dX2_canCost_13 rfl ?_
  refine li_if_ne 30 dX2_canCost_15 (by decide) (fun c7 => ?_) (fun c7 => ?_)
  · refine li_aload_n 1 dX2_canCost_30 rfl ?_
    refine li_iload 0 dX2_canCost_31 rfl ?_
    refine li_iconst 1 dX2_canCost_33 (by decide) ?_
    refine li_isub dX2_canCost_34 ?_
    refine li_top (fun x8 ex8 => ?_)
    refine li_iload 0 dX2_canCost_35 rfl ?_
    refine li_iload_n 2 dX2_canCost_37 rfl ?_
    refine li_callS (n := 1) (As := [.int p1]) dX2_canCost_38 (k_J6_numberOfTrailingZeros_0f7a4 (d - 1) (by omega) p1 M5) (by omega) (Nat.le_of_ble_eq_true rfl) w_1196 w_1148 w_123 w_1149 (by decide +kernel) rfl rfl (Nat.le_of_ble_eq_true rfl) (fun r M10 h11 => ?_)
    obtain ⟨⟨x9, rfl⟩, h11⟩ := h11
    have hf := li_fr_trans hf h11 (fun i h => False.elim h)
    refine li_iload_n 4 dX2_canCost_41 rfl ?_
    refine li_callV (n := 4) (As := [.int x8, .int x1, .int x9, .int p3]) dX2_canCost_42 (k_X2_addSpeech (d - 1) (by omega) x8 x1 x9 p3 M10) (by omega) (Nat.le_of_ble_eq_true rfl) w_1197 w_1199 w_34 w_111 w_1200 (by decide +kernel) rfl (by decide) sh_171 rfl rfl (Nat.le_of_ble_eq_true rfl) (fun r M13 h14 => ?_)
    obtain ⟨rfl, h14⟩ := h14
    have hf := li_fr_trans hf h14 (fun i (h : i = 173) => (show i = 173 by omega))
    refine li_aload_n 1 dX2_canCost_45 rfl ?_
    refine li_iload 0 dX2_canCost_46 rfl ?_
    refine li_iload_n 3 dX2_canCost_48 rfl ?_
    refine li_callV (n := 2) (As := [.int x1, .int p2]) dX2_canCost_49 (k_X2_hasSum (d - 1) (by omega) x1 p2 M13) (by omega) (Nat.le_of_ble_eq_true rfl) w_1206 w_1208 w_36 w_111 w_1209 (by decide +kernel) rfl (by decide) sh_171 rfl rfl (Nat.le_of_ble_eq_true rfl) (fun r M16 h17 => ?_)
    obtain ⟨⟨x15, rfl, bx15⟩, h17⟩ := h17
    have hf := li_fr_trans hf h17 (fun i h => False.elim h)
    exact li_iret dX2_canCost_52 rfl (li_nz (bx15)) ⟨⟨_, rfl, bx15⟩, hf⟩
  · refine li_aload_n 1 dX2_canCost_18 rfl ?_
    refine li_getr (k := 4) (N := 9) (T := TX2) (C0 := RX2) dX2_canCost_19 (by decide) sh_171 rfl rfl (by decide) (by decide) li_in2 w_445 ?_
    refine li_iconst 0 dX2_canCost_22 (by decide) ?_
    refine li_lconst 1 dX2_canCost_23 (by decide) ?_
    refine li_callN (n := 3) (As := [.ref (Z.2.2 173), .int 0, .long 1]) dX2_canCost_24 (k_X11_putWord (d - 1) (by omega) (by decide) sh_173 (by decide) 0 1 M5) (by omega) (Nat.le_of_ble_eq_true rfl) nw_34 w_903 w_101 w_904 (by decide +kernel) rfl rfl (Nat.le_of_ble_eq_true rfl) (fun r M19 h20 => ?_)
    obtain ⟨rfl, h20⟩ := h20
    have hf := li_fr_trans hf h20 (fun i (h : i = 173) => (show i = 173 by omega))
    refine li_goto 45 dX2_canCost_27 (by decide) ?_
    refine li_aload_n 1 dX2_canCost_45 rfl ?_
    refine li_iload 0 dX2_canCost_46 rfl ?_
    refine li_iload_n 3 dX2_canCost_48 rfl ?_
    refine li_callV (n := 2) (As := [.int x1, .int p2]) dX2_canCost_49 (k_X2_hasSum (d - 1) (by omega) x1 p2 M19) (by omega) (Nat.le_of_ble_eq_true rfl) w_1206 w_1208 w_36 w_111 w_1209 (by decide +kernel) rfl (by decide) sh_171 rfl rfl (Nat.le_of_ble_eq_true rfl) (fun r M22 h23 => ?_)
    obtain ⟨⟨x21, rfl, bx21⟩, h23⟩ := h23
    have hf := li_fr_trans hf h23 (fun i h => False.elim h)
    exact li_iret dX2_canCost_52 rfl (li_nz (bx21)) ⟨⟨_, rfl, bx21⟩, hf⟩
set_option maxRecDepth 100000 in
set_option maxHeartbeats 4000000 in
theorem k_X2_countSums {l : Launch} {Z : li_Z} (d : Nat) (hd : 3 ≤ d) (p1 p2 : Int32) (h2 : p2.toInt ≤ 7999) (M0 : li_M) : li_Met l Z YX2_countSums d [.ref (Z.2.2 171), .int p1, .int p2] M0 (li_SI (fun i => False) M0) := by
  refine li_enter (by decide +kernel) (Nat.le_of_ble_eq_true rfl) ?_
  show li_T l Z YX2_countSums d 0 [(0, .ref (Z.2.2 171)), (1, .int p1), (2, .int p2)] [] M0 _
  have hf : li_fr (fun i => False) M0 M0 := li_fr_refl
  have gp1 := tl_rg p1
  have gp2 := tl_rg p2
  refine li_iconst 0 dX2_countSums_0 (by decide) ?_
  refine li_istore_n [(3, .int 0), (0, .ref (Z.2.2 171)), (1, .int p1), (2, .int p2)] dX2_countSums_1 (by decide) rfl ?_
  refine li_iconst 0 dX2_countSums_2 (by decide) ?_
  refine li_istore [(4, .int 0), (3, .int 0), (0, .ref (Z.2.2 171)), (1, .int p1), (2, .int p2)] dX2_countSums_3 (by decide) rfl ?_
  have L5 : ∀ (n : Nat) (x1 : Int32) (x2 : Int32) (M3 : li_M), (8001 - (x1 : Int32).toInt).toNat < n → li_fr (fun i => False) M0 M3 → li_T l Z YX2_countSums d 5 [(4, .int x1), (3, .int x2), (0, .ref (Z.2.2 171)), (1, .int p1), (2, .int p2)] [] M3 (li_SI (fun i => False) M0) := by
    intro n
    induction n with
    | zero => intro x1 x2 M3 hn; exact absurd hn (Nat.not_lt_zero _)
    | succ n ih5 =>
      intro x1 x2 M3 hn hf
      have gx1 := tl_rg x1
      have gx2 := tl_rg x2
      refine li_iload 0 dX2_countSums_5 rfl ?_
      refine li_iload_n 4 dX2_countSums_7 rfl ?_
      refine li_icmp_gt 30 dX2_countSums_8 (by decide) (fun c4 => ?_) (fun c4 => ?_)
      · have tc4 : p2.toInt < x1.toInt := tl_lt c4
        refine li_iload_n 1 dX2_countSums_30 rfl ?_
        exact li_iret dX2_countSums_31 rfl rfl ⟨⟨_, rfl⟩, hf⟩
      · have tc4 : x1.toInt ≤ p2.toInt := tl_nlt c4
        refine li_aload_n 2 dX2_countSums_11 rfl ?_
        refine li_iload_n 3 dX2_countSums_12 rfl ?_
        refine li_iload 0 dX2_countSums_13 rfl ?_
        refine li_callV (n := 2) (As := [.int p1, .int x1]) dX2_countSums_15 (k_X2_hasSum (d - 1) (by omega) p1 x1 M3) (by omega) (Nat.le_of_ble_eq_true rfl) w_1206 w_1208 w_36 w_111 w_1209 (by decide +kernel) rfl (by decide) sh_171 rfl rfl (Nat.le_of_ble_eq_true rfl) (fun r M6 h7 => ?_)
        obtain ⟨⟨x5, rfl, bx5⟩, h7⟩ := h7
        have ux5 := tl_b bx5
        have hf := li_fr_trans hf h7 (fun i h => False.elim h)
        have J24 : ∀ (x9 : Int32) (M10 : li_M), li_fr (fun i => False) M0 M10 → li_T l Z YX2_countSums d 24 [(4, .int x1), (3, .int x9), (0, .ref (Z.2.2 171)), (1, .int p1), (2, .int p2)] [] M10 (li_SI (fun i => False) M0) := by
          intro x9 M10 hf
          have gx9 := tl_rg x9
          obtain ⟨x11, ex11⟩ : ∃ y : Int32, y = x1 + 1 := ⟨_, rfl⟩
          have tx11 : (-2147483648 ≤ x1.toInt + 1 ∧ x1.toInt + 1 ≤ 2147483647) → x11.toInt = x1.toInt + 1 := tl_add ex11
          refine li_iinc 0 [(4, .int x11), (3, .int x9), (0, .ref (Z.2.2 171)), (1, .int p1), (2, .int p2)] x11 dX2_countSums_24 rfl (by rw [ex11]; rfl) (by decide) rfl ?_
          refine li_goto 5 dX2_countSums_27 (by decide) ?_
          refine li_pick [0, 1, 2, 3, 4] [(4, .int x11), (3, .int x9), (0, .ref (Z.2.2 171)), (1, .int p1), (2, .int p2)] rfl ?_
          exact ih5 x11 x9 M10 (by omega) hf
        refine li_if_eq 24 dX2_countSums_18 (by decide) (fun c8 => ?_) (fun c8 => ?_)
        · have tc8 : x5.toInt = 0 := tl_eq c8
          refine li_pick [0, 1, 2, 3, 4] [(4, .int x1), (3, .int x2), (0, .ref (Z.2.2 171)), (1, .int p1), (2, .int p2)] rfl ?_
          exact J24 x2 M6 hf
        · have tc8 : ¬ x5.toInt = 0 := tl_ne c8
          obtain ⟨x12, ex12⟩ : ∃ y : Int32, y = x2 + 1 := ⟨_, rfl⟩
          have tx12 : (-2147483648 ≤ x2.toInt + 1 ∧ x2.toInt + 1 ≤ 2147483647) → x12.toInt = x2.toInt + 1 := tl_add ex12
          refine li_iinc 1 [(3, .int x12), (4, .int x1), (0, .ref (Z.2.2 171)), (1, .int p1), (2, .int p2)] x12 dX2_countSums_21 rfl (by rw [ex12]; rfl) (by decide) rfl ?_
          refine li_pick [1, 0, 2, 3, 4] [(4, .int x1), (3, .int x12), (0, .ref (Z.2.2 171)), (1, .int p1), (2, .int p2)] rfl ?_
          exact J24 x12 M6 hf
  have z0 : (0 : Int32).toInt = 0 := rfl
  have z0 : (0 : Int32).toInt = 0 := rfl
  exact L5 _ 0 0 M0 (Nat.lt_succ_self _) hf
set_option maxRecDepth 100000 in
set_option maxHeartbeats 4000000 in
theorem k_X2_differentReadings {l : Launch} {Z : li_Z} (d : Nat) (hd : 5 ≤ d) (p1 : Int32) (M0 : li_M) : li_Met l Z YX2_differentReadings d [.ref (Z.2.2 171), .int p1] M0 (li_SI (fun i => i = 173) M0) := by
  refine li_enter (by decide +kernel) (Nat.le_of_ble_eq_true rfl) ?_
  show li_T l Z YX2_differentReadings d 0 [(0, .ref (Z.2.2 171)), (1, .int p1)] [] M0 _
  have hf : li_fr (fun i => i = 173) M0 M0 := li_fr_refl
  have gp1 := tl_rg p1
  refine li_aload_n 0 dX2_differentReadings_0 rfl ?_
  refine li_getr (k := 1) (N := 9) (T := TX2) (C0 := RX2) dX2_differentReadings_1 (by decide) sh_171 rfl rfl (by decide) (by decide) li_in2 w_442 ?_
  refine li_getr (k := 4) (N := 11) (T := TX4) (C0 := RX4) dX2_differentReadings_4 (by decide) sh_13 rfl rfl (by decide) (by decide) li_in4 w_240 ?_
  refine li_iload_n 1 dX2_differentReadings_7 rfl ?_
  refine li_callN (n := 2) (As := [.ref (Z.2.2 14), .int p1]) dX2_differentReadings_8 (k_X11_at (d - 1) (by omega) (by decide) sh_14 (by decide) p1 M0) (by omega) (Nat.le_of_ble_eq_true rfl) nw_33 w_569 w_101 w_570 (by decide +kernel) rfl rfl (Nat.le_of_ble_eq_true rfl) (fun r M2 h3 => ?_)
  obtain ⟨⟨x1, rfl⟩, h3⟩ := h3
  have gx1 := tl_rg x1
  have hf := li_fr_trans hf h3 (fun i h => False.elim h)
  refine li_sipush 7999 dX2_differentReadings_11 (by decide) ?_
  refine li_mmin dX2_differentReadings_14 (by omega) w_1222 w_726 w_113 w_727 (Nat.le_of_ble_eq_true rfl) ?_
  refine li_top (fun x4 ex4 => ?_)
  have tx4 : (7999 < x1.toInt → x4.toInt = 7999) ∧ (x1.toInt ≤ 7999 → x4.toInt = x1.toInt) := tl_min ex4
  refine li_istore_n [(2, .int x4), (0, .ref (Z.2.2 171)), (1, .int p1)] dX2_differentReadings_17 (by decide) rfl ?_
  refine li_iload_n 0 dX2_differentReadings_18 rfl ?_
  refine li_callS (n := 1) (As := [.int x4]) dX2_differentReadings_19 (k_X2_wordsFor (d - 1) (by omega) x4 M2) (by omega) (Nat.le_of_ble_eq_true rfl) w_1183 w_1184 w_111 w_1185 (by decide +kernel) rfl rfl (Nat.le_of_ble_eq_true rfl) (fun r M6 h7 => ?_)
  obtain ⟨⟨x5, rfl⟩, h7⟩ := h7
  have gx5 := tl_rg x5
  have hf := li_fr_trans hf h7 (fun i h => False.elim h)
  refine li_istore_n [(3, .int x5), (2, .int x4), (0, .ref (Z.2.2 171)), (1, .int p1)] dX2_differentReadings_22 (by decide) rfl ?_
  refine li_aload_n 2 dX2_differentReadings_23 rfl ?_
  refine li_getr (k := 2) (N := 9) (T := TX2) (C0 := RX2) dX2_differentReadings_24 (by decide) sh_171 rfl rfl (by decide) (by decide) li_in2 w_443 ?_
  refine li_iload_n 3 dX2_differentReadings_27 rfl ?_
  refine li_callV (n := 1) (As := [.int p1]) dX2_differentReadings_28 (k_X0_openThingsOf (d - 1) (by omega) cob_148 p1 M6) (by omega) (Nat.le_of_ble_eq_true rfl) w_1181 w_1000 w_1001 w_109 w_1002 (by decide +kernel) rfl (by decide) sh_148 rfl rfl (Nat.le_of_ble_eq_true rfl) (fun r M9 h10 => ?_)
  obtain ⟨⟨x8, rfl⟩, h10⟩ := h10
  have gx8 := tl_rg x8
  have hf := li_fr_trans hf h10 (fun i h => False.elim h)
  refine li_istore [(4, .int x8), (3, .int x5), (2, .int x4), (0, .ref (Z.2.2 171)), (1, .int p1)] dX2_differentReadings_31 (by decide) rfl ?_
  refine li_aload_n 3 dX2_differentReadings_33 rfl ?_
  refine li_iconst 0 dX2_differentReadings_34 (by decide) ?_
  refine li_iload_n 1 dX2_differentReadings_35 rfl ?_
  refine li_callV (n := 2) (As := [.int 0, .int x5]) dX2_differentReadings_36 (k_X2_clearSums (d - 1) (by omega) 0 x5 M9) (by omega) (Nat.le_of_ble_eq_true rfl) w_1191 w_1193 w_33 w_111 w_1194 (by decide +kernel) rfl (by decide) sh_171 rfl rfl (Nat.le_of_ble_eq_true rfl) (fun r M12 h13 => ?_)
  obtain ⟨rfl, h13⟩ := h13
  have hf := li_fr_trans hf h13 (fun i (h : i = 173) => (show i = 173 by omega))
  refine li_aload_n 3 dX2_differentReadings_39 rfl ?_
  refine li_getr (k := 4) (N := 9) (T := TX2) (C0 := RX2) dX2_differentReadings_40 (by decide) sh_171 rfl rfl (by decide) (by decide) li_in2 w_445 ?_
  refine li_iconst 0 dX2_differentReadings_43 (by decide) ?_
  refine li_lconst 1 dX2_differentReadings_44 (by decide) ?_
  refine li_callN (n := 3) (As := [.ref (Z.2.2 173), .int 0, .long 1]) dX2_differentReadings_45 (k_X11_putWord (d - 1) (by omega) (by decide) sh_173 (by decide) 0 1 M12) (by omega) (Nat.le_of_ble_eq_true rfl) nw_34 w_903 w_101 w_904 (by decide +kernel) rfl rfl (Nat.le_of_ble_eq_true rfl) (fun r M15 h16 => ?_)
  obtain ⟨rfl, h16⟩ := h16
  have hf := li_fr_trans hf h16 (fun i (h : i = 173) => (show i = 173 by omega))
  refine li_iconst 0 dX2_differentReadings_48 (by decide) ?_
  refine li_istore [(5, .int 0), (4, .int x8), (3, .int x5), (2, .int x4), (0, .ref (Z.2.2 171)), (1, .int p1)] dX2_differentReadings_49 (by decide) rfl ?_
  refine li_iconst 0 dX2_differentReadings_51 (by decide) ?_
  refine li_istore [(6, .int 0), (5, .int 0), (4, .int x8), (3, .int x5), (2, .int x4), (0, .ref (Z.2.2 171)), (1, .int p1)] dX2_differentReadings_52 (by decide) rfl ?_
  have L54 : ∀ (n : Nat) (x17 : Int32) (x18 : Int32) (M19 : li_M), (2147483647 - (x17 : Int32).toInt).toNat < n → li_fr (fun i => i = 173) M0 M19 → li_T l Z YX2_differentReadings d 54 [(6, .int x17), (5, .int x18), (4, .int x8), (3, .int x5), (2, .int x4), (0, .ref (Z.2.2 171)), (1, .int p1)] [] M19 (li_SI (fun i => i = 173) M0) := by
    intro n
    induction n with
    | zero => intro x17 x18 M19 hn; exact absurd hn (Nat.not_lt_zero _)
    | succ n ih54 =>
      intro x17 x18 M19 hn hf
      have gx17 := tl_rg x17
      have gx18 := tl_rg x18
      refine li_iload 0 dX2_differentReadings_54 rfl ?_
      refine li_aload_n 5 dX2_differentReadings_56 rfl ?_
      refine li_getr (k := 0) (N := 9) (T := TX2) (C0 := RX2) dX2_differentReadings_57 (by decide) sh_171 rfl rfl (by decide) (by decide) li_in2 w_441 ?_
      refine li_geti (k := 1) (N := 9) (T := TX8) (C0 := RX8) dX2_differentReadings_60 (by decide) sh_5 rfl rfl (by decide) li_in8 w_182 ?_
      refine li_top (fun x20 ex20 => ?_)
      have gx20 := tl_rg x20
      refine li_icmp_ge 125 dX2_differentReadings_63 (by decide) (fun c21 => ?_) (fun c21 => ?_)
      · have tc21 : x20.toInt ≤ x17.toInt := tl_le c21
        refine li_aload_n 5 dX2_differentReadings_125 rfl ?_
        refine li_iload 1 dX2_differentReadings_126 rfl ?_
        refine li_iload_n 4 dX2_differentReadings_128 rfl ?_
        refine li_callV (n := 2) (As := [.int x18, .int x4]) dX2_differentReadings_129 (k_X2_countSums (d - 1) (by omega) x18 x4 (by omega) M19) (by omega) (Nat.le_of_ble_eq_true rfl) w_1224 w_1226 w_38 w_111 w_1227 (by decide +kernel) rfl (by decide) sh_171 rfl rfl (Nat.le_of_ble_eq_true rfl) (fun r M23 h24 => ?_)
        obtain ⟨⟨x22, rfl⟩, h24⟩ := h24
        have gx22 := tl_rg x22
        have hf := li_fr_trans hf h24 (fun i h => False.elim h)
        exact li_iret dX2_differentReadings_132 rfl rfl ⟨⟨_, rfl⟩, hf⟩
      · have tc21 : x17.toInt < x20.toInt := tl_nle c21
        refine li_iload 2 dX2_differentReadings_66 rfl ?_
        refine li_iload 0 dX2_differentReadings_68 rfl ?_
        refine li_callN (n := 2) (As := [.int x8, .int x17]) dX2_differentReadings_70 (k_X11_holds (d - 1) (by omega) x8 x17 M19) (by omega) (Nat.le_of_ble_eq_true rfl) nw_36 w_857 w_101 w_858 (by decide +kernel) rfl rfl (Nat.le_of_ble_eq_true rfl) (fun r M26 h27 => ?_)
        obtain ⟨⟨x25, rfl, bx25⟩, h27⟩ := h27
        have ux25 := tl_b bx25
        have hf := li_fr_trans hf h27 (fun i h => False.elim h)
        have J119 : ∀ (x29 : Int32) (M30 : li_M), li_fr (fun i => i = 173) M0 M30 → li_T l Z YX2_differentReadings d 119 [(6, .int x17), (5, .int x29), (4, .int x8), (3, .int x5), (2, .int x4), (0, .ref (Z.2.2 171)), (1, .int p1)] [] M30 (li_SI (fun i => i = 173) M0) := by
          intro x29 M30 hf
          have gx29 := tl_rg x29
          obtain ⟨x31, ex31⟩ : ∃ y : Int32, y = x17 + 1 := ⟨_, rfl⟩
          have tx31 : (-2147483648 ≤ x17.toInt + 1 ∧ x17.toInt + 1 ≤ 2147483647) → x31.toInt = x17.toInt + 1 := tl_add ex31
          refine li_iinc 0 [(6, .int x31), (5, .int x29), (4, .int x8), (3, .int x5), (2, .int x4), (0, .ref (Z.2.2 171)), (1, .int p1)] x31 dX2_differentReadings_119 rfl (by rw [ex31]; rfl) (by decide) rfl ?_
          refine li_goto 54 dX2_differentReadings_122 (by decide) ?_
          refine li_pick [0, 1, 2, 3, 4, 5, 6] [(6, .int x31), (5, .int x29), (4, .int x8), (3, .int x5), (2, .int x4), (0, .ref (Z.2.2 171)), (1, .int p1)] rfl ?_
          exact ih54 x31 x29 M30 (by have h9 := li_up (li_gt c21); rw [← ex31] at h9; omega) hf
        refine li_if_eq 119 dX2_differentReadings_73 (by decide) (fun c28 => ?_) (fun c28 => ?_)
        · have tc28 : x25.toInt = 0 := tl_eq c28
          refine li_pick [0, 1, 2, 3, 4, 5, 6] [(6, .int x17), (5, .int x18), (4, .int x8), (3, .int x5), (2, .int x4), (0, .ref (Z.2.2 171)), (1, .int p1)] rfl ?_
          exact J119 x18 M26 hf
        · have tc28 : ¬ x25.toInt = 0 := tl_ne c28
          refine li_aload_n 5 dX2_differentReadings_76 rfl ?_
          refine li_iload 1 dX2_differentReadings_77 rfl ?_
          refine li_iconst 1 dX2_differentReadings_79 (by decide) ?_
          refine li_iadd dX2_differentReadings_80 ?_
          refine li_top (fun x32 ex32 => ?_)
          have tx32 : (-2147483648 ≤ x18.toInt + 1 ∧ x18.toInt + 1 ≤ 2147483647) → x32.toInt = x18.toInt + 1 := tl_add ex32
          refine li_iload_n 3 dX2_differentReadings_81 rfl ?_
          refine li_callV (n := 2) (As := [.int x32, .int x5]) dX2_differentReadings_82 (k_X2_clearSums (d - 1) (by omega) x32 x5 M26) (by omega) (Nat.le_of_ble_eq_true rfl) w_1191 w_1193 w_33 w_111 w_1194 (by decide +kernel) rfl (by decide) sh_171 rfl rfl (Nat.le_of_ble_eq_true rfl) (fun r M34 h35 => ?_)
          obtain ⟨rfl, h35⟩ := h35
          have hf := li_fr_trans hf h35 (fun i (h : i = 173) => (show i = 173 by omega))
          refine li_aload_n 5 dX2_differentReadings_85 rfl ?_
          refine li_iload 1 dX2_differentReadings_86 rfl ?_
          refine li_bipush 125 dX2_differentReadings_88 (by decide) ?_
          refine li_imul dX2_differentReadings_90 ?_
          refine li_top (fun x36 ex36 => ?_)
          have tx36 : (-2147483648 ≤ x18.toInt * 125 ∧ x18.toInt * 125 ≤ 2147483647) → x36.toInt = x18.toInt * 125 := tl_mul ex36
          refine li_iload 1 dX2_differentReadings_91 rfl ?_
          refine li_iconst 1 dX2_differentReadings_93 (by decide) ?_
          refine li_iadd dX2_differentReadings_94 ?_
          refine li_top (fun x37 ex37 => ?_)
          have tx37 : (-2147483648 ≤ x18.toInt + 1 ∧ x18.toInt + 1 ≤ 2147483647) → x37.toInt = x18.toInt + 1 := tl_add ex37
          refine li_bipush 125 dX2_differentReadings_95 (by decide) ?_
          refine li_imul dX2_differentReadings_97 ?_
          refine li_top (fun x38 ex38 => ?_)
          have tx38 : (-2147483648 ≤ x37.toInt * 125 ∧ x37.toInt * 125 ≤ 2147483647) → x38.toInt = x37.toInt * 125 := tl_mul ex38
          refine li_iconst 0 dX2_differentReadings_98 (by decide) ?_
          refine li_iload_n 3 dX2_differentReadings_99 rfl ?_
          refine li_callV (n := 4) (As := [.int x36, .int x38, .int 0, .int x5]) dX2_differentReadings_100 (k_X2_addShifted (d - 1) (by omega) x36 x38 0 x5 M34) (by omega) (Nat.le_of_ble_eq_true rfl) w_1201 w_1203 w_35 w_111 w_1204 (by decide +kernel) rfl (by decide) sh_171 rfl rfl (Nat.le_of_ble_eq_true rfl) (fun r M40 h41 => ?_)
          obtain ⟨rfl, h41⟩ := h41
          have hf := li_fr_trans hf h41 (fun i (h : i = 173) => (show i = 173 by omega))
          refine li_aload_n 5 dX2_differentReadings_103 rfl ?_
          refine li_iload 1 dX2_differentReadings_104 rfl ?_
          refine li_iload 1 dX2_differentReadings_106 rfl ?_
          refine li_iconst 1 dX2_differentReadings_108 (by decide) ?_
          refine li_iadd dX2_differentReadings_109 ?_
          refine li_top (fun x42 ex42 => ?_)
          have tx42 : (-2147483648 ≤ x18.toInt + 1 ∧ x18.toInt + 1 ≤ 2147483647) → x42.toInt = x18.toInt + 1 := tl_add ex42
          refine li_iload 0 dX2_differentReadings_110 rfl ?_
          refine li_iload_n 3 dX2_differentReadings_112 rfl ?_
          refine li_callV (n := 4) (As := [.int x18, .int x42, .int x17, .int x5]) dX2_differentReadings_113 (k_X2_addSpeech (d - 1) (by omega) x18 x42 x17 x5 M40) (by omega) (Nat.le_of_ble_eq_true rfl) w_1197 w_1199 w_34 w_111 w_1200 (by decide +kernel) rfl (by decide) sh_171 rfl rfl (Nat.le_of_ble_eq_true rfl) (fun r M44 h45 => ?_)
          obtain ⟨rfl, h45⟩ := h45
          have hf := li_fr_trans hf h45 (fun i (h : i = 173) => (show i = 173 by omega))
          obtain ⟨x46, ex46⟩ : ∃ y : Int32, y = x18 + 1 := ⟨_, rfl⟩
          have tx46 : (-2147483648 ≤ x18.toInt + 1 ∧ x18.toInt + 1 ≤ 2147483647) → x46.toInt = x18.toInt + 1 := tl_add ex46
          refine li_iinc 1 [(5, .int x46), (6, .int x17), (4, .int x8), (3, .int x5), (2, .int x4), (0, .ref (Z.2.2 171)), (1, .int p1)] x46 dX2_differentReadings_116 rfl (by rw [ex46]; rfl) (by decide) rfl ?_
          refine li_pick [1, 0, 2, 3, 4, 5, 6] [(6, .int x17), (5, .int x46), (4, .int x8), (3, .int x5), (2, .int x4), (0, .ref (Z.2.2 171)), (1, .int p1)] rfl ?_
          exact J119 x46 M44 hf
  have z0 : (0 : Int32).toInt = 0 := rfl
  have z0 : (0 : Int32).toInt = 0 := rfl
  exact L54 _ 0 0 M15 (Nat.lt_succ_self _) hf
