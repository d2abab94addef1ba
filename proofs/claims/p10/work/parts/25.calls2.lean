theorem w_39 : (Jvm.Cond.selects "ClockForTalk" ({ cls := "ClockForTalk", name := "bestOfAll", desc := "(LClockForTalk$Costs;)I" } : Jvm.MethodName) ({ cls := "ClockForTalk", name := "bestOfAll", desc := "(LClockForTalk$Costs;)I" } : Jvm.MethodName)) ∈ li_ws := li_mem 39 (by decide +kernel) (by decide +kernel)
theorem w_162 : (Jvm.Cond.fieldLink "ClockForTalk" (432 : Nat) "ClockForTalk$Row" "length" "I") ∈ li_ws := li_mem 162 (by decide +kernel) (by decide +kernel)
theorem w_202 : (Jvm.Cond.fieldLink "ClockForTalk" (187 : Nat) "ClockForTalk$Town" "worth" "[I") ∈ li_ws := li_mem 202 (by decide +kernel) (by decide +kernel)
theorem w_344 : (Jvm.Cond.fieldLink "ClockForTalk" (429 : Nat) "ClockForTalk$Wordings" "lines" "I") ∈ li_ws := li_mem 344 (by decide +kernel) (by decide +kernel)
theorem w_374 : (Jvm.Cond.fieldLink "ClockForTalk" (348 : Nat) "ClockForTalk$Costs" "least" "[I") ∈ li_ws := li_mem 374 (by decide +kernel) (by decide +kernel)
theorem w_376 : (Jvm.Cond.fieldLink "ClockForTalk" (305 : Nat) "ClockForTalk$Costs" "chosen" "I") ∈ li_ws := li_mem 376 (by decide +kernel) (by decide +kernel)
theorem w_378 : (Jvm.Cond.fieldLink "ClockForTalk" (308 : Nat) "ClockForTalk$Costs" "chosenCost" "I") ∈ li_ws := li_mem 378 (by decide +kernel) (by decide +kernel)
theorem w_411 : (Jvm.Cond.fieldLink "ClockForTalk" (357 : Nat) "ClockForTalk$WordOfMouth" "bestPath" "[I") ∈ li_ws := li_mem 411 (by decide +kernel) (by decide +kernel)
theorem w_413 : (Jvm.Cond.fieldLink "ClockForTalk" (354 : Nat) "ClockForTalk$WordOfMouth" "bestLength" "I") ∈ li_ws := li_mem 413 (by decide +kernel) (by decide +kernel)
theorem w_415 : (Jvm.Cond.fieldLink "ClockForTalk" (363 : Nat) "ClockForTalk$WordOfMouth" "bestCost" "I") ∈ li_ws := li_mem 415 (by decide +kernel) (by decide +kernel)
theorem w_447 : (Jvm.Cond.fieldLink "ClockForTalk" (386 : Nat) "ClockForTalk$Dusk" "readBits" "I") ∈ li_ws := li_mem 447 (by decide +kernel) (by decide +kernel)
theorem w_449 : (Jvm.Cond.fieldLink "ClockForTalk" (398 : Nat) "ClockForTalk$Dusk" "explained" "I") ∈ li_ws := li_mem 449 (by decide +kernel) (by decide +kernel)
theorem w_451 : (Jvm.Cond.fieldLink "ClockForTalk" (392 : Nat) "ClockForTalk$Dusk" "leastSet" "I") ∈ li_ws := li_mem 451 (by decide +kernel) (by decide +kernel)
theorem w_453 : (Jvm.Cond.fieldLink "ClockForTalk" (395 : Nat) "ClockForTalk$Dusk" "inAll" "I") ∈ li_ws := li_mem 453 (by decide +kernel) (by decide +kernel)
theorem w_481 : (Jvm.Cond.fieldLink "ClockForTalk" (74 : Nat) "ClockForTalk" "otherCosts" "LClockForTalk$Costs;") ∈ li_ws := li_mem 481 (by decide +kernel) (by decide +kernel)
theorem w_482 : (Jvm.Cond.fieldLink "ClockForTalk" (82 : Nat) "ClockForTalk" "mouths" "LClockForTalk$WordOfMouth;") ∈ li_ws := li_mem 482 (by decide +kernel) (by decide +kernel)
theorem w_484 : (Jvm.Cond.fieldLink "ClockForTalk" (89 : Nat) "ClockForTalk" "dusk" "LClockForTalk$Dusk;") ∈ li_ws := li_mem 484 (by decide +kernel) (by decide +kernel)
theorem w_1025 : (Jvm.Cond.methodLink "ClockForTalk" (314 : Nat) ({ cls := "ClockForTalk$Costs", name := "openThingsOf", desc := "(I)I" } : Jvm.MethodName)) ∈ li_ws := li_mem 1025 (by decide +kernel) (by decide +kernel)
theorem w_1026 : (Jvm.Cond.methodLink "ClockForTalk" (317 : Nat) ({ cls := "ClockForTalk$Costs", name := "leastOfAll", desc := "(I)I" } : Jvm.MethodName)) ∈ li_ws := li_mem 1026 (by decide +kernel) (by decide +kernel)
theorem w_1027 : (Jvm.Cond.instanceMethod ({ cls := "ClockForTalk$Costs", name := "leastOfAll", desc := "(I)I" } : Jvm.MethodName)) ∈ li_ws := li_mem 1027 (by decide +kernel) (by decide +kernel)
theorem w_1028 : (Jvm.Cond.selects "ClockForTalk$Costs" ({ cls := "ClockForTalk$Costs", name := "leastOfAll", desc := "(I)I" } : Jvm.MethodName) ({ cls := "ClockForTalk$Costs", name := "leastOfAll", desc := "(I)I" } : Jvm.MethodName)) ∈ li_ws := li_mem 1028 (by decide +kernel) (by decide +kernel)
theorem w_1029 : (Jvm.Cond.code ({ cls := "ClockForTalk$Costs", name := "leastOfAll", desc := "(I)I" } : Jvm.MethodName) prog_2_method_9_code (4 : Nat) (Option.some Jvm.ClassFile.FieldType.int)) ∈ li_ws := li_mem 1029 (by decide +kernel) (by decide +kernel)
theorem w_1030 : (Jvm.Cond.methodLink "ClockForTalk" (320 : Nat) ({ cls := "java/lang/Integer", name := "bitCount", desc := "(I)I" } : Jvm.MethodName)) ∈ li_ws := li_mem 1030 (by decide +kernel) (by decide +kernel)
theorem w_1035 : (Jvm.Cond.methodLink "ClockForTalk" (330 : Nat) ({ cls := "ClockForTalk$Costs", name := "openThings", desc := "()I" } : Jvm.MethodName)) ∈ li_ws := li_mem 1035 (by decide +kernel) (by decide +kernel)
theorem w_1036 : (Jvm.Cond.methodLink "ClockForTalk" (333 : Nat) ({ cls := "ClockForTalk$Costs", name := "choose", desc := "(II)V" } : Jvm.MethodName)) ∈ li_ws := li_mem 1036 (by decide +kernel) (by decide +kernel)
theorem w_1041 : (Jvm.Cond.methodLink "ClockForTalk" (336 : Nat) ({ cls := "ClockForTalk", name := "areBitsOf", desc := "(II)Z" } : Jvm.MethodName)) ∈ li_ws := li_mem 1041 (by decide +kernel) (by decide +kernel)
theorem w_1042 : (Jvm.Cond.static ({ cls := "ClockForTalk", name := "areBitsOf", desc := "(II)Z" } : Jvm.MethodName)) ∈ li_ws := li_mem 1042 (by decide +kernel) (by decide +kernel)
theorem w_1043 : (Jvm.Cond.code ({ cls := "ClockForTalk", name := "areBitsOf", desc := "(II)Z" } : Jvm.MethodName) prog_1_method_64_code (2 : Nat) (Option.some Jvm.ClassFile.FieldType.boolean)) ∈ li_ws := li_mem 1043 (by decide +kernel) (by decide +kernel)
theorem w_1044 : (Jvm.Cond.methodLink "ClockForTalk" (339 : Nat) ({ cls := "ClockForTalk$Town", name := "thingsOf", desc := "(I)I" } : Jvm.MethodName)) ∈ li_ws := li_mem 1044 (by decide +kernel) (by decide +kernel)
theorem w_1045 : (Jvm.Cond.methodLink "ClockForTalk" (342 : Nat) ({ cls := "ClockForTalk$Row", name := "tell", desc := "(I)V" } : Jvm.MethodName)) ∈ li_ws := li_mem 1045 (by decide +kernel) (by decide +kernel)
theorem w_1046 : (Jvm.Cond.instanceMethod ({ cls := "ClockForTalk$Row", name := "tell", desc := "(I)V" } : Jvm.MethodName)) ∈ li_ws := li_mem 1046 (by decide +kernel) (by decide +kernel)
theorem w_1047 : (Jvm.Cond.selects "ClockForTalk$Row" ({ cls := "ClockForTalk$Row", name := "tell", desc := "(I)V" } : Jvm.MethodName) ({ cls := "ClockForTalk$Row", name := "tell", desc := "(I)V" } : Jvm.MethodName)) ∈ li_ws := li_mem 1047 (by decide +kernel) (by decide +kernel)
theorem w_1048 : (Jvm.Cond.code ({ cls := "ClockForTalk$Row", name := "tell", desc := "(I)V" } : Jvm.MethodName) prog_6_method_2_code (2 : Nat) (Option.none : Option Jvm.ClassFile.FieldType)) ∈ li_ws := li_mem 1048 (by decide +kernel) (by decide +kernel)
theorem w_1053 : (Jvm.Cond.methodLink "ClockForTalk" (345 : Nat) ({ cls := "ClockForTalk$Costs", name := "firstUnpayable", desc := "()I" } : Jvm.MethodName)) ∈ li_ws := li_mem 1053 (by decide +kernel) (by decide +kernel)
theorem w_1054 : (Jvm.Cond.instanceMethod ({ cls := "ClockForTalk$Costs", name := "firstUnpayable", desc := "()I" } : Jvm.MethodName)) ∈ li_ws := li_mem 1054 (by decide +kernel) (by decide +kernel)
theorem w_1055 : (Jvm.Cond.selects "ClockForTalk$Costs" ({ cls := "ClockForTalk$Costs", name := "firstUnpayable", desc := "()I" } : Jvm.MethodName) ({ cls := "ClockForTalk$Costs", name := "firstUnpayable", desc := "()I" } : Jvm.MethodName)) ∈ li_ws := li_mem 1055 (by decide +kernel) (by decide +kernel)
theorem w_1056 : (Jvm.Cond.code ({ cls := "ClockForTalk$Costs", name := "firstUnpayable", desc := "()I" } : Jvm.MethodName) prog_2_method_15_code (5 : Nat) (Option.some Jvm.ClassFile.FieldType.int)) ∈ li_ws := li_mem 1056 (by decide +kernel) (by decide +kernel)
theorem w_1061 : (Jvm.Cond.methodLink "ClockForTalk" (351 : Nat) ({ cls := "ClockForTalk$WordOfMouth", name := "findChain", desc := "(III)V" } : Jvm.MethodName)) ∈ li_ws := li_mem 1061 (by decide +kernel) (by decide +kernel)
theorem w_1062 : (Jvm.Cond.instanceMethod ({ cls := "ClockForTalk$WordOfMouth", name := "findChain", desc := "(III)V" } : Jvm.MethodName)) ∈ li_ws := li_mem 1062 (by decide +kernel) (by decide +kernel)
theorem w_1063 : (Jvm.Cond.selects "ClockForTalk$WordOfMouth" ({ cls := "ClockForTalk$WordOfMouth", name := "findChain", desc := "(III)V" } : Jvm.MethodName) ({ cls := "ClockForTalk$WordOfMouth", name := "findChain", desc := "(III)V" } : Jvm.MethodName)) ∈ li_ws := li_mem 1063 (by decide +kernel) (by decide +kernel)
theorem w_1064 : (Jvm.Cond.code ({ cls := "ClockForTalk$WordOfMouth", name := "findChain", desc := "(III)V" } : Jvm.MethodName) prog_10_method_2_code (6 : Nat) (Option.none : Option Jvm.ClassFile.FieldType)) ∈ li_ws := li_mem 1064 (by decide +kernel) (by decide +kernel)
theorem w_1080 : (Jvm.Cond.methodLink "ClockForTalk" (360 : Nat) ({ cls := "ClockForTalk$Row", name := "tellAll", desc := "([III)V" } : Jvm.MethodName)) ∈ li_ws := li_mem 1080 (by decide +kernel) (by decide +kernel)
theorem w_1081 : (Jvm.Cond.instanceMethod ({ cls := "ClockForTalk$Row", name := "tellAll", desc := "([III)V" } : Jvm.MethodName)) ∈ li_ws := li_mem 1081 (by decide +kernel) (by decide +kernel)
theorem w_1082 : (Jvm.Cond.selects "ClockForTalk$Row" ({ cls := "ClockForTalk$Row", name := "tellAll", desc := "([III)V" } : Jvm.MethodName) ({ cls := "ClockForTalk$Row", name := "tellAll", desc := "([III)V" } : Jvm.MethodName)) ∈ li_ws := li_mem 1082 (by decide +kernel) (by decide +kernel)
theorem w_1083 : (Jvm.Cond.code ({ cls := "ClockForTalk$Row", name := "tellAll", desc := "([III)V" } : Jvm.MethodName) prog_6_method_4_code (5 : Nat) (Option.none : Option Jvm.ClassFile.FieldType)) ∈ li_ws := li_mem 1083 (by decide +kernel) (by decide +kernel)
theorem w_1090 : (Jvm.Cond.methodLink "ClockForTalk" (366 : Nat) ({ cls := "ClockForTalk$WordOfMouth", name := "fewestCriers", desc := "(III)I" } : Jvm.MethodName)) ∈ li_ws := li_mem 1090 (by decide +kernel) (by decide +kernel)
theorem w_1091 : (Jvm.Cond.instanceMethod ({ cls := "ClockForTalk$WordOfMouth", name := "fewestCriers", desc := "(III)I" } : Jvm.MethodName)) ∈ li_ws := li_mem 1091 (by decide +kernel) (by decide +kernel)
theorem w_1092 : (Jvm.Cond.selects "ClockForTalk$WordOfMouth" ({ cls := "ClockForTalk$WordOfMouth", name := "fewestCriers", desc := "(III)I" } : Jvm.MethodName) ({ cls := "ClockForTalk$WordOfMouth", name := "fewestCriers", desc := "(III)I" } : Jvm.MethodName)) ∈ li_ws := li_mem 1092 (by decide +kernel) (by decide +kernel)
theorem w_1093 : (Jvm.Cond.code ({ cls := "ClockForTalk$WordOfMouth", name := "fewestCriers", desc := "(III)I" } : Jvm.MethodName) prog_10_method_5_code (7 : Nat) (Option.some Jvm.ClassFile.FieldType.int)) ∈ li_ws := li_mem 1093 (by decide +kernel) (by decide +kernel)
theorem w_1116 : (Jvm.Cond.methodLink "ClockForTalk" (369 : Nat) ({ cls := "ClockForTalk$Wordings", name := "adopt", desc := "(I)V" } : Jvm.MethodName)) ∈ li_ws := li_mem 1116 (by decide +kernel) (by decide +kernel)
theorem w_1117 : (Jvm.Cond.instanceMethod ({ cls := "ClockForTalk$Wordings", name := "adopt", desc := "(I)V" } : Jvm.MethodName)) ∈ li_ws := li_mem 1117 (by decide +kernel) (by decide +kernel)
theorem w_1118 : (Jvm.Cond.selects "ClockForTalk$Wordings" ({ cls := "ClockForTalk$Wordings", name := "adopt", desc := "(I)V" } : Jvm.MethodName) ({ cls := "ClockForTalk$Wordings", name := "adopt", desc := "(I)V" } : Jvm.MethodName)) ∈ li_ws := li_mem 1118 (by decide +kernel) (by decide +kernel)
theorem w_1119 : (Jvm.Cond.code ({ cls := "ClockForTalk$Wordings", name := "adopt", desc := "(I)V" } : Jvm.MethodName) prog_11_method_3_code (2 : Nat) (Option.none : Option Jvm.ClassFile.FieldType)) ∈ li_ws := li_mem 1119 (by decide +kernel) (by decide +kernel)
theorem w_1164 : (Jvm.Cond.methodLink "ClockForTalk" (384 : Nat) ({ cls := "ClockForTalk$Dusk", name := "note", desc := "(II)V" } : Jvm.MethodName)) ∈ li_ws := li_mem 1164 (by decide +kernel) (by decide +kernel)
theorem w_1165 : (Jvm.Cond.instanceMethod ({ cls := "ClockForTalk$Dusk", name := "note", desc := "(II)V" } : Jvm.MethodName)) ∈ li_ws := li_mem 1165 (by decide +kernel) (by decide +kernel)
theorem w_1166 : (Jvm.Cond.selects "ClockForTalk$Dusk" ({ cls := "ClockForTalk$Dusk", name := "note", desc := "(II)V" } : Jvm.MethodName) ({ cls := "ClockForTalk$Dusk", name := "note", desc := "(II)V" } : Jvm.MethodName)) ∈ li_ws := li_mem 1166 (by decide +kernel) (by decide +kernel)
theorem w_1167 : (Jvm.Cond.code ({ cls := "ClockForTalk$Dusk", name := "note", desc := "(II)V" } : Jvm.MethodName) prog_3_method_2_code (3 : Nat) (Option.none : Option Jvm.ClassFile.FieldType)) ∈ li_ws := li_mem 1167 (by decide +kernel) (by decide +kernel)
theorem w_1177 : (Jvm.Cond.methodLink "ClockForTalk" (389 : Nat) ({ cls := "ClockForTalk$Dusk", name := "explain", desc := "(I)V" } : Jvm.MethodName)) ∈ li_ws := li_mem 1177 (by decide +kernel) (by decide +kernel)
theorem w_1178 : (Jvm.Cond.instanceMethod ({ cls := "ClockForTalk$Dusk", name := "explain", desc := "(I)V" } : Jvm.MethodName)) ∈ li_ws := li_mem 1178 (by decide +kernel) (by decide +kernel)
theorem w_1179 : (Jvm.Cond.selects "ClockForTalk$Dusk" ({ cls := "ClockForTalk$Dusk", name := "explain", desc := "(I)V" } : Jvm.MethodName) ({ cls := "ClockForTalk$Dusk", name := "explain", desc := "(I)V" } : Jvm.MethodName)) ∈ li_ws := li_mem 1179 (by decide +kernel) (by decide +kernel)
theorem w_1180 : (Jvm.Cond.code ({ cls := "ClockForTalk$Dusk", name := "explain", desc := "(I)V" } : Jvm.MethodName) prog_3_method_3_code (6 : Nat) (Option.none : Option Jvm.ClassFile.FieldType)) ∈ li_ws := li_mem 1180 (by decide +kernel) (by decide +kernel)
theorem w_1218 : (Jvm.Cond.methodLink "ClockForTalk" (401 : Nat) ({ cls := "ClockForTalk$Dusk", name := "differentReadings", desc := "(I)I" } : Jvm.MethodName)) ∈ li_ws := li_mem 1218 (by decide +kernel) (by decide +kernel)
theorem w_1219 : (Jvm.Cond.instanceMethod ({ cls := "ClockForTalk$Dusk", name := "differentReadings", desc := "(I)I" } : Jvm.MethodName)) ∈ li_ws := li_mem 1219 (by decide +kernel) (by decide +kernel)
theorem w_1220 : (Jvm.Cond.selects "ClockForTalk$Dusk" ({ cls := "ClockForTalk$Dusk", name := "differentReadings", desc := "(I)I" } : Jvm.MethodName) ({ cls := "ClockForTalk$Dusk", name := "differentReadings", desc := "(I)I" } : Jvm.MethodName)) ∈ li_ws := li_mem 1220 (by decide +kernel) (by decide +kernel)
theorem w_1221 : (Jvm.Cond.code ({ cls := "ClockForTalk$Dusk", name := "differentReadings", desc := "(I)I" } : Jvm.MethodName) prog_3_method_11_code (7 : Nat) (Option.some Jvm.ClassFile.FieldType.int)) ∈ li_ws := li_mem 1221 (by decide +kernel) (by decide +kernel)
theorem w_1232 : (Jvm.Cond.methodLink "ClockForTalk" (404 : Nat) ({ cls := "ClockForTalk", name := "bestOfAll", desc := "(LClockForTalk$Costs;)I" } : Jvm.MethodName)) ∈ li_ws := li_mem 1232 (by decide +kernel) (by decide +kernel)
theorem w_1234 : (Jvm.Cond.instanceMethod ({ cls := "ClockForTalk", name := "bestOfAll", desc := "(LClockForTalk$Costs;)I" } : Jvm.MethodName)) ∈ li_ws := li_mem 1234 (by decide +kernel) (by decide +kernel)
theorem w_1235 : (Jvm.Cond.code ({ cls := "ClockForTalk", name := "bestOfAll", desc := "(LClockForTalk$Costs;)I" } : Jvm.MethodName) prog_1_method_48_code (4 : Nat) (Option.some Jvm.ClassFile.FieldType.int)) ∈ li_ws := li_mem 1235 (by decide +kernel) (by decide +kernel)
theorem w_1240 : (Jvm.Cond.methodLink "ClockForTalk" (408 : Nat) ({ cls := "ClockForTalk$Ledger", name := "struckWith", desc := "(II)I" } : Jvm.MethodName)) ∈ li_ws := li_mem 1240 (by decide +kernel) (by decide +kernel)
theorem w_1241 : (Jvm.Cond.instanceMethod ({ cls := "ClockForTalk$Ledger", name := "struckWith", desc := "(II)I" } : Jvm.MethodName)) ∈ li_ws := li_mem 1241 (by decide +kernel) (by decide +kernel)
theorem w_1242 : (Jvm.Cond.selects "ClockForTalk$Ledger" ({ cls := "ClockForTalk$Ledger", name := "struckWith", desc := "(II)I" } : Jvm.MethodName) ({ cls := "ClockForTalk$Ledger", name := "struckWith", desc := "(II)I" } : Jvm.MethodName)) ∈ li_ws := li_mem 1242 (by decide +kernel) (by decide +kernel)
theorem w_1243 : (Jvm.Cond.code ({ cls := "ClockForTalk$Ledger", name := "struckWith", desc := "(II)I" } : Jvm.MethodName) prog_5_method_20_code (6 : Nat) (Option.some Jvm.ClassFile.FieldType.int)) ∈ li_ws := li_mem 1243 (by decide +kernel) (by decide +kernel)
theorem w_1264 : (Jvm.Cond.methodLink "ClockForTalk" (411 : Nat) ({ cls := "ClockForTalk$Ledger", name := "owedByAll", desc := "(I)J" } : Jvm.MethodName)) ∈ li_ws := li_mem 1264 (by decide +kernel) (by decide +kernel)
theorem w_1269 : (Jvm.Cond.constant "ClockForTalk" (414 : Nat) (1103515245 : Int32)) ∈ li_ws := li_mem 1269 (by decide +kernel) (by decide +kernel)
theorem w_1270 : (Jvm.Cond.methodLink "ClockForTalk" (419 : Nat) ({ cls := "ClockForTalk$History", name := "recall", desc := "(LClockForTalk$Ledger;)V" } : Jvm.MethodName)) ∈ li_ws := li_mem 1270 (by decide +kernel) (by decide +kernel)
theorem w_1271 : (Jvm.Cond.instanceMethod ({ cls := "ClockForTalk$History", name := "recall", desc := "(LClockForTalk$Ledger;)V" } : Jvm.MethodName)) ∈ li_ws := li_mem 1271 (by decide +kernel) (by decide +kernel)
theorem w_1272 : (Jvm.Cond.selects "ClockForTalk$History" ({ cls := "ClockForTalk$History", name := "recall", desc := "(LClockForTalk$Ledger;)V" } : Jvm.MethodName) ({ cls := "ClockForTalk$History", name := "recall", desc := "(LClockForTalk$Ledger;)V" } : Jvm.MethodName)) ∈ li_ws := li_mem 1272 (by decide +kernel) (by decide +kernel)
theorem w_1273 : (Jvm.Cond.code ({ cls := "ClockForTalk$History", name := "recall", desc := "(LClockForTalk$Ledger;)V" } : Jvm.MethodName) prog_4_method_4_code (2 : Nat) (Option.none : Option Jvm.ClassFile.FieldType)) ∈ li_ws := li_mem 1273 (by decide +kernel) (by decide +kernel)
theorem w_1278 : (Jvm.Cond.methodLink "ClockForTalk" (422 : Nat) ({ cls := "ClockForTalk$History", name := "keepUnder", desc := "(ILClockForTalk$Ledger;)Z" } : Jvm.MethodName)) ∈ li_ws := li_mem 1278 (by decide +kernel) (by decide +kernel)
theorem w_1279 : (Jvm.Cond.instanceMethod ({ cls := "ClockForTalk$History", name := "keepUnder", desc := "(ILClockForTalk$Ledger;)Z" } : Jvm.MethodName)) ∈ li_ws := li_mem 1279 (by decide +kernel) (by decide +kernel)
theorem w_1280 : (Jvm.Cond.selects "ClockForTalk$History" ({ cls := "ClockForTalk$History", name := "keepUnder", desc := "(ILClockForTalk$Ledger;)Z" } : Jvm.MethodName) ({ cls := "ClockForTalk$History", name := "keepUnder", desc := "(ILClockForTalk$Ledger;)Z" } : Jvm.MethodName)) ∈ li_ws := li_mem 1280 (by decide +kernel) (by decide +kernel)
theorem w_1281 : (Jvm.Cond.code ({ cls := "ClockForTalk$History", name := "keepUnder", desc := "(ILClockForTalk$Ledger;)Z" } : Jvm.MethodName) prog_4_method_7_code (3 : Nat) (Option.some Jvm.ClassFile.FieldType.boolean)) ∈ li_ws := li_mem 1281 (by decide +kernel) (by decide +kernel)
theorem w_1286 : (Jvm.Cond.methodLink "ClockForTalk" (426 : Nat) ({ cls := "ClockForTalk$History", name := "bringBack", desc := "(ILClockForTalk$Ledger;)Z" } : Jvm.MethodName)) ∈ li_ws := li_mem 1286 (by decide +kernel) (by decide +kernel)
theorem w_1287 : (Jvm.Cond.instanceMethod ({ cls := "ClockForTalk$History", name := "bringBack", desc := "(ILClockForTalk$Ledger;)Z" } : Jvm.MethodName)) ∈ li_ws := li_mem 1287 (by decide +kernel) (by decide +kernel)
theorem w_1288 : (Jvm.Cond.selects "ClockForTalk$History" ({ cls := "ClockForTalk$History", name := "bringBack", desc := "(ILClockForTalk$Ledger;)Z" } : Jvm.MethodName) ({ cls := "ClockForTalk$History", name := "bringBack", desc := "(ILClockForTalk$Ledger;)Z" } : Jvm.MethodName)) ∈ li_ws := li_mem 1288 (by decide +kernel) (by decide +kernel)
theorem w_1289 : (Jvm.Cond.code ({ cls := "ClockForTalk$History", name := "bringBack", desc := "(ILClockForTalk$Ledger;)Z" } : Jvm.MethodName) prog_4_method_8_code (3 : Nat) (Option.some Jvm.ClassFile.FieldType.boolean)) ∈ li_ws := li_mem 1289 (by decide +kernel) (by decide +kernel)
theorem dX11_best_0 : decode cX11_best 0 = .ok (.aload_n 0, 1) := by decide +kernel
theorem dX11_best_1 : decode cX11_best 1 = .ok (.getfield 26, 3) := by decide +kernel
theorem dX11_best_4 : decode cX11_best 4 = .ok (.iload_n 1, 1) := by decide +kernel
theorem dX11_best_5 : decode cX11_best 5 = .ok (.invokevirtual 125, 3) := by decide +kernel
theorem dX11_best_8 : decode cX11_best 8 = .ok (.ifCond .ne 5, 3) := by decide +kernel
theorem dX11_best_11 : decode cX11_best 11 = .ok (.iconst (-1), 1) := by decide +kernel
theorem dX11_best_12 : decode cX11_best 12 = .ok (.ireturn, 1) := by decide +kernel
theorem dX11_best_13 : decode cX11_best 13 = .ok (.aload_n 0, 1) := by decide +kernel
theorem dX11_best_14 : decode cX11_best 14 = .ok (.getfield 70, 3) := by decide +kernel
theorem dX11_best_17 : decode cX11_best 17 = .ok (.invokevirtual 299, 3) := by decide +kernel
theorem dX11_best_20 : decode cX11_best 20 = .ok (.aload_n 0, 1) := by decide +kernel
theorem dX11_best_21 : decode cX11_best 21 = .ok (.getfield 70, 3) := by decide +kernel
theorem dX11_best_24 : decode cX11_best 24 = .ok (.iload_n 1, 1) := by decide +kernel
theorem dX11_best_25 : decode cX11_best 25 = .ok (.invokevirtual 302, 3) := by decide +kernel
theorem dX11_best_28 : decode cX11_best 28 = .ok (.aload_n 0, 1) := by decide +kernel
theorem dX11_best_29 : decode cX11_best 29 = .ok (.getfield 19, 3) := by decide +kernel
theorem dX11_best_32 : decode cX11_best 32 = .ok (.aload_n 0, 1) := by decide +kernel
theorem dX11_best_33 : decode cX11_best 33 = .ok (.getfield 70, 3) := by decide +kernel
theorem dX11_best_36 : decode cX11_best 36 = .ok (.getfield 305, 3) := by decide +kernel
theorem dX11_best_39 : decode cX11_best 39 = .ok (.aload_n 0, 1) := by decide +kernel
theorem dX11_best_40 : decode cX11_best 40 = .ok (.getfield 70, 3) := by decide +kernel
theorem dX11_best_43 : decode cX11_best 43 = .ok (.getfield 308, 3) := by decide +kernel
theorem dX11_best_46 : decode cX11_best 46 = .ok (.invokevirtual 280, 3) := by decide +kernel
theorem dX11_best_49 : decode cX11_best 49 = .ok (.aload_n 0, 1) := by decide +kernel
theorem dX11_best_50 : decode cX11_best 50 = .ok (.getfield 70, 3) := by decide +kernel
theorem dX11_best_53 : decode cX11_best 53 = .ok (.getfield 311, 3) := by decide +kernel
theorem dX11_best_56 : decode cX11_best 56 = .ok (.ireturn, 1) := by decide +kernel
abbrev YX11_best : li_Y := (yX11_best, cX11_best, 2, (some .int))
theorem dX11_lacks_0 : decode cX11_lacks 0 = .ok (.aload_n 0, 1) := by decide +kernel
theorem dX11_lacks_1 : decode cX11_lacks 1 = .ok (.getfield 26, 3) := by decide +kernel
theorem dX11_lacks_4 : decode cX11_lacks 4 = .ok (.iload_n 1, 1) := by decide +kernel
theorem dX11_lacks_5 : decode cX11_lacks 5 = .ok (.invokevirtual 125, 3) := by decide +kernel
theorem dX11_lacks_8 : decode cX11_lacks 8 = .ok (.ifCond .ne 5, 3) := by decide +kernel
theorem dX11_lacks_11 : decode cX11_lacks 11 = .ok (.iconst (-1), 1) := by decide +kernel
theorem dX11_lacks_12 : decode cX11_lacks 12 = .ok (.ireturn, 1) := by decide +kernel
theorem dX11_lacks_13 : decode cX11_lacks 13 = .ok (.aload_n 0, 1) := by decide +kernel
theorem dX11_lacks_14 : decode cX11_lacks 14 = .ok (.getfield 70, 3) := by decide +kernel
theorem dX11_lacks_17 : decode cX11_lacks 17 = .ok (.invokevirtual 299, 3) := by decide +kernel
theorem dX11_lacks_20 : decode cX11_lacks 20 = .ok (.aload_n 0, 1) := by decide +kernel
theorem dX11_lacks_21 : decode cX11_lacks 21 = .ok (.getfield 70, 3) := by decide +kernel
theorem dX11_lacks_24 : decode cX11_lacks 24 = .ok (.iload_n 1, 1) := by decide +kernel
theorem dX11_lacks_25 : decode cX11_lacks 25 = .ok (.invokevirtual 314, 3) := by decide +kernel
theorem dX11_lacks_28 : decode cX11_lacks 28 = .ok (.istore_n 2, 1) := by decide +kernel
theorem dX11_lacks_29 : decode cX11_lacks 29 = .ok (.aload_n 0, 1) := by decide +kernel
theorem dX11_lacks_30 : decode cX11_lacks 30 = .ok (.getfield 70, 3) := by decide +kernel
theorem dX11_lacks_33 : decode cX11_lacks 33 = .ok (.iload_n 2, 1) := by decide +kernel
theorem dX11_lacks_34 : decode cX11_lacks 34 = .ok (.invokevirtual 317, 3) := by decide +kernel
theorem dX11_lacks_37 : decode cX11_lacks 37 = .ok (.istore_n 3, 1) := by decide +kernel
theorem dX11_lacks_38 : decode cX11_lacks 38 = .ok (.aload_n 0, 1) := by decide +kernel
theorem dX11_lacks_39 : decode cX11_lacks 39 = .ok (.getfield 19, 3) := by decide +kernel
theorem dX11_lacks_42 : decode cX11_lacks 42 = .ok (.iload_n 3, 1) := by decide +kernel
theorem dX11_lacks_43 : decode cX11_lacks 43 = .ok (.iload_n 2, 1) := by decide +kernel
theorem dX11_lacks_44 : decode cX11_lacks 44 = .ok (.invokestatic 320, 3) := by decide +kernel
theorem dX11_lacks_47 : decode cX11_lacks 47 = .ok (.invokevirtual 280, 3) := by decide +kernel
theorem dX11_lacks_50 : decode cX11_lacks 50 = .ok (.iconst 0, 1) := by decide +kernel
theorem dX11_lacks_51 : decode cX11_lacks 51 = .ok (.iload_n 3, 1) := by decide +kernel
theorem dX11_lacks_52 : decode cX11_lacks 52 = .ok (.aload_n 0, 1) := by decide +kernel
theorem dX11_lacks_53 : decode cX11_lacks 53 = .ok (.getfield 33, 3) := by decide +kernel
theorem dX11_lacks_56 : decode cX11_lacks 56 = .ok (.getfield 146, 3) := by decide +kernel
theorem dX11_lacks_59 : decode cX11_lacks 59 = .ok (.iload_n 1, 1) := by decide +kernel
theorem dX11_lacks_60 : decode cX11_lacks 60 = .ok (.invokestatic 142, 3) := by decide +kernel
theorem dX11_lacks_63 : decode cX11_lacks 63 = .ok (.isub, 1) := by decide +kernel
theorem dX11_lacks_64 : decode cX11_lacks 64 = .ok (.invokestatic 325, 3) := by decide +kernel
theorem dX11_lacks_67 : decode cX11_lacks 67 = .ok (.ireturn, 1) := by decide +kernel
abbrev YX11_lacks : li_Y := (yX11_lacks, cX11_lacks, 4, (some .int))
theorem dX11_pool_0 : decode cX11_pool 0 = .ok (.aload_n 0, 1) := by decide +kernel
theorem dX11_pool_1 : decode cX11_pool 1 = .ok (.getfield 70, 3) := by decide +kernel
theorem dX11_pool_4 : decode cX11_pool 4 = .ok (.invokevirtual 299, 3) := by decide +kernel
theorem dX11_pool_7 : decode cX11_pool 7 = .ok (.aload_n 0, 1) := by decide +kernel
theorem dX11_pool_8 : decode cX11_pool 8 = .ok (.getfield 70, 3) := by decide +kernel
theorem dX11_pool_11 : decode cX11_pool 11 = .ok (.aload_n 0, 1) := by decide +kernel
theorem dX11_pool_12 : decode cX11_pool 12 = .ok (.getfield 70, 3) := by decide +kernel
theorem dX11_pool_15 : decode cX11_pool 15 = .ok (.invokevirtual 330, 3) := by decide +kernel
theorem dX11_pool_18 : decode cX11_pool 18 = .ok (.aload_n 0, 1) := by decide +kernel
theorem dX11_pool_19 : decode cX11_pool 19 = .ok (.getfield 33, 3) := by decide +kernel
theorem dX11_pool_22 : decode cX11_pool 22 = .ok (.aload_n 0, 1) := by decide +kernel
theorem dX11_pool_23 : decode cX11_pool 23 = .ok (.getfield 26, 3) := by decide +kernel
theorem dX11_pool_26 : decode cX11_pool 26 = .ok (.getfield 104, 3) := by decide +kernel
theorem dX11_pool_29 : decode cX11_pool 29 = .ok (.invokevirtual 232, 3) := by decide +kernel
theorem dX11_pool_32 : decode cX11_pool 32 = .ok (.invokevirtual 333, 3) := by decide +kernel
theorem dX11_pool_35 : decode cX11_pool 35 = .ok (.aload_n 0, 1) := by decide +kernel
theorem dX11_pool_36 : decode cX11_pool 36 = .ok (.getfield 19, 3) := by decide +kernel
theorem dX11_pool_39 : decode cX11_pool 39 = .ok (.aload_n 0, 1) := by decide +kernel
theorem dX11_pool_40 : decode cX11_pool 40 = .ok (.getfield 70, 3) := by decide +kernel
theorem dX11_pool_43 : decode cX11_pool 43 = .ok (.getfield 305, 3) := by decide +kernel
theorem dX11_pool_46 : decode cX11_pool 46 = .ok (.aload_n 0, 1) := by decide +kernel
theorem dX11_pool_47 : decode cX11_pool 47 = .ok (.getfield 70, 3) := by decide +kernel
theorem dX11_pool_50 : decode cX11_pool 50 = .ok (.getfield 308, 3) := by decide +kernel
theorem dX11_pool_53 : decode cX11_pool 53 = .ok (.invokevirtual 280, 3) := by decide +kernel
theorem dX11_pool_56 : decode cX11_pool 56 = .ok (.aload_n 0, 1) := by decide +kernel
theorem dX11_pool_57 : decode cX11_pool 57 = .ok (.getfield 70, 3) := by decide +kernel
theorem dX11_pool_60 : decode cX11_pool 60 = .ok (.getfield 311, 3) := by decide +kernel
theorem dX11_pool_63 : decode cX11_pool 63 = .ok (.ireturn, 1) := by decide +kernel
abbrev YX11_pool : li_Y := (yX11_pool, cX11_pool, 1, (some .int))
theorem dX11_gifts_0 : decode cX11_gifts 0 = .ok (.iload_n 1, 1) := by decide +kernel
theorem dX11_gifts_1 : decode cX11_gifts 1 = .ok (.aload_n 0, 1) := by decide +kernel
theorem dX11_gifts_2 : decode cX11_gifts 2 = .ok (.getfield 26, 3) := by decide +kernel
theorem dX11_gifts_5 : decode cX11_gifts 5 = .ok (.getfield 118, 3) := by decide +kernel
theorem dX11_gifts_8 : decode cX11_gifts 8 = .ok (.invokestatic 336, 3) := by decide +kernel
theorem dX11_gifts_11 : decode cX11_gifts 11 = .ok (.ifCond .ne 5, 3) := by decide +kernel
theorem dX11_gifts_14 : decode cX11_gifts 14 = .ok (.iconst (-1), 1) := by decide +kernel
theorem dX11_gifts_15 : decode cX11_gifts 15 = .ok (.ireturn, 1) := by decide +kernel
theorem dX11_gifts_16 : decode cX11_gifts 16 = .ok (.aload_n 0, 1) := by decide +kernel
theorem dX11_gifts_17 : decode cX11_gifts 17 = .ok (.getfield 70, 3) := by decide +kernel
theorem dX11_gifts_20 : decode cX11_gifts 20 = .ok (.invokevirtual 299, 3) := by decide +kernel
theorem dX11_gifts_23 : decode cX11_gifts 23 = .ok (.iload_n 1, 1) := by decide +kernel
theorem dX11_gifts_24 : decode cX11_gifts 24 = .ok (.aload_n 0, 1) := by decide +kernel
theorem dX11_gifts_25 : decode cX11_gifts 25 = .ok (.getfield 70, 3) := by decide +kernel
theorem dX11_gifts_28 : decode cX11_gifts 28 = .ok (.invokevirtual 330, 3) := by decide +kernel
theorem dX11_gifts_31 : decode cX11_gifts 31 = .ok (.iconst (-1), 1) := by decide +kernel
theorem dX11_gifts_32 : decode cX11_gifts 32 = .ok (.ixor, 1) := by decide +kernel
theorem dX11_gifts_33 : decode cX11_gifts 33 = .ok (.iand, 1) := by decide +kernel
theorem dX11_gifts_34 : decode cX11_gifts 34 = .ok (.ifCond .eq 6, 3) := by decide +kernel
theorem dX11_gifts_37 : decode cX11_gifts 37 = .ok (.bipush (-2), 2) := by decide +kernel
theorem dX11_gifts_39 : decode cX11_gifts 39 = .ok (.ireturn, 1) := by decide +kernel
theorem dX11_gifts_40 : decode cX11_gifts 40 = .ok (.aload_n 0, 1) := by decide +kernel
theorem dX11_gifts_41 : decode cX11_gifts 41 = .ok (.getfield 70, 3) := by decide +kernel
theorem dX11_gifts_44 : decode cX11_gifts 44 = .ok (.iload_n 1, 1) := by decide +kernel
theorem dX11_gifts_45 : decode cX11_gifts 45 = .ok (.invokevirtual 317, 3) := by decide +kernel
theorem dX11_gifts_48 : decode cX11_gifts 48 = .ok (.aload_n 0, 1) := by decide +kernel
theorem dX11_gifts_49 : decode cX11_gifts 49 = .ok (.getfield 33, 3) := by decide +kernel
theorem dX11_gifts_52 : decode cX11_gifts 52 = .ok (.aload_n 0, 1) := by decide +kernel
theorem dX11_gifts_53 : decode cX11_gifts 53 = .ok (.getfield 26, 3) := by decide +kernel
theorem dX11_gifts_56 : decode cX11_gifts 56 = .ok (.getfield 104, 3) := by decide +kernel
theorem dX11_gifts_59 : decode cX11_gifts 59 = .ok (.invokevirtual 232, 3) := by decide +kernel
theorem dX11_gifts_62 : decode cX11_gifts 62 = .ok (.if_icmp .le 6, 3) := by decide +kernel
theorem dX11_gifts_65 : decode cX11_gifts 65 = .ok (.bipush (-2), 2) := by decide +kernel
theorem dX11_gifts_67 : decode cX11_gifts 67 = .ok (.ireturn, 1) := by decide +kernel
theorem dX11_gifts_68 : decode cX11_gifts 68 = .ok (.iconst 0, 1) := by decide +kernel
theorem dX11_gifts_69 : decode cX11_gifts 69 = .ok (.istore_n 2, 1) := by decide +kernel
theorem dX11_gifts_70 : decode cX11_gifts 70 = .ok (.iconst 0, 1) := by decide +kernel
theorem dX11_gifts_71 : decode cX11_gifts 71 = .ok (.istore_n 3, 1) := by decide +kernel
theorem dX11_gifts_72 : decode cX11_gifts 72 = .ok (.iconst 0, 1) := by decide +kernel
theorem dX11_gifts_73 : decode cX11_gifts 73 = .ok (.istore 4, 2) := by decide +kernel
theorem dX11_gifts_75 : decode cX11_gifts 75 = .ok (.iload 4, 2) := by decide +kernel
theorem dX11_gifts_77 : decode cX11_gifts 77 = .ok (.aload_n 0, 1) := by decide +kernel
theorem dX11_gifts_78 : decode cX11_gifts 78 = .ok (.getfield 26, 3) := by decide +kernel
theorem dX11_gifts_81 : decode cX11_gifts 81 = .ok (.getfield 104, 3) := by decide +kernel
theorem dX11_gifts_84 : decode cX11_gifts 84 = .ok (.if_icmp .ge 55, 3) := by decide +kernel
theorem dX11_gifts_87 : decode cX11_gifts 87 = .ok (.aload_n 0, 1) := by decide +kernel
theorem dX11_gifts_88 : decode cX11_gifts 88 = .ok (.getfield 70, 3) := by decide +kernel
theorem dX11_gifts_91 : decode cX11_gifts 91 = .ok (.iload_n 1, 1) := by decide +kernel
theorem dX11_gifts_92 : decode cX11_gifts 92 = .ok (.aload_n 0, 1) := by decide +kernel
theorem dX11_gifts_93 : decode cX11_gifts 93 = .ok (.getfield 26, 3) := by decide +kernel
theorem dX11_gifts_96 : decode cX11_gifts 96 = .ok (.iload 4, 2) := by decide +kernel
theorem dX11_gifts_98 : decode cX11_gifts 98 = .ok (.invokevirtual 339, 3) := by decide +kernel
theorem dX11_gifts_101 : decode cX11_gifts 101 = .ok (.iand, 1) := by decide +kernel
theorem dX11_gifts_102 : decode cX11_gifts 102 = .ok (.invokevirtual 317, 3) := by decide +kernel
theorem dX11_gifts_105 : decode cX11_gifts 105 = .ok (.aload_n 0, 1) := by decide +kernel
theorem dX11_gifts_106 : decode cX11_gifts 106 = .ok (.getfield 33, 3) := by decide +kernel
theorem dX11_gifts_109 : decode cX11_gifts 109 = .ok (.getfield 146, 3) := by decide +kernel
theorem dX11_gifts_112 : decode cX11_gifts 112 = .ok (.iload 4, 2) := by decide +kernel
theorem dX11_gifts_114 : decode cX11_gifts 114 = .ok (.invokestatic 142, 3) := by decide +kernel
theorem dX11_gifts_117 : decode cX11_gifts 117 = .ok (.isub, 1) := by decide +kernel
theorem dX11_gifts_118 : decode cX11_gifts 118 = .ok (.istore 5, 2) := by decide +kernel
theorem dX11_gifts_120 : decode cX11_gifts 120 = .ok (.iload 5, 2) := by decide +kernel
theorem dX11_gifts_122 : decode cX11_gifts 122 = .ok (.ifCond .le 11, 3) := by decide +kernel
theorem dX11_gifts_125 : decode cX11_gifts 125 = .ok (.iload_n 2, 1) := by decide +kernel
theorem dX11_gifts_126 : decode cX11_gifts 126 = .ok (.iload 5, 2) := by decide +kernel
theorem dX11_gifts_128 : decode cX11_gifts 128 = .ok (.iadd, 1) := by decide +kernel
theorem dX11_gifts_129 : decode cX11_gifts 129 = .ok (.istore_n 2, 1) := by decide +kernel
theorem dX11_gifts_130 : decode cX11_gifts 130 = .ok (.iinc 3 1, 3) := by decide +kernel
theorem dX11_gifts_133 : decode cX11_gifts 133 = .ok (.iinc 4 1, 3) := by decide +kernel
theorem dX11_gifts_136 : decode cX11_gifts 136 = .ok (.goto (-61), 3) := by decide +kernel
theorem dX11_gifts_139 : decode cX11_gifts 139 = .ok (.aload_n 0, 1) := by decide +kernel
theorem dX11_gifts_140 : decode cX11_gifts 140 = .ok (.getfield 19, 3) := by decide +kernel
theorem dX11_gifts_143 : decode cX11_gifts 143 = .ok (.iload_n 3, 1) := by decide +kernel
theorem dX11_gifts_144 : decode cX11_gifts 144 = .ok (.invokevirtual 342, 3) := by decide +kernel
theorem dX11_gifts_147 : decode cX11_gifts 147 = .ok (.iload_n 2, 1) := by decide +kernel
theorem dX11_gifts_148 : decode cX11_gifts 148 = .ok (.ireturn, 1) := by decide +kernel
abbrev YX11_gifts : li_Y := (yX11_gifts, cX11_gifts, 6, (some .int))
theorem dX11_mute_0 : decode cX11_mute 0 = .ok (.aload_n 0, 1) := by decide +kernel
theorem dX11_mute_1 : decode cX11_mute 1 = .ok (.getfield 70, 3) := by decide +kernel
theorem dX11_mute_4 : decode cX11_mute 4 = .ok (.invokevirtual 299, 3) := by decide +kernel
theorem dX11_mute_7 : decode cX11_mute 7 = .ok (.aload_n 0, 1) := by decide +kernel
theorem dX11_mute_8 : decode cX11_mute 8 = .ok (.getfield 70, 3) := by decide +kernel
theorem dX11_mute_11 : decode cX11_mute 11 = .ok (.invokevirtual 345, 3) := by decide +kernel
theorem dX11_mute_14 : decode cX11_mute 14 = .ok (.istore_n 1, 1) := by decide +kernel
theorem dX11_mute_15 : decode cX11_mute 15 = .ok (.iload_n 1, 1) := by decide +kernel
theorem dX11_mute_16 : decode cX11_mute 16 = .ok (.ifCond .ge 6, 3) := by decide +kernel
theorem dX11_mute_19 : decode cX11_mute 19 = .ok (.bipush (-2), 2) := by decide +kernel
theorem dX11_mute_21 : decode cX11_mute 21 = .ok (.ireturn, 1) := by decide +kernel
theorem dX11_mute_22 : decode cX11_mute 22 = .ok (.aload_n 0, 1) := by decide +kernel
theorem dX11_mute_23 : decode cX11_mute 23 = .ok (.getfield 19, 3) := by decide +kernel
theorem dX11_mute_26 : decode cX11_mute 26 = .ok (.aload_n 0, 1) := by decide +kernel
theorem dX11_mute_27 : decode cX11_mute 27 = .ok (.getfield 70, 3) := by decide +kernel
theorem dX11_mute_30 : decode cX11_mute 30 = .ok (.getfield 348, 3) := by decide +kernel
theorem dX11_mute_33 : decode cX11_mute 33 = .ok (.iload_n 1, 1) := by decide +kernel
theorem dX11_mute_34 : decode cX11_mute 34 = .ok (.invokestatic 142, 3) := by decide +kernel
theorem dX11_mute_37 : decode cX11_mute 37 = .ok (.aload_n 0, 1) := by decide +kernel
theorem dX11_mute_38 : decode cX11_mute 38 = .ok (.getfield 33, 3) := by decide +kernel
theorem dX11_mute_41 : decode cX11_mute 41 = .ok (.getfield 146, 3) := by decide +kernel
theorem dX11_mute_44 : decode cX11_mute 44 = .ok (.aload_n 0, 1) := by decide +kernel
theorem dX11_mute_45 : decode cX11_mute 45 = .ok (.getfield 26, 3) := by decide +kernel
theorem dX11_mute_48 : decode cX11_mute 48 = .ok (.getfield 175, 3) := by decide +kernel
theorem dX11_mute_51 : decode cX11_mute 51 = .ok (.iload_n 1, 1) := by decide +kernel
theorem dX11_mute_52 : decode cX11_mute 52 = .ok (.invokestatic 142, 3) := by decide +kernel
theorem dX11_mute_55 : decode cX11_mute 55 = .ok (.invokestatic 142, 3) := by decide +kernel
theorem dX11_mute_58 : decode cX11_mute 58 = .ok (.invokevirtual 280, 3) := by decide +kernel
theorem dX11_mute_61 : decode cX11_mute 61 = .ok (.iload_n 1, 1) := by decide +kernel
theorem dX11_mute_62 : decode cX11_mute 62 = .ok (.ireturn, 1) := by decide +kernel
abbrev YX11_mute : li_Y := (yX11_mute, cX11_mute, 2, (some .int))
theorem dX11_relay_0 : decode cX11_relay 0 = .ok (.aload_n 0, 1) := by decide +kernel
theorem dX11_relay_1 : decode cX11_relay 1 = .ok (.getfield 26, 3) := by decide +kernel
theorem dX11_relay_4 : decode cX11_relay 4 = .ok (.iload_n 1, 1) := by decide +kernel
theorem dX11_relay_5 : decode cX11_relay 5 = .ok (.invokevirtual 125, 3) := by decide +kernel
theorem dX11_relay_8 : decode cX11_relay 8 = .ok (.ifCond .eq 24, 3) := by decide +kernel
theorem dX11_relay_11 : decode cX11_relay 11 = .ok (.aload_n 0, 1) := by decide +kernel
theorem dX11_relay_12 : decode cX11_relay 12 = .ok (.getfield 26, 3) := by decide +kernel
theorem dX11_relay_15 : decode cX11_relay 15 = .ok (.iload_n 2, 1) := by decide +kernel
theorem dX11_relay_16 : decode cX11_relay 16 = .ok (.invokevirtual 125, 3) := by decide +kernel
theorem dX11_relay_19 : decode cX11_relay 19 = .ok (.ifCond .eq 13, 3) := by decide +kernel
theorem dX11_relay_22 : decode cX11_relay 22 = .ok (.iload_n 3, 1) := by decide +kernel
theorem dX11_relay_23 : decode cX11_relay 23 = .ok (.iconst 1, 1) := by decide +kernel
theorem dX11_relay_24 : decode cX11_relay 24 = .ok (.bipush 99, 2) := by decide +kernel
theorem dX11_relay_26 : decode cX11_relay 26 = .ok (.invokestatic 128, 3) := by decide +kernel
theorem dX11_relay_29 : decode cX11_relay 29 = .ok (.ifCond .ne 5, 3) := by decide +kernel
theorem dX11_relay_32 : decode cX11_relay 32 = .ok (.iconst (-1), 1) := by decide +kernel
theorem dX11_relay_33 : decode cX11_relay 33 = .ok (.ireturn, 1) := by decide +kernel
theorem dX11_relay_34 : decode cX11_relay 34 = .ok (.aload_n 0, 1) := by decide +kernel
theorem dX11_relay_35 : decode cX11_relay 35 = .ok (.getfield 82, 3) := by decide +kernel
theorem dX11_relay_38 : decode cX11_relay 38 = .ok (.iload_n 1, 1) := by decide +kernel
theorem dX11_relay_39 : decode cX11_relay 39 = .ok (.iload_n 2, 1) := by decide +kernel
theorem dX11_relay_40 : decode cX11_relay 40 = .ok (.iload_n 3, 1) := by decide +kernel
theorem dX11_relay_41 : decode cX11_relay 41 = .ok (.invokevirtual 351, 3) := by decide +kernel
theorem dX11_relay_44 : decode cX11_relay 44 = .ok (.aload_n 0, 1) := by decide +kernel
theorem dX11_relay_45 : decode cX11_relay 45 = .ok (.getfield 82, 3) := by decide +kernel
theorem dX11_relay_48 : decode cX11_relay 48 = .ok (.getfield 354, 3) := by decide +kernel
theorem dX11_relay_51 : decode cX11_relay 51 = .ok (.ifCond .ne 6, 3) := by decide +kernel
theorem dX11_relay_54 : decode cX11_relay 54 = .ok (.bipush (-2), 2) := by decide +kernel
theorem dX11_relay_56 : decode cX11_relay 56 = .ok (.ireturn, 1) := by decide +kernel
theorem dX11_relay_57 : decode cX11_relay 57 = .ok (.aload_n 0, 1) := by decide +kernel
theorem dX11_relay_58 : decode cX11_relay 58 = .ok (.getfield 19, 3) := by decide +kernel
theorem dX11_relay_61 : decode cX11_relay 61 = .ok (.aload_n 0, 1) := by decide +kernel
theorem dX11_relay_62 : decode cX11_relay 62 = .ok (.getfield 82, 3) := by decide +kernel
theorem dX11_relay_65 : decode cX11_relay 65 = .ok (.getfield 357, 3) := by decide +kernel
theorem dX11_relay_68 : decode cX11_relay 68 = .ok (.iconst 0, 1) := by decide +kernel
theorem dX11_relay_69 : decode cX11_relay 69 = .ok (.aload_n 0, 1) := by decide +kernel
theorem dX11_relay_70 : decode cX11_relay 70 = .ok (.getfield 82, 3) := by decide +kernel
theorem dX11_relay_73 : decode cX11_relay 73 = .ok (.getfield 354, 3) := by decide +kernel
theorem dX11_relay_76 : decode cX11_relay 76 = .ok (.invokevirtual 360, 3) := by decide +kernel
theorem dX11_relay_79 : decode cX11_relay 79 = .ok (.aload_n 0, 1) := by decide +kernel
theorem dX11_relay_80 : decode cX11_relay 80 = .ok (.getfield 82, 3) := by decide +kernel
theorem dX11_relay_83 : decode cX11_relay 83 = .ok (.getfield 363, 3) := by decide +kernel
theorem dX11_relay_86 : decode cX11_relay 86 = .ok (.ireturn, 1) := by decide +kernel
abbrev YX11_relay : li_Y := (yX11_relay, cX11_relay, 4, (some .int))
theorem dX11_criers_0 : decode cX11_criers 0 = .ok (.aload_n 0, 1) := by decide +kernel
theorem dX11_criers_1 : decode cX11_criers 1 = .ok (.getfield 26, 3) := by decide +kernel
theorem dX11_criers_4 : decode cX11_criers 4 = .ok (.iload_n 1, 1) := by decide +kernel
theorem dX11_criers_5 : decode cX11_criers 5 = .ok (.invokevirtual 125, 3) := by decide +kernel
theorem dX11_criers_8 : decode cX11_criers 8 = .ok (.ifCond .eq 27, 3) := by decide +kernel
theorem dX11_criers_11 : decode cX11_criers 11 = .ok (.iload_n 2, 1) := by decide +kernel
theorem dX11_criers_12 : decode cX11_criers 12 = .ok (.aload_n 0, 1) := by decide +kernel
theorem dX11_criers_13 : decode cX11_criers 13 = .ok (.getfield 26, 3) := by decide +kernel
theorem dX11_criers_16 : decode cX11_criers 16 = .ok (.getfield 104, 3) := by decide +kernel
theorem dX11_criers_19 : decode cX11_criers 19 = .ok (.invokestatic 336, 3) := by decide +kernel
theorem dX11_criers_22 : decode cX11_criers 22 = .ok (.ifCond .eq 13, 3) := by decide +kernel
theorem dX11_criers_25 : decode cX11_criers 25 = .ok (.iload_n 3, 1) := by decide +kernel
theorem dX11_criers_26 : decode cX11_criers 26 = .ok (.iconst 1, 1) := by decide +kernel
theorem dX11_criers_27 : decode cX11_criers 27 = .ok (.bipush 99, 2) := by decide +kernel
theorem dX11_criers_29 : decode cX11_criers 29 = .ok (.invokestatic 128, 3) := by decide +kernel
theorem dX11_criers_32 : decode cX11_criers 32 = .ok (.ifCond .ne 5, 3) := by decide +kernel
theorem dX11_criers_35 : decode cX11_criers 35 = .ok (.iconst (-1), 1) := by decide +kernel
theorem dX11_criers_36 : decode cX11_criers 36 = .ok (.ireturn, 1) := by decide +kernel
theorem dX11_criers_37 : decode cX11_criers 37 = .ok (.aload_n 0, 1) := by decide +kernel
theorem dX11_criers_38 : decode cX11_criers 38 = .ok (.getfield 82, 3) := by decide +kernel
theorem dX11_criers_41 : decode cX11_criers 41 = .ok (.iload_n 1, 1) := by decide +kernel
theorem dX11_criers_42 : decode cX11_criers 42 = .ok (.iload_n 2, 1) := by decide +kernel
theorem dX11_criers_43 : decode cX11_criers 43 = .ok (.iload_n 3, 1) := by decide +kernel
theorem dX11_criers_44 : decode cX11_criers 44 = .ok (.invokevirtual 366, 3) := by decide +kernel
theorem dX11_criers_47 : decode cX11_criers 47 = .ok (.istore 4, 2) := by decide +kernel
theorem dX11_criers_49 : decode cX11_criers 49 = .ok (.iload 4, 2) := by decide +kernel
theorem dX11_criers_51 : decode cX11_criers 51 = .ok (.ifCond .ge 6, 3) := by decide +kernel
theorem dX11_criers_54 : decode cX11_criers 54 = .ok (.bipush (-2), 2) := by decide +kernel
theorem dX11_criers_56 : decode cX11_criers 56 = .ok (.ireturn, 1) := by decide +kernel
theorem dX11_criers_57 : decode cX11_criers 57 = .ok (.aload_n 0, 1) := by decide +kernel
theorem dX11_criers_58 : decode cX11_criers 58 = .ok (.getfield 19, 3) := by decide +kernel
theorem dX11_criers_61 : decode cX11_criers 61 = .ok (.iload 4, 2) := by decide +kernel
theorem dX11_criers_63 : decode cX11_criers 63 = .ok (.invokevirtual 342, 3) := by decide +kernel
theorem dX11_criers_66 : decode cX11_criers 66 = .ok (.iload 4, 2) := by decide +kernel
theorem dX11_criers_68 : decode cX11_criers 68 = .ok (.invokestatic 320, 3) := by decide +kernel
theorem dX11_criers_71 : decode cX11_criers 71 = .ok (.ireturn, 1) := by decide +kernel
abbrev YX11_criers : li_Y := (yX11_criers, cX11_criers, 5, (some .int))
theorem dX11_grammar_0 : decode cX11_grammar 0 = .ok (.aload_n 0, 1) := by decide +kernel
theorem dX11_grammar_1 : decode cX11_grammar 1 = .ok (.iconst 3, 1) := by decide +kernel
theorem dX11_grammar_2 : decode cX11_grammar 2 = .ok (.bipush 10, 2) := by decide +kernel
theorem dX11_grammar_4 : decode cX11_grammar 4 = .ok (.bipush 80, 2) := by decide +kernel
theorem dX11_grammar_6 : decode cX11_grammar 6 = .ok (.invokevirtual 107, 3) := by decide +kernel
theorem dX11_grammar_9 : decode cX11_grammar 9 = .ok (.istore_n 1, 1) := by decide +kernel
theorem dX11_grammar_10 : decode cX11_grammar 10 = .ok (.iload_n 1, 1) := by decide +kernel
theorem dX11_grammar_11 : decode cX11_grammar 11 = .ok (.ifCond .lt 11, 3) := by decide +kernel
theorem dX11_grammar_14 : decode cX11_grammar 14 = .ok (.aload_n 0, 1) := by decide +kernel
theorem dX11_grammar_15 : decode cX11_grammar 15 = .ok (.getfield 57, 3) := by decide +kernel
theorem dX11_grammar_18 : decode cX11_grammar 18 = .ok (.iload_n 1, 1) := by decide +kernel
theorem dX11_grammar_19 : decode cX11_grammar 19 = .ok (.invokevirtual 369, 3) := by decide +kernel
theorem dX11_grammar_22 : decode cX11_grammar 22 = .ok (.iload_n 1, 1) := by decide +kernel
theorem dX11_grammar_23 : decode cX11_grammar 23 = .ok (.ireturn, 1) := by decide +kernel
abbrev YX11_grammar : li_Y := (yX11_grammar, cX11_grammar, 2, (some .int))
theorem dX11_read_0 : decode cX11_read 0 = .ok (.aload_n 0, 1) := by decide +kernel
theorem dX11_read_1 : decode cX11_read 1 = .ok (.getfield 26, 3) := by decide +kernel
theorem dX11_read_4 : decode cX11_read 4 = .ok (.iload_n 1, 1) := by decide +kernel
theorem dX11_read_5 : decode cX11_read 5 = .ok (.invokevirtual 125, 3) := by decide +kernel
theorem dX11_read_8 : decode cX11_read 8 = .ok (.ifCond .eq 14, 3) := by decide +kernel
theorem dX11_read_11 : decode cX11_read 11 = .ok (.iload_n 2, 1) := by decide +kernel
theorem dX11_read_12 : decode cX11_read 12 = .ok (.iconst 0, 1) := by decide +kernel
theorem dX11_read_13 : decode cX11_read 13 = .ok (.sipush 9999, 3) := by decide +kernel
theorem dX11_read_16 : decode cX11_read 16 = .ok (.invokestatic 128, 3) := by decide +kernel
theorem dX11_read_19 : decode cX11_read 19 = .ok (.ifCond .ne 5, 3) := by decide +kernel
theorem dX11_read_22 : decode cX11_read 22 = .ok (.iconst (-1), 1) := by decide +kernel
theorem dX11_read_23 : decode cX11_read 23 = .ok (.ireturn, 1) := by decide +kernel
theorem dX11_read_24 : decode cX11_read 24 = .ok (.aload_n 0, 1) := by decide +kernel
theorem dX11_read_25 : decode cX11_read 25 = .ok (.getfield 89, 3) := by decide +kernel
theorem dX11_read_28 : decode cX11_read 28 = .ok (.iload_n 1, 1) := by decide +kernel
theorem dX11_read_29 : decode cX11_read 29 = .ok (.iload_n 2, 1) := by decide +kernel
theorem dX11_read_30 : decode cX11_read 30 = .ok (.invokevirtual 384, 3) := by decide +kernel
theorem dX11_read_33 : decode cX11_read 33 = .ok (.aload_n 0, 1) := by decide +kernel
theorem dX11_read_34 : decode cX11_read 34 = .ok (.getfield 89, 3) := by decide +kernel
theorem dX11_read_37 : decode cX11_read 37 = .ok (.getfield 386, 3) := by decide +kernel
theorem dX11_read_40 : decode cX11_read 40 = .ok (.invokestatic 320, 3) := by decide +kernel
theorem dX11_read_43 : decode cX11_read 43 = .ok (.ireturn, 1) := by decide +kernel
abbrev YX11_read : li_Y := (yX11_read, cX11_read, 3, (some .int))
theorem dX11_forget_0 : decode cX11_forget 0 = .ok (.aload_n 0, 1) := by decide +kernel
theorem dX11_forget_1 : decode cX11_forget 1 = .ok (.getfield 89, 3) := by decide +kernel
theorem dX11_forget_4 : decode cX11_forget 4 = .ok (.getfield 386, 3) := by decide +kernel
theorem dX11_forget_7 : decode cX11_forget 7 = .ok (.invokestatic 320, 3) := by decide +kernel
theorem dX11_forget_10 : decode cX11_forget 10 = .ok (.istore_n 1, 1) := by decide +kernel
theorem dX11_forget_11 : decode cX11_forget 11 = .ok (.aload_n 0, 1) := by decide +kernel
theorem dX11_forget_12 : decode cX11_forget 12 = .ok (.getfield 89, 3) := by decide +kernel
theorem dX11_forget_15 : decode cX11_forget 15 = .ok (.iconst 0, 1) := by decide +kernel
theorem dX11_forget_16 : decode cX11_forget 16 = .ok (.putfield 386, 3) := by decide +kernel
theorem dX11_forget_19 : decode cX11_forget 19 = .ok (.iload_n 1, 1) := by decide +kernel
theorem dX11_forget_20 : decode cX11_forget 20 = .ok (.ireturn, 1) := by decide +kernel
abbrev YX11_forget : li_Y := (yX11_forget, cX11_forget, 2, (some .int))
theorem dX11_spoke_0 : decode cX11_spoke 0 = .ok (.aload_n 0, 1) := by decide +kernel
theorem dX11_spoke_1 : decode cX11_spoke 1 = .ok (.getfield 26, 3) := by decide +kernel
theorem dX11_spoke_4 : decode cX11_spoke 4 = .ok (.iload_n 1, 1) := by decide +kernel
theorem dX11_spoke_5 : decode cX11_spoke 5 = .ok (.invokevirtual 125, 3) := by decide +kernel
theorem dX11_spoke_8 : decode cX11_spoke 8 = .ok (.ifCond .ne 5, 3) := by decide +kernel
theorem dX11_spoke_11 : decode cX11_spoke 11 = .ok (.iconst (-1), 1) := by decide +kernel
theorem dX11_spoke_12 : decode cX11_spoke 12 = .ok (.ireturn, 1) := by decide +kernel
theorem dX11_spoke_13 : decode cX11_spoke 13 = .ok (.aload_n 0, 1) := by decide +kernel
theorem dX11_spoke_14 : decode cX11_spoke 14 = .ok (.getfield 89, 3) := by decide +kernel
theorem dX11_spoke_17 : decode cX11_spoke 17 = .ok (.getfield 386, 3) := by decide +kernel
theorem dX11_spoke_20 : decode cX11_spoke 20 = .ok (.iload_n 1, 1) := by decide +kernel
theorem dX11_spoke_21 : decode cX11_spoke 21 = .ok (.invokestatic 193, 3) := by decide +kernel
theorem dX11_spoke_24 : decode cX11_spoke 24 = .ok (.ifCond .ne 6, 3) := by decide +kernel
theorem dX11_spoke_27 : decode cX11_spoke 27 = .ok (.bipush (-2), 2) := by decide +kernel
theorem dX11_spoke_29 : decode cX11_spoke 29 = .ok (.ireturn, 1) := by decide +kernel
theorem dX11_spoke_30 : decode cX11_spoke 30 = .ok (.aload_n 0, 1) := by decide +kernel
theorem dX11_spoke_31 : decode cX11_spoke 31 = .ok (.getfield 70, 3) := by decide +kernel
theorem dX11_spoke_34 : decode cX11_spoke 34 = .ok (.invokevirtual 299, 3) := by decide +kernel
theorem dX11_spoke_37 : decode cX11_spoke 37 = .ok (.aload_n 0, 1) := by decide +kernel
theorem dX11_spoke_38 : decode cX11_spoke 38 = .ok (.getfield 89, 3) := by decide +kernel
theorem dX11_spoke_41 : decode cX11_spoke 41 = .ok (.iload_n 1, 1) := by decide +kernel
theorem dX11_spoke_42 : decode cX11_spoke 42 = .ok (.invokevirtual 389, 3) := by decide +kernel
theorem dX11_spoke_45 : decode cX11_spoke 45 = .ok (.aload_n 0, 1) := by decide +kernel
theorem dX11_spoke_46 : decode cX11_spoke 46 = .ok (.getfield 19, 3) := by decide +kernel
theorem dX11_spoke_49 : decode cX11_spoke 49 = .ok (.aload_n 0, 1) := by decide +kernel
theorem dX11_spoke_50 : decode cX11_spoke 50 = .ok (.getfield 89, 3) := by decide +kernel
theorem dX11_spoke_53 : decode cX11_spoke 53 = .ok (.getfield 392, 3) := by decide +kernel
theorem dX11_spoke_56 : decode cX11_spoke 56 = .ok (.aload_n 0, 1) := by decide +kernel
theorem dX11_spoke_57 : decode cX11_spoke 57 = .ok (.getfield 89, 3) := by decide +kernel
theorem dX11_spoke_60 : decode cX11_spoke 60 = .ok (.getfield 395, 3) := by decide +kernel
theorem dX11_spoke_63 : decode cX11_spoke 63 = .ok (.invokevirtual 280, 3) := by decide +kernel
theorem dX11_spoke_66 : decode cX11_spoke 66 = .ok (.aload_n 0, 1) := by decide +kernel
theorem dX11_spoke_67 : decode cX11_spoke 67 = .ok (.getfield 89, 3) := by decide +kernel
theorem dX11_spoke_70 : decode cX11_spoke 70 = .ok (.getfield 398, 3) := by decide +kernel
theorem dX11_spoke_73 : decode cX11_spoke 73 = .ok (.ireturn, 1) := by decide +kernel
abbrev YX11_spoke : li_Y := (yX11_spoke, cX11_spoke, 2, (some .int))
theorem dX11_look_0 : decode cX11_look 0 = .ok (.aload_n 0, 1) := by decide +kernel
theorem dX11_look_1 : decode cX11_look 1 = .ok (.getfield 70, 3) := by decide +kernel
theorem dX11_look_4 : decode cX11_look 4 = .ok (.invokevirtual 299, 3) := by decide +kernel
theorem dX11_look_7 : decode cX11_look 7 = .ok (.iconst 0, 1) := by decide +kernel
theorem dX11_look_8 : decode cX11_look 8 = .ok (.istore_n 1, 1) := by decide +kernel
theorem dX11_look_9 : decode cX11_look 9 = .ok (.iconst (-1), 1) := by decide +kernel
theorem dX11_look_10 : decode cX11_look 10 = .ok (.istore_n 2, 1) := by decide +kernel
theorem dX11_look_11 : decode cX11_look 11 = .ok (.iconst 0, 1) := by decide +kernel
theorem dX11_look_12 : decode cX11_look 12 = .ok (.istore_n 3, 1) := by decide +kernel
theorem dX11_look_13 : decode cX11_look 13 = .ok (.iload_n 3, 1) := by decide +kernel
theorem dX11_look_14 : decode cX11_look 14 = .ok (.aload_n 0, 1) := by decide +kernel
theorem dX11_look_15 : decode cX11_look 15 = .ok (.getfield 26, 3) := by decide +kernel
theorem dX11_look_18 : decode cX11_look 18 = .ok (.getfield 104, 3) := by decide +kernel
theorem dX11_look_21 : decode cX11_look 21 = .ok (.if_icmp .ge 48, 3) := by decide +kernel
theorem dX11_look_24 : decode cX11_look 24 = .ok (.aload_n 0, 1) := by decide +kernel
theorem dX11_look_25 : decode cX11_look 25 = .ok (.getfield 89, 3) := by decide +kernel
theorem dX11_look_28 : decode cX11_look 28 = .ok (.getfield 386, 3) := by decide +kernel
theorem dX11_look_31 : decode cX11_look 31 = .ok (.iload_n 3, 1) := by decide +kernel
theorem dX11_look_32 : decode cX11_look 32 = .ok (.invokestatic 193, 3) := by decide +kernel
theorem dX11_look_35 : decode cX11_look 35 = .ok (.ifCond .eq 7, 3) := by decide +kernel
theorem dX11_look_38 : decode cX11_look 38 = .ok (.iconst 0, 1) := by decide +kernel
theorem dX11_look_39 : decode cX11_look 39 = .ok (.goto 11, 3) := by decide +kernel
theorem dX11_look_42 : decode cX11_look 42 = .ok (.aload_n 0, 1) := by decide +kernel
theorem dX11_look_43 : decode cX11_look 43 = .ok (.getfield 89, 3) := by decide +kernel
theorem dX11_look_46 : decode cX11_look 46 = .ok (.iload_n 3, 1) := by decide +kernel
theorem dX11_look_47 : decode cX11_look 47 = .ok (.invokevirtual 401, 3) := by decide +kernel
theorem dX11_look_50 : decode cX11_look 50 = .ok (.istore 4, 2) := by decide +kernel
theorem dX11_look_52 : decode cX11_look 52 = .ok (.iload 4, 2) := by decide +kernel
theorem dX11_look_54 : decode cX11_look 54 = .ok (.iload_n 1, 1) := by decide +kernel
theorem dX11_look_55 : decode cX11_look 55 = .ok (.if_icmp .le 8, 3) := by decide +kernel
theorem dX11_look_58 : decode cX11_look 58 = .ok (.iload 4, 2) := by decide +kernel
theorem dX11_look_60 : decode cX11_look 60 = .ok (.istore_n 1, 1) := by decide +kernel
theorem dX11_look_61 : decode cX11_look 61 = .ok (.iload_n 3, 1) := by decide +kernel
theorem dX11_look_62 : decode cX11_look 62 = .ok (.istore_n 2, 1) := by decide +kernel
theorem dX11_look_63 : decode cX11_look 63 = .ok (.iinc 3 1, 3) := by decide +kernel
theorem dX11_look_66 : decode cX11_look 66 = .ok (.goto (-53), 3) := by decide +kernel
theorem dX11_look_69 : decode cX11_look 69 = .ok (.iload_n 2, 1) := by decide +kernel
theorem dX11_look_70 : decode cX11_look 70 = .ok (.ifCond .ge 6, 3) := by decide +kernel
theorem dX11_look_73 : decode cX11_look 73 = .ok (.bipush (-2), 2) := by decide +kernel
theorem dX11_look_75 : decode cX11_look 75 = .ok (.ireturn, 1) := by decide +kernel
theorem dX11_look_76 : decode cX11_look 76 = .ok (.aload_n 0, 1) := by decide +kernel
theorem dX11_look_77 : decode cX11_look 77 = .ok (.getfield 19, 3) := by decide +kernel
theorem dX11_look_80 : decode cX11_look 80 = .ok (.iload_n 1, 1) := by decide +kernel
theorem dX11_look_81 : decode cX11_look 81 = .ok (.invokevirtual 342, 3) := by decide +kernel
theorem dX11_look_84 : decode cX11_look 84 = .ok (.iload_n 2, 1) := by decide +kernel
theorem dX11_look_85 : decode cX11_look 85 = .ok (.ireturn, 1) := by decide +kernel
abbrev YX11_look : li_Y := (yX11_look, cX11_look, 5, (some .int))
theorem dX11_rate_0 : decode cX11_rate 0 = .ok (.aload_n 0, 1) := by decide +kernel
theorem dX11_rate_1 : decode cX11_rate 1 = .ok (.iconst 4, 1) := by decide +kernel
theorem dX11_rate_2 : decode cX11_rate 2 = .ok (.iconst 0, 1) := by decide +kernel
theorem dX11_rate_3 : decode cX11_rate 3 = .ok (.bipush 40, 2) := by decide +kernel
theorem dX11_rate_5 : decode cX11_rate 5 = .ok (.invokevirtual 107, 3) := by decide +kernel
theorem dX11_rate_8 : decode cX11_rate 8 = .ok (.istore_n 1, 1) := by decide +kernel
theorem dX11_rate_9 : decode cX11_rate 9 = .ok (.iload_n 1, 1) := by decide +kernel
theorem dX11_rate_10 : decode cX11_rate 10 = .ok (.ifCond .ge 9, 3) := by decide +kernel
theorem dX11_rate_13 : decode cX11_rate 13 = .ok (.iload_n 1, 1) := by decide +kernel
theorem dX11_rate_14 : decode cX11_rate 14 = .ok (.sipush 9999, 3) := by decide +kernel
theorem dX11_rate_17 : decode cX11_rate 17 = .ok (.isub, 1) := by decide +kernel
theorem dX11_rate_18 : decode cX11_rate 18 = .ok (.ireturn, 1) := by decide +kernel
theorem dX11_rate_19 : decode cX11_rate 19 = .ok (.aload_n 0, 1) := by decide +kernel
theorem dX11_rate_20 : decode cX11_rate 20 = .ok (.aload_n 0, 1) := by decide +kernel
theorem dX11_rate_21 : decode cX11_rate 21 = .ok (.getfield 74, 3) := by decide +kernel
theorem dX11_rate_24 : decode cX11_rate 24 = .ok (.invokevirtual 404, 3) := by decide +kernel
theorem dX11_rate_27 : decode cX11_rate 27 = .ok (.istore_n 2, 1) := by decide +kernel
theorem dX11_rate_28 : decode cX11_rate 28 = .ok (.aload_n 0, 1) := by decide +kernel
theorem dX11_rate_29 : decode cX11_rate 29 = .ok (.aload_n 0, 1) := by decide +kernel
theorem dX11_rate_30 : decode cX11_rate 30 = .ok (.getfield 70, 3) := by decide +kernel
theorem dX11_rate_33 : decode cX11_rate 33 = .ok (.invokevirtual 404, 3) := by decide +kernel
theorem dX11_rate_36 : decode cX11_rate 36 = .ok (.istore_n 3, 1) := by decide +kernel
theorem dX11_rate_37 : decode cX11_rate 37 = .ok (.aload_n 0, 1) := by decide +kernel
theorem dX11_rate_38 : decode cX11_rate 38 = .ok (.getfield 19, 3) := by decide +kernel
theorem dX11_rate_41 : decode cX11_rate 41 = .ok (.iload_n 2, 1) := by decide +kernel
theorem dX11_rate_42 : decode cX11_rate 42 = .ok (.iload_n 3, 1) := by decide +kernel
theorem dX11_rate_43 : decode cX11_rate 43 = .ok (.invokevirtual 280, 3) := by decide +kernel
theorem dX11_rate_46 : decode cX11_rate 46 = .ok (.iload_n 2, 1) := by decide +kernel
theorem dX11_rate_47 : decode cX11_rate 47 = .ok (.iload_n 3, 1) := by decide +kernel
theorem dX11_rate_48 : decode cX11_rate 48 = .ok (.isub, 1) := by decide +kernel
theorem dX11_rate_49 : decode cX11_rate 49 = .ok (.ireturn, 1) := by decide +kernel
abbrev YX11_rate : li_Y := (yX11_rate, cX11_rate, 4, (some .int))
theorem dX11_run_0 : decode cX11_run 0 = .ok (.aload_n 0, 1) := by decide +kernel
theorem dX11_run_1 : decode cX11_run 1 = .ok (.getfield 26, 3) := by decide +kernel
theorem dX11_run_4 : decode cX11_run 4 = .ok (.iload_n 1, 1) := by decide +kernel
theorem dX11_run_5 : decode cX11_run 5 = .ok (.invokevirtual 125, 3) := by decide +kernel
theorem dX11_run_8 : decode cX11_run 8 = .ok (.ifCond .ne 5, 3) := by decide +kernel
theorem dX11_run_11 : decode cX11_run 11 = .ok (.iconst (-1), 1) := by decide +kernel
theorem dX11_run_12 : decode cX11_run 12 = .ok (.ireturn, 1) := by decide +kernel
theorem dX11_run_13 : decode cX11_run 13 = .ok (.aload_n 0, 1) := by decide +kernel
theorem dX11_run_14 : decode cX11_run 14 = .ok (.getfield 33, 3) := by decide +kernel
theorem dX11_run_17 : decode cX11_run 17 = .ok (.iload_n 1, 1) := by decide +kernel
theorem dX11_run_18 : decode cX11_run 18 = .ok (.aload_n 0, 1) := by decide +kernel
theorem dX11_run_19 : decode cX11_run 19 = .ok (.getfield 26, 3) := by decide +kernel
theorem dX11_run_22 : decode cX11_run 22 = .ok (.getfield 104, 3) := by decide +kernel
theorem dX11_run_25 : decode cX11_run 25 = .ok (.invokevirtual 408, 3) := by decide +kernel
theorem dX11_run_28 : decode cX11_run 28 = .ok (.istore_n 2, 1) := by decide +kernel
theorem dX11_run_29 : decode cX11_run 29 = .ok (.aload_n 0, 1) := by decide +kernel
theorem dX11_run_30 : decode cX11_run 30 = .ok (.getfield 19, 3) := by decide +kernel
theorem dX11_run_33 : decode cX11_run 33 = .ok (.iload_n 2, 1) := by decide +kernel
theorem dX11_run_34 : decode cX11_run 34 = .ok (.invokestatic 320, 3) := by decide +kernel
theorem dX11_run_37 : decode cX11_run 37 = .ok (.aload_n 0, 1) := by decide +kernel
theorem dX11_run_38 : decode cX11_run 38 = .ok (.getfield 33, 3) := by decide +kernel
theorem dX11_run_41 : decode cX11_run 41 = .ok (.iload_n 2, 1) := by decide +kernel
theorem dX11_run_42 : decode cX11_run 42 = .ok (.invokevirtual 411, 3) := by decide +kernel
theorem dX11_run_45 : decode cX11_run 45 = .ok (.l2i, 1) := by decide +kernel
theorem dX11_run_46 : decode cX11_run 46 = .ok (.invokevirtual 280, 3) := by decide +kernel
theorem dX11_run_49 : decode cX11_run 49 = .ok (.iload_n 2, 1) := by decide +kernel
theorem dX11_run_50 : decode cX11_run 50 = .ok (.ireturn, 1) := by decide +kernel
abbrev YX11_run : li_Y := (yX11_run, cX11_run, 3, (some .int))
theorem dX11_years_0 : decode cX11_years 0 = .ok (.iload_n 2, 1) := by decide +kernel
theorem dX11_years_1 : decode cX11_years 1 = .ok (.iconst 1, 1) := by decide +kernel
theorem dX11_years_2 : decode cX11_years 2 = .ok (.bipush 60, 2) := by decide +kernel
theorem dX11_years_4 : decode cX11_years 4 = .ok (.invokestatic 128, 3) := by decide +kernel
theorem dX11_years_7 : decode cX11_years 7 = .ok (.ifCond .ne 5, 3) := by decide +kernel
theorem dX11_years_10 : decode cX11_years 10 = .ok (.iconst (-1), 1) := by decide +kernel
theorem dX11_years_11 : decode cX11_years 11 = .ok (.ireturn, 1) := by decide +kernel
theorem dX11_years_12 : decode cX11_years 12 = .ok (.aload_n 0, 1) := by decide +kernel
theorem dX11_years_13 : decode cX11_years 13 = .ok (.getfield 40, 3) := by decide +kernel
theorem dX11_years_16 : decode cX11_years 16 = .ok (.aload_n 0, 1) := by decide +kernel
theorem dX11_years_17 : decode cX11_years 17 = .ok (.getfield 33, 3) := by decide +kernel
theorem dX11_years_20 : decode cX11_years 20 = .ok (.invokevirtual 241, 3) := by decide +kernel
theorem dX11_years_23 : decode cX11_years 23 = .ok (.iload_n 1, 1) := by decide +kernel
theorem dX11_years_24 : decode cX11_years 24 = .ok (.istore_n 3, 1) := by decide +kernel
theorem dX11_years_25 : decode cX11_years 25 = .ok (.iconst 0, 1) := by decide +kernel
theorem dX11_years_26 : decode cX11_years 26 = .ok (.istore 4, 2) := by decide +kernel
theorem dX11_years_28 : decode cX11_years 28 = .ok (.iconst 0, 1) := by decide +kernel
theorem dX11_years_29 : decode cX11_years 29 = .ok (.istore 5, 2) := by decide +kernel
theorem dX11_years_31 : decode cX11_years 31 = .ok (.iconst 0, 1) := by decide +kernel
theorem dX11_years_32 : decode cX11_years 32 = .ok (.istore 6, 2) := by decide +kernel
theorem dX11_years_34 : decode cX11_years 34 = .ok (.iconst 0, 1) := by decide +kernel
theorem dX11_years_35 : decode cX11_years 35 = .ok (.istore 7, 2) := by decide +kernel
theorem dX11_years_37 : decode cX11_years 37 = .ok (.iload 7, 2) := by decide +kernel
theorem dX11_years_39 : decode cX11_years 39 = .ok (.iload_n 2, 1) := by decide +kernel
theorem dX11_years_40 : decode cX11_years 40 = .ok (.if_icmp .ge 88, 3) := by decide +kernel
theorem dX11_years_43 : decode cX11_years 43 = .ok (.iload_n 3, 1) := by decide +kernel
theorem dX11_years_44 : decode cX11_years 44 = .ok (.ldc_w 414, 3) := by decide +kernel
theorem dX11_years_47 : decode cX11_years 47 = .ok (.imul, 1) := by decide +kernel
theorem dX11_years_48 : decode cX11_years 48 = .ok (.sipush 12345, 3) := by decide +kernel
theorem dX11_years_51 : decode cX11_years 51 = .ok (.iadd, 1) := by decide +kernel
theorem dX11_years_52 : decode cX11_years 52 = .ok (.istore_n 3, 1) := by decide +kernel
theorem dX11_years_53 : decode cX11_years 53 = .ok (.iload_n 3, 1) := by decide +kernel
theorem dX11_years_54 : decode cX11_years 54 = .ok (.bipush 16, 2) := by decide +kernel
theorem dX11_years_56 : decode cX11_years 56 = .ok (.iushr, 1) := by decide +kernel
theorem dX11_years_57 : decode cX11_years 57 = .ok (.bipush 10, 2) := by decide +kernel
theorem dX11_years_59 : decode cX11_years 59 = .ok (.irem, 1) := by decide +kernel
theorem dX11_years_60 : decode cX11_years 60 = .ok (.istore 8, 2) := by decide +kernel
theorem dX11_years_62 : decode cX11_years 62 = .ok (.aload_n 0, 1) := by decide +kernel
theorem dX11_years_63 : decode cX11_years 63 = .ok (.iload 8, 2) := by decide +kernel
theorem dX11_years_65 : decode cX11_years 65 = .ok (.aload_n 0, 1) := by decide +kernel
theorem dX11_years_66 : decode cX11_years 66 = .ok (.getfield 70, 3) := by decide +kernel
theorem dX11_years_69 : decode cX11_years 69 = .ok (.iload 8, 2) := by decide +kernel
theorem dX11_years_71 : decode cX11_years 71 = .ok (.invokevirtual 201, 3) := by decide +kernel
theorem dX11_years_74 : decode cX11_years 74 = .ok (.invokevirtual 245, 3) := by decide +kernel
theorem dX11_years_77 : decode cX11_years 77 = .ok (.istore 9, 2) := by decide +kernel
theorem dX11_years_79 : decode cX11_years 79 = .ok (.iload 9, 2) := by decide +kernel
theorem dX11_years_81 : decode cX11_years 81 = .ok (.ifCond .lt 30, 3) := by decide +kernel
theorem dX11_years_84 : decode cX11_years 84 = .ok (.iinc 4 1, 3) := by decide +kernel
theorem dX11_years_87 : decode cX11_years 87 = .ok (.iload 5, 2) := by decide +kernel
theorem dX11_years_89 : decode cX11_years 89 = .ok (.iload 9, 2) := by decide +kernel
theorem dX11_years_91 : decode cX11_years 91 = .ok (.iadd, 1) := by decide +kernel
theorem dX11_years_92 : decode cX11_years 92 = .ok (.istore 5, 2) := by decide +kernel
theorem dX11_years_94 : decode cX11_years 94 = .ok (.iload 6, 2) := by decide +kernel
theorem dX11_years_96 : decode cX11_years 96 = .ok (.aload_n 0, 1) := by decide +kernel
theorem dX11_years_97 : decode cX11_years 97 = .ok (.getfield 26, 3) := by decide +kernel
theorem dX11_years_100 : decode cX11_years 100 = .ok (.getfield 187, 3) := by decide +kernel
theorem dX11_years_103 : decode cX11_years 103 = .ok (.iload 8, 2) := by decide +kernel
theorem dX11_years_105 : decode cX11_years 105 = .ok (.invokestatic 142, 3) := by decide +kernel
theorem dX11_years_108 : decode cX11_years 108 = .ok (.iadd, 1) := by decide +kernel
theorem dX11_years_109 : decode cX11_years 109 = .ok (.istore 6, 2) := by decide +kernel
theorem dX11_years_111 : decode cX11_years 111 = .ok (.aload_n 0, 1) := by decide +kernel
theorem dX11_years_112 : decode cX11_years 112 = .ok (.getfield 33, 3) := by decide +kernel
theorem dX11_years_115 : decode cX11_years 115 = .ok (.aload_n 0, 1) := by decide +kernel
theorem dX11_years_116 : decode cX11_years 116 = .ok (.getfield 26, 3) := by decide +kernel
theorem dX11_years_119 : decode cX11_years 119 = .ok (.invokevirtual 415, 3) := by decide +kernel
theorem dX11_years_122 : decode cX11_years 122 = .ok (.iinc 7 1, 3) := by decide +kernel
theorem dX11_years_125 : decode cX11_years 125 = .ok (.goto (-88), 3) := by decide +kernel
theorem dX11_years_128 : decode cX11_years 128 = .ok (.aload_n 0, 1) := by decide +kernel
theorem dX11_years_129 : decode cX11_years 129 = .ok (.getfield 40, 3) := by decide +kernel
theorem dX11_years_132 : decode cX11_years 132 = .ok (.aload_n 0, 1) := by decide +kernel
theorem dX11_years_133 : decode cX11_years 133 = .ok (.getfield 33, 3) := by decide +kernel
theorem dX11_years_136 : decode cX11_years 136 = .ok (.invokevirtual 419, 3) := by decide +kernel
theorem dX11_years_139 : decode cX11_years 139 = .ok (.aload_n 0, 1) := by decide +kernel
theorem dX11_years_140 : decode cX11_years 140 = .ok (.getfield 19, 3) := by decide +kernel
theorem dX11_years_143 : decode cX11_years 143 = .ok (.iload 5, 2) := by decide +kernel
theorem dX11_years_145 : decode cX11_years 145 = .ok (.iload 6, 2) := by decide +kernel
theorem dX11_years_147 : decode cX11_years 147 = .ok (.invokevirtual 280, 3) := by decide +kernel
theorem dX11_years_150 : decode cX11_years 150 = .ok (.iload 4, 2) := by decide +kernel
theorem dX11_years_152 : decode cX11_years 152 = .ok (.ireturn, 1) := by decide +kernel
abbrev YX11_years : li_Y := (yX11_years, cX11_years, 10, (some .int))
theorem dX11_keep_0 : decode cX11_keep 0 = .ok (.aload_n 0, 1) := by decide +kernel
theorem dX11_keep_1 : decode cX11_keep 1 = .ok (.getfield 40, 3) := by decide +kernel
theorem dX11_keep_4 : decode cX11_keep 4 = .ok (.iload_n 1, 1) := by decide +kernel
theorem dX11_keep_5 : decode cX11_keep 5 = .ok (.aload_n 0, 1) := by decide +kernel
theorem dX11_keep_6 : decode cX11_keep 6 = .ok (.getfield 33, 3) := by decide +kernel
theorem dX11_keep_9 : decode cX11_keep 9 = .ok (.invokevirtual 422, 3) := by decide +kernel
theorem dX11_keep_12 : decode cX11_keep 12 = .ok (.ireturn, 1) := by decide +kernel
abbrev YX11_keep : li_Y := (yX11_keep, cX11_keep, 2, (some .boolean))
theorem dX11_again_0 : decode cX11_again 0 = .ok (.aload_n 0, 1) := by decide +kernel
theorem dX11_again_1 : decode cX11_again 1 = .ok (.getfield 40, 3) := by decide +kernel
theorem dX11_again_4 : decode cX11_again 4 = .ok (.iload_n 1, 1) := by decide +kernel
theorem dX11_again_5 : decode cX11_again 5 = .ok (.aload_n 0, 1) := by decide +kernel
theorem dX11_again_6 : decode cX11_again 6 = .ok (.getfield 33, 3) := by decide +kernel
theorem dX11_again_9 : decode cX11_again 9 = .ok (.invokevirtual 426, 3) := by decide +kernel
theorem dX11_again_12 : decode cX11_again 12 = .ok (.ireturn, 1) := by decide +kernel
abbrev YX11_again : li_Y := (yX11_again, cX11_again, 2, (some .boolean))
theorem dX11_count_0 : decode cX11_count 0 = .ok (.iload_n 1, 1) := by decide +kernel
theorem dX11_count_1 : decode cX11_count 1 = .ok (.tableswitch 166 0 11 #[63, 71, 79, 87, 95, 103, 111, 126, 134, 142, 150, 158], 63) := by decide +kernel
theorem dX11_count_64 : decode cX11_count 64 = .ok (.aload_n 0, 1) := by decide +kernel
theorem dX11_count_65 : decode cX11_count 65 = .ok (.getfield 26, 3) := by decide +kernel
theorem dX11_count_68 : decode cX11_count 68 = .ok (.getfield 104, 3) := by decide +kernel
theorem dX11_count_71 : decode cX11_count 71 = .ok (.ireturn, 1) := by decide +kernel
theorem dX11_count_72 : decode cX11_count 72 = .ok (.aload_n 0, 1) := by decide +kernel
theorem dX11_count_73 : decode cX11_count 73 = .ok (.getfield 26, 3) := by decide +kernel
theorem dX11_count_76 : decode cX11_count 76 = .ok (.getfield 118, 3) := by decide +kernel
theorem dX11_count_79 : decode cX11_count 79 = .ok (.ireturn, 1) := by decide +kernel
theorem dX11_count_80 : decode cX11_count 80 = .ok (.aload_n 0, 1) := by decide +kernel
theorem dX11_count_81 : decode cX11_count 81 = .ok (.getfield 33, 3) := by decide +kernel
theorem dX11_count_84 : decode cX11_count 84 = .ok (.getfield 257, 3) := by decide +kernel
theorem dX11_count_87 : decode cX11_count 87 = .ok (.ireturn, 1) := by decide +kernel
theorem dX11_count_88 : decode cX11_count 88 = .ok (.aload_n 0, 1) := by decide +kernel
theorem dX11_count_89 : decode cX11_count 89 = .ok (.getfield 33, 3) := by decide +kernel
theorem dX11_count_92 : decode cX11_count 92 = .ok (.getfield 204, 3) := by decide +kernel
theorem dX11_count_95 : decode cX11_count 95 = .ok (.ireturn, 1) := by decide +kernel
theorem dX11_count_96 : decode cX11_count 96 = .ok (.aload_n 0, 1) := by decide +kernel
theorem dX11_count_97 : decode cX11_count 97 = .ok (.getfield 33, 3) := by decide +kernel
theorem dX11_count_100 : decode cX11_count 100 = .ok (.getfield 190, 3) := by decide +kernel
theorem dX11_count_103 : decode cX11_count 103 = .ok (.ireturn, 1) := by decide +kernel
theorem dX11_count_104 : decode cX11_count 104 = .ok (.aload_n 0, 1) := by decide +kernel
theorem dX11_count_105 : decode cX11_count 105 = .ok (.getfield 70, 3) := by decide +kernel
theorem dX11_count_108 : decode cX11_count 108 = .ok (.invokevirtual 330, 3) := by decide +kernel
theorem dX11_count_111 : decode cX11_count 111 = .ok (.ireturn, 1) := by decide +kernel
theorem dX11_count_112 : decode cX11_count 112 = .ok (.aload_n 0, 1) := by decide +kernel
theorem dX11_count_113 : decode cX11_count 113 = .ok (.getfield 33, 3) := by decide +kernel
theorem dX11_count_116 : decode cX11_count 116 = .ok (.aload_n 0, 1) := by decide +kernel
theorem dX11_count_117 : decode cX11_count 117 = .ok (.getfield 26, 3) := by decide +kernel
theorem dX11_count_120 : decode cX11_count 120 = .ok (.getfield 104, 3) := by decide +kernel
theorem dX11_count_123 : decode cX11_count 123 = .ok (.invokevirtual 232, 3) := by decide +kernel
theorem dX11_count_126 : decode cX11_count 126 = .ok (.ireturn, 1) := by decide +kernel
theorem dX11_count_127 : decode cX11_count 127 = .ok (.aload_n 0, 1) := by decide +kernel
theorem dX11_count_128 : decode cX11_count 128 = .ok (.getfield 57, 3) := by decide +kernel
theorem dX11_count_131 : decode cX11_count 131 = .ok (.getfield 429, 3) := by decide +kernel
theorem dX11_count_134 : decode cX11_count 134 = .ok (.ireturn, 1) := by decide +kernel
theorem dX11_count_135 : decode cX11_count 135 = .ok (.aload_n 0, 1) := by decide +kernel
theorem dX11_count_136 : decode cX11_count 136 = .ok (.getfield 89, 3) := by decide +kernel
theorem dX11_count_139 : decode cX11_count 139 = .ok (.getfield 386, 3) := by decide +kernel
theorem dX11_count_142 : decode cX11_count 142 = .ok (.ireturn, 1) := by decide +kernel
theorem dX11_count_143 : decode cX11_count 143 = .ok (.aload_n 0, 1) := by decide +kernel
theorem dX11_count_144 : decode cX11_count 144 = .ok (.getfield 40, 3) := by decide +kernel
theorem dX11_count_147 : decode cX11_count 147 = .ok (.getfield 297, 3) := by decide +kernel
theorem dX11_count_150 : decode cX11_count 150 = .ok (.ireturn, 1) := by decide +kernel
theorem dX11_count_151 : decode cX11_count 151 = .ok (.aload_n 0, 1) := by decide +kernel
theorem dX11_count_152 : decode cX11_count 152 = .ok (.getfield 19, 3) := by decide +kernel
theorem dX11_count_155 : decode cX11_count 155 = .ok (.getfield 432, 3) := by decide +kernel
theorem dX11_count_158 : decode cX11_count 158 = .ok (.ireturn, 1) := by decide +kernel
theorem dX11_count_159 : decode cX11_count 159 = .ok (.aload_n 0, 1) := by decide +kernel
theorem dX11_count_160 : decode cX11_count 160 = .ok (.getfield 12, 3) := by decide +kernel
theorem dX11_count_163 : decode cX11_count 163 = .ok (.getfield 97, 3) := by decide +kernel
theorem dX11_count_166 : decode cX11_count 166 = .ok (.ireturn, 1) := by decide +kernel
theorem dX11_count_167 : decode cX11_count 167 = .ok (.iconst (-1), 1) := by decide +kernel
theorem dX11_count_168 : decode cX11_count 168 = .ok (.ireturn, 1) := by decide +kernel
abbrev YX11_count : li_Y := (yX11_count, cX11_count, 2, (some .int))
theorem dX11_debate_0 : decode cX11_debate 0 = .ok (.iload_n 1, 1) := by decide +kernel
theorem dX11_debate_1 : decode cX11_debate 1 = .ok (.iconst 0, 1) := by decide +kernel
theorem dX11_debate_2 : decode cX11_debate 2 = .ok (.bipush 60, 2) := by decide +kernel
theorem dX11_debate_4 : decode cX11_debate 4 = .ok (.invokestatic 128, 3) := by decide +kernel
theorem dX11_debate_7 : decode cX11_debate 7 = .ok (.ifCond .eq 23, 3) := by decide +kernel
theorem dX11_debate_10 : decode cX11_debate 10 = .ok (.iload_n 2, 1) := by decide +kernel
theorem dX11_debate_11 : decode cX11_debate 11 = .ok (.iconst 0, 1) := by decide +kernel
theorem dX11_debate_12 : decode cX11_debate 12 = .ok (.bipush 60, 2) := by decide +kernel
theorem dX11_debate_14 : decode cX11_debate 14 = .ok (.invokestatic 128, 3) := by decide +kernel
theorem dX11_debate_17 : decode cX11_debate 17 = .ok (.ifCond .eq 13, 3) := by decide +kernel
theorem dX11_debate_20 : decode cX11_debate 20 = .ok (.iload_n 3, 1) := by decide +kernel
theorem dX11_debate_21 : decode cX11_debate 21 = .ok (.iconst 1, 1) := by decide +kernel
theorem dX11_debate_22 : decode cX11_debate 22 = .ok (.bipush 9, 2) := by decide +kernel
theorem dX11_debate_24 : decode cX11_debate 24 = .ok (.invokestatic 128, 3) := by decide +kernel
theorem dX11_debate_27 : decode cX11_debate 27 = .ok (.ifCond .ne 5, 3) := by decide +kernel
theorem dX11_debate_30 : decode cX11_debate 30 = .ok (.iconst (-1), 1) := by decide +kernel
theorem dX11_debate_31 : decode cX11_debate 31 = .ok (.ireturn, 1) := by decide +kernel
theorem dX11_debate_32 : decode cX11_debate 32 = .ok (.iload_n 1, 1) := by decide +kernel
theorem dX11_debate_33 : decode cX11_debate 33 = .ok (.iload_n 2, 1) := by decide +kernel
theorem dX11_debate_34 : decode cX11_debate 34 = .ok (.if_icmp .le 7, 3) := by decide +kernel
theorem dX11_debate_37 : decode cX11_debate 37 = .ok (.iconst 1, 1) := by decide +kernel
theorem dX11_debate_38 : decode cX11_debate 38 = .ok (.goto 4, 3) := by decide +kernel
theorem dX11_debate_41 : decode cX11_debate 41 = .ok (.iconst 0, 1) := by decide +kernel
theorem dX11_debate_42 : decode cX11_debate 42 = .ok (.istore 4, 2) := by decide +kernel
theorem dX11_debate_44 : decode cX11_debate 44 = .ok (.aload_n 0, 1) := by decide +kernel
theorem dX11_debate_45 : decode cX11_debate 45 = .ok (.getfield 19, 3) := by decide +kernel
theorem dX11_debate_48 : decode cX11_debate 48 = .ok (.iload 4, 2) := by decide +kernel
theorem dX11_debate_50 : decode cX11_debate 50 = .ok (.invokevirtual 342, 3) := by decide +kernel
theorem dX11_debate_53 : decode cX11_debate 53 = .ok (.iload 4, 2) := by decide +kernel
theorem dX11_debate_55 : decode cX11_debate 55 = .ok (.ireturn, 1) := by decide +kernel
abbrev YX11_debate : li_Y := (yX11_debate, cX11_debate, 5, (some .int))
theorem dX11_enough_0 : decode cX11_enough 0 = .ok (.iload_n 1, 1) := by decide +kernel
theorem dX11_enough_1 : decode cX11_enough 1 = .ok (.iconst 0, 1) := by decide +kernel
theorem dX11_enough_2 : decode cX11_enough 2 = .ok (.bipush 60, 2) := by decide +kernel
theorem dX11_enough_4 : decode cX11_enough 4 = .ok (.invokestatic 128, 3) := by decide +kernel
theorem dX11_enough_7 : decode cX11_enough 7 = .ok (.ifCond .eq 13, 3) := by decide +kernel
theorem dX11_enough_10 : decode cX11_enough 10 = .ok (.iload_n 2, 1) := by decide +kernel
theorem dX11_enough_11 : decode cX11_enough 11 = .ok (.iconst 1, 1) := by decide +kernel
theorem dX11_enough_12 : decode cX11_enough 12 = .ok (.bipush 9, 2) := by decide +kernel
theorem dX11_enough_14 : decode cX11_enough 14 = .ok (.invokestatic 128, 3) := by decide +kernel
theorem dX11_enough_17 : decode cX11_enough 17 = .ok (.ifCond .ne 5, 3) := by decide +kernel
theorem dX11_enough_20 : decode cX11_enough 20 = .ok (.iconst (-1), 1) := by decide +kernel
theorem dX11_enough_21 : decode cX11_enough 21 = .ok (.ireturn, 1) := by decide +kernel
theorem dX11_enough_22 : decode cX11_enough 22 = .ok (.iload_n 1, 1) := by decide +kernel
theorem dX11_enough_23 : decode cX11_enough 23 = .ok (.bipush 60, 2) := by decide +kernel
theorem dX11_enough_25 : decode cX11_enough 25 = .ok (.if_icmp .ge 9, 3) := by decide +kernel
theorem dX11_enough_28 : decode cX11_enough 28 = .ok (.iload_n 1, 1) := by decide +kernel
theorem dX11_enough_29 : decode cX11_enough 29 = .ok (.iconst 1, 1) := by decide +kernel
theorem dX11_enough_30 : decode cX11_enough 30 = .ok (.iadd, 1) := by decide +kernel
theorem dX11_enough_31 : decode cX11_enough 31 = .ok (.goto 5, 3) := by decide +kernel
theorem dX11_enough_34 : decode cX11_enough 34 = .ok (.bipush (-2), 2) := by decide +kernel
theorem dX11_enough_36 : decode cX11_enough 36 = .ok (.ireturn, 1) := by decide +kernel
abbrev YX11_enough : li_Y := (yX11_enough, cX11_enough, 3, (some .int))
set_option maxRecDepth 100000 in
set_option maxHeartbeats 4000000 in
theorem k_X11_best {l : Launch} {Z : li_Z} (d : Nat) (hd : 7 ≤ d) (p1 : Int32) (M0 : li_M) : li_Met l Z YX11_best d [.ref (Z.2.2 0), .int p1] M0 (li_SI (fun i => i = 146 ∨ i = 147 ∨ i = 148 ∨ i = 149 ∨ i = 150 ∨ i = 3 ∨ i = 4) M0) := by
  refine li_enter (by decide +kernel) (Nat.le_of_ble_eq_true rfl) ?_
  show li_T l Z YX11_best d 0 [(0, .ref (Z.2.2 0)), (1, .int p1)] [] M0 _
  have hf : li_fr (fun i => i = 146 ∨ i = 147 ∨ i = 148 ∨ i = 149 ∨ i = 150 ∨ i = 3 ∨ i = 4) M0 M0 := li_fr_refl
  refine li_aload_n 0 dX11_best_0 rfl ?_
  refine li_getr (k := 2) (N := 13) (T := TX11) (C0 := RX11) dX11_best_1 (by decide) sh_0 rfl rfl (by decide) (by decide) li_in11 w_475 ?_
  refine li_iload_n 1 dX11_best_4 rfl ?_
  refine li_callV (n := 1) (As := [.int p1]) dX11_best_5 (k_X8_hasPerson (d - 1) (by omega) p1 M0) (by omega) (Nat.le_of_ble_eq_true rfl) w_758 w_759 w_760 w_104 w_761 (by decide +kernel) rfl (by decide) sh_5 rfl rfl (Nat.le_of_ble_eq_true rfl) (fun r M2 h3 => ?_)
  obtain ⟨⟨x1, rfl, bx1⟩, h3⟩ := h3
  have hf := li_fr_trans hf h3 (fun i h => False.elim h)
  refine li_if_ne 13 dX11_best_8 (by decide) (fun c4 => ?_) (fun c4 => ?_)
  · refine li_aload_n 0 dX11_best_13 rfl ?_
    refine li_getr (k := 7) (N := 13) (T := TX11) (C0 := RX11) dX11_best_14 (by decide) sh_0 rfl rfl (by decide) (by decide) li_in11 w_480 ?_
    refine li_callV (n := 0) (As := []) dX11_best_17 (k_X0_fill (d - 1) (by omega) cob_148 M2) (by omega) (Nat.le_of_ble_eq_true rfl) w_988 w_989 w_990 w_109 w_991 (by decide +kernel) rfl (by decide) sh_148 rfl rfl (Nat.le_of_ble_eq_true rfl) (fun r M6 h7 => ?_)
    obtain ⟨rfl, h7⟩ := h7
    have hf := li_fr_trans hf h7 (fun i (h : i = 149 ∨ i = 150 ∨ i = 146 ∨ i = 147) => (show i = 146 ∨ i = 147 ∨ i = 148 ∨ i = 149 ∨ i = 150 ∨ i = 3 ∨ i = 4 by omega))
    refine li_aload_n 0 dX11_best_20 rfl ?_
    refine li_getr (k := 7) (N := 13) (T := TX11) (C0 := RX11) dX11_best_21 (by decide) sh_0 rfl rfl (by decide) (by decide) li_in11 w_480 ?_
    refine li_iload_n 1 dX11_best_24 rfl ?_
    refine li_callV (n := 1) (As := [.int p1]) dX11_best_25 (k_X0_chooseFor (d - 1) (by omega) cob_148 p1 M6) (by omega) (Nat.le_of_ble_eq_true rfl) w_995 w_996 w_997 w_109 w_998 (by decide +kernel) rfl (by decide) sh_148 rfl rfl (Nat.le_of_ble_eq_true rfl) (fun r M9 h10 => ?_)
    obtain ⟨rfl, h10⟩ := h10
    have hf := li_fr_trans hf h10 (fun i (h : i = 148) => (show i = 146 ∨ i = 147 ∨ i = 148 ∨ i = 149 ∨ i = 150 ∨ i = 3 ∨ i = 4 by omega))
    refine li_aload_n 0 dX11_best_28 rfl ?_
    refine li_getr (k := 1) (N := 13) (T := TX11) (C0 := RX11) dX11_best_29 (by decide) sh_0 rfl rfl (by decide) (by decide) li_in11 w_474 ?_
    refine li_aload_n 0 dX11_best_32 rfl ?_
    refine li_getr (k := 7) (N := 13) (T := TX11) (C0 := RX11) dX11_best_33 (by decide) sh_0 rfl rfl (by decide) (by decide) li_in11 w_480 ?_
    refine li_geti (k := 5) (N := 8) (T := TX0) (C0 := RX0) dX11_best_36 (by decide) sh_148 rfl rfl (by decide) li_in0 w_376 ?_
    refine li_top (fun x11 ex11 => ?_)
    refine li_aload_n 0 dX11_best_39 rfl ?_
    refine li_getr (k := 7) (N := 13) (T := TX11) (C0 := RX11) dX11_best_40 (by decide) sh_0 rfl rfl (by decide) (by decide) li_in11 w_480 ?_
    refine li_geti (k := 6) (N := 8) (T := TX0) (C0 := RX0) dX11_best_43 (by decide) sh_148 rfl rfl (by decide) li_in0 w_378 ?_
    refine li_top (fun x12 ex12 => ?_)
    refine li_callV (n := 2) (As := [.int x11, .int x12]) dX11_best_46 (k_X5_tellTwo (d - 1) (by omega) x11 x12 M9) (by omega) (Nat.le_of_ble_eq_true rfl) w_951 w_952 w_953 w_103 w_954 (by decide +kernel) rfl (by decide) sh_3 rfl rfl (Nat.le_of_ble_eq_true rfl) (fun r M14 h15 => ?_)
    obtain ⟨rfl, h15⟩ := h15
    have hf := li_fr_trans hf h15 (fun i (h : i = 3 ∨ i = 4) => (show i = 146 ∨ i = 147 ∨ i = 148 ∨ i = 149 ∨ i = 150 ∨ i = 3 ∨ i = 4 by omega))
    refine li_aload_n 0 dX11_best_49 rfl ?_
    refine li_getr (k := 7) (N := 13) (T := TX11) (C0 := RX11) dX11_best_50 (by decide) sh_0 rfl rfl (by decide) (by decide) li_in11 w_480 ?_
    refine li_geti (k := 7) (N := 8) (T := TX0) (C0 := RX0) dX11_best_53 (by decide) sh_148 rfl rfl (by decide) li_in0 w_380 ?_
    refine li_top (fun x16 ex16 => ?_)
    exact li_iret dX11_best_56 rfl rfl ⟨⟨_, rfl⟩, hf⟩
  · refine li_iconst (-1) dX11_best_11 (by decide) ?_
    exact li_iret dX11_best_12 rfl rfl ⟨⟨_, rfl⟩, hf⟩
set_option maxRecDepth 100000 in
set_option maxHeartbeats 4000000 in
theorem k_X11_lacks {l : Launch} {Z : li_Z} (d : Nat) (hd : 7 ≤ d) (p1 : Int32) (M0 : li_M) : li_Met l Z YX11_lacks d [.ref (Z.2.2 0), .int p1] M0 (li_SI (fun i => i = 146 ∨ i = 147 ∨ i = 149 ∨ i = 150 ∨ i = 3 ∨ i = 4) M0) := by
  refine li_enter (by decide +kernel) (Nat.le_of_ble_eq_true rfl) ?_
  show li_T l Z YX11_lacks d 0 [(0, .ref (Z.2.2 0)), (1, .int p1)] [] M0 _
  have hf : li_fr (fun i => i = 146 ∨ i = 147 ∨ i = 149 ∨ i = 150 ∨ i = 3 ∨ i = 4) M0 M0 := li_fr_refl
  refine li_aload_n 0 dX11_lacks_0 rfl ?_
  refine li_getr (k := 2) (N := 13) (T := TX11) (C0 := RX11) dX11_lacks_1 (by decide) sh_0 rfl rfl (by decide) (by decide) li_in11 w_475 ?_
  refine li_iload_n 1 dX11_lacks_4 rfl ?_
  refine li_callV (n := 1) (As := [.int p1]) dX11_lacks_5 (k_X8_hasPerson (d - 1) (by omega) p1 M0) (by omega) (Nat.le_of_ble_eq_true rfl) w_758 w_759 w_760 w_104 w_761 (by decide +kernel) rfl (by decide) sh_5 rfl rfl (Nat.le_of_ble_eq_true rfl) (fun r M2 h3 => ?_)
  obtain ⟨⟨x1, rfl, bx1⟩, h3⟩ := h3
  have hf := li_fr_trans hf h3 (fun i h => False.elim h)
  refine li_if_ne 13 dX11_lacks_8 (by decide) (fun c4 => ?_) (fun c4 => ?_)
  · refine li_aload_n 0 dX11_lacks_13 rfl ?_
    refine li_getr (k := 7) (N := 13) (T := TX11) (C0 := RX11) dX11_lacks_14 (by decide) sh_0 rfl rfl (by decide) (by decide) li_in11 w_480 ?_
    refine li_callV (n := 0) (As := []) dX11_lacks_17 (k_X0_fill (d - 1) (by omega) cob_148 M2) (by omega) (Nat.le_of_ble_eq_true rfl) w_988 w_989 w_990 w_109 w_991 (by decide +kernel) rfl (by decide) sh_148 rfl rfl (Nat.le_of_ble_eq_true rfl) (fun r M6 h7 => ?_)
    obtain ⟨rfl, h7⟩ := h7
    have hf := li_fr_trans hf h7 (fun i (h : i = 149 ∨ i = 150 ∨ i = 146 ∨ i = 147) => (show i = 146 ∨ i = 147 ∨ i = 149 ∨ i = 150 ∨ i = 3 ∨ i = 4 by omega))
    refine li_aload_n 0 dX11_lacks_20 rfl ?_
    refine li_getr (k := 7) (N := 13) (T := TX11) (C0 := RX11) dX11_lacks_21 (by decide) sh_0 rfl rfl (by decide) (by decide) li_in11 w_480 ?_
    refine li_iload_n 1 dX11_lacks_24 rfl ?_
    refine li_callV (n := 1) (As := [.int p1]) dX11_lacks_25 (k_X0_openThingsOf (d - 1) (by omega) cob_148 p1 M6) (by omega) (Nat.le_of_ble_eq_true rfl) w_1025 w_1000 w_1001 w_109 w_1002 (by decide +kernel) rfl (by decide) sh_148 rfl rfl (Nat.le_of_ble_eq_true rfl) (fun r M9 h10 => ?_)
    obtain ⟨⟨x8, rfl⟩, h10⟩ := h10
    have hf := li_fr_trans hf h10 (fun i h => False.elim h)
    refine li_istore_n [(2, .int x8), (0, .ref (Z.2.2 0)), (1, .int p1)] dX11_lacks_28 (by decide) rfl ?_
    refine li_aload_n 1 dX11_lacks_29 rfl ?_
    refine li_getr (k := 7) (N := 13) (T := TX11) (C0 := RX11) dX11_lacks_30 (by decide) sh_0 rfl rfl (by decide) (by decide) li_in11 w_480 ?_
    refine li_iload_n 0 dX11_lacks_33 rfl ?_
    refine li_callV (n := 1) (As := [.int x8]) dX11_lacks_34 (k_X0_leastOfAll (d - 1) (by omega) cob_148 x8 M9) (by omega) (Nat.le_of_ble_eq_true rfl) w_1026 w_1027 w_1028 w_109 w_1029 (by decide +kernel) rfl (by decide) sh_148 rfl rfl (Nat.le_of_ble_eq_true rfl) (fun r M12 h13 => ?_)
    obtain ⟨⟨x11, rfl⟩, h13⟩ := h13
    have hf := li_fr_trans hf h13 (fun i h => False.elim h)
    refine li_istore_n [(3, .int x11), (2, .int x8), (0, .ref (Z.2.2 0)), (1, .int p1)] dX11_lacks_37 (by decide) rfl ?_
    refine li_aload_n 2 dX11_lacks_38 rfl ?_
    refine li_getr (k := 1) (N := 13) (T := TX11) (C0 := RX11) dX11_lacks_39 (by decide) sh_0 rfl rfl (by decide) (by decide) li_in11 w_474 ?_
    refine li_iload_n 0 dX11_lacks_42 rfl ?_
    refine li_iload_n 1 dX11_lacks_43 rfl ?_
    refine li_callS (n := 1) (As := [.int x8]) dX11_lacks_44 (k_J6_bitCount_0f7a4 (d - 1) (by omega) x8 M12) (by omega) (Nat.le_of_ble_eq_true rfl) w_1030 w_822 w_123 w_823 (by decide +kernel) rfl rfl (Nat.le_of_ble_eq_true rfl) (fun r M15 h16 => ?_)
    obtain ⟨⟨x14, rfl⟩, h16⟩ := h16
    have hf := li_fr_trans hf h16 (fun i h => False.elim h)
    refine li_callV (n := 2) (As := [.int x11, .int x14]) dX11_lacks_47 (k_X5_tellTwo (d - 1) (by omega) x11 x14 M15) (by omega) (Nat.le_of_ble_eq_true rfl) w_951 w_952 w_953 w_103 w_954 (by decide +kernel) rfl (by decide) sh_3 rfl rfl (Nat.le_of_ble_eq_true rfl) (fun r M18 h19 => ?_)
    obtain ⟨rfl, h19⟩ := h19
    have hf := li_fr_trans hf h19 (fun i (h : i = 3 ∨ i = 4) => (show i = 146 ∨ i = 147 ∨ i = 149 ∨ i = 150 ∨ i = 3 ∨ i = 4 by omega))
    refine li_iconst 0 dX11_lacks_50 (by decide) ?_
    refine li_iload_n 0 dX11_lacks_51 rfl ?_
    refine li_aload_n 2 dX11_lacks_52 rfl ?_
    refine li_getr (k := 3) (N := 13) (T := TX11) (C0 := RX11) dX11_lacks_53 (by decide) sh_0 rfl rfl (by decide) (by decide) li_in11 w_476 ?_
    refine li_getr (k := 4) (N := 11) (T := TX4) (C0 := RX4) dX11_lacks_56 (by decide) sh_13 rfl rfl (by decide) (by decide) li_in4 w_243 ?_
    refine li_iload_n 3 dX11_lacks_59 rfl ?_
    refine li_callS (n := 2) (As := [.ref (Z.2.2 14), .int p1]) dX11_lacks_60 (k_X11_at (d - 1) (by omega) (by decide) sh_14 (by decide) p1 M18) (by omega) (Nat.le_of_ble_eq_true rfl) w_763 w_569 w_101 w_570 (by decide +kernel) rfl rfl (Nat.le_of_ble_eq_true rfl) (fun r M21 h22 => ?_)
    obtain ⟨⟨x20, rfl⟩, h22⟩ := h22
    have hf := li_fr_trans hf h22 (fun i h => False.elim h)
    refine li_isub dX11_lacks_63 ?_
    refine li_top (fun x23 ex23 => ?_)
    refine li_mmax dX11_lacks_64 (by omega) w_775 w_642 w_113 w_643 (Nat.le_of_ble_eq_true rfl) ?_
    refine li_top (fun x24 ex24 => ?_)
    exact li_iret dX11_lacks_67 rfl rfl ⟨⟨_, rfl⟩, hf⟩
  · refine li_iconst (-1) dX11_lacks_11 (by decide) ?_
    exact li_iret dX11_lacks_12 rfl rfl ⟨⟨_, rfl⟩, hf⟩
set_option maxRecDepth 100000 in
set_option maxHeartbeats 4000000 in
theorem k_X11_pool {l : Launch} {Z : li_Z} (d : Nat) (hd : 7 ≤ d) (M0 : li_M) : li_Met l Z YX11_pool d [.ref (Z.2.2 0)] M0 (li_SI (fun i => i = 146 ∨ i = 147 ∨ i = 148 ∨ i = 149 ∨ i = 150 ∨ i = 3 ∨ i = 4) M0) := by
  refine li_enter (by decide +kernel) (Nat.le_of_ble_eq_true rfl) ?_
  show li_T l Z YX11_pool d 0 [(0, .ref (Z.2.2 0))] [] M0 _
  have hf : li_fr (fun i => i = 146 ∨ i = 147 ∨ i = 148 ∨ i = 149 ∨ i = 150 ∨ i = 3 ∨ i = 4) M0 M0 := li_fr_refl
  refine li_aload_n 0 dX11_pool_0 rfl ?_
  refine li_getr (k := 7) (N := 13) (T := TX11) (C0 := RX11) dX11_pool_1 (by decide) sh_0 rfl rfl (by decide) (by decide) li_in11 w_480 ?_
  refine li_callV (n := 0) (As := []) dX11_pool_4 (k_X0_fill (d - 1) (by omega) cob_148 M0) (by omega) (Nat.le_of_ble_eq_true rfl) w_988 w_989 w_990 w_109 w_991 (by decide +kernel) rfl (by decide) sh_148 rfl rfl (Nat.le_of_ble_eq_true rfl) (fun r M2 h3 => ?_)
  obtain ⟨rfl, h3⟩ := h3
  have hf := li_fr_trans hf h3 (fun i (h : i = 149 ∨ i = 150 ∨ i = 146 ∨ i = 147) => (show i = 146 ∨ i = 147 ∨ i = 148 ∨ i = 149 ∨ i = 150 ∨ i = 3 ∨ i = 4 by omega))
  refine li_aload_n 0 dX11_pool_7 rfl ?_
  refine li_getr (k := 7) (N := 13) (T := TX11) (C0 := RX11) dX11_pool_8 (by decide) sh_0 rfl rfl (by decide) (by decide) li_in11 w_480 ?_
  refine li_aload_n 0 dX11_pool_11 rfl ?_
  refine li_getr (k := 7) (N := 13) (T := TX11) (C0 := RX11) dX11_pool_12 (by decide) sh_0 rfl rfl (by decide) (by decide) li_in11 w_480 ?_
  refine li_callV (n := 0) (As := []) dX11_pool_15 (k_X0_openThings (d - 1) (by omega) cob_148 M2) (by omega) (Nat.le_of_ble_eq_true rfl) w_1035 w_1004 w_1005 w_109 w_1006 (by decide +kernel) rfl (by decide) sh_148 rfl rfl (Nat.le_of_ble_eq_true rfl) (fun r M5 h6 => ?_)
  obtain ⟨⟨x4, rfl⟩, h6⟩ := h6
  have hf := li_fr_trans hf h6 (fun i h => False.elim h)
  refine li_aload_n 0 dX11_pool_18 rfl ?_
  refine li_getr (k := 3) (N := 13) (T := TX11) (C0 := RX11) dX11_pool_19 (by decide) sh_0 rfl rfl (by decide) (by decide) li_in11 w_476 ?_
  refine li_aload_n 0 dX11_pool_22 rfl ?_
  refine li_getr (k := 2) (N := 13) (T := TX11) (C0 := RX11) dX11_pool_23 (by decide) sh_0 rfl rfl (by decide) (by decide) li_in11 w_475 ?_
  refine li_geti (k := 0) (N := 9) (T := TX8) (C0 := RX8) dX11_pool_26 (by decide) sh_5 rfl rfl (by decide) li_in8 w_178 ?_
  refine li_top (fun x7 ex7 => ?_)
  refine li_callV (n := 1) (As := [.int x7]) dX11_pool_29 (k_X4_allClocks (d - 1) (by omega) x7 M5) (by omega) (Nat.le_of_ble_eq_true rfl) w_776 w_777 w_778 w_105 w_779 (by decide +kernel) rfl (by decide) sh_13 rfl rfl (Nat.le_of_ble_eq_true rfl) (fun r M9 h10 => ?_)
  obtain ⟨⟨x8, rfl⟩, h10⟩ := h10
  have hf := li_fr_trans hf h10 (fun i h => False.elim h)
  refine li_callV (n := 2) (As := [.int x4, .int x8]) dX11_pool_32 (k_X0_choose (d - 1) (by omega) cob_148 x4 x8 M9) (by omega) (Nat.le_of_ble_eq_true rfl) w_1036 w_1014 w_1015 w_109 w_1016 (by decide +kernel) rfl (by decide) sh_148 rfl rfl (Nat.le_of_ble_eq_true rfl) (fun r M12 h13 => ?_)
  obtain ⟨rfl, h13⟩ := h13
  have hf := li_fr_trans hf h13 (fun i (h : i = 148) => (show i = 146 ∨ i = 147 ∨ i = 148 ∨ i = 149 ∨ i = 150 ∨ i = 3 ∨ i = 4 by omega))
  refine li_aload_n 0 dX11_pool_35 rfl ?_
  refine li_getr (k := 1) (N := 13) (T := TX11) (C0 := RX11) dX11_pool_36 (by decide) sh_0 rfl rfl (by decide) (by decide) li_in11 w_474 ?_
  refine li_aload_n 0 dX11_pool_39 rfl ?_
  refine li_getr (k := 7) (N := 13) (T := TX11) (C0 := RX11) dX11_pool_40 (by decide) sh_0 rfl rfl (by decide) (by decide) li_in11 w_480 ?_
  refine li_geti (k := 5) (N := 8) (T := TX0) (C0 := RX0) dX11_pool_43 (by decide) sh_148 rfl rfl (by decide) li_in0 w_376 ?_
  refine li_top (fun x14 ex14 => ?_)
  refine li_aload_n 0 dX11_pool_46 rfl ?_
  refine li_getr (k := 7) (N := 13) (T := TX11) (C0 := RX11) dX11_pool_47 (by decide) sh_0 rfl rfl (by decide) (by decide) li_in11 w_480 ?_
  refine li_geti (k := 6) (N := 8) (T := TX0) (C0 := RX0) dX11_pool_50 (by decide) sh_148 rfl rfl (by decide) li_in0 w_378 ?_
  refine li_top (fun x15 ex15 => ?_)
  refine li_callV (n := 2) (As := [.int x14, .int x15]) dX11_pool_53 (k_X5_tellTwo (d - 1) (by omega) x14 x15 M12) (by omega) (Nat.le_of_ble_eq_true rfl) w_951 w_952 w_953 w_103 w_954 (by decide +kernel) rfl (by decide) sh_3 rfl rfl (Nat.le_of_ble_eq_true rfl) (fun r M17 h18 => ?_)
  obtain ⟨rfl, h18⟩ := h18
  have hf := li_fr_trans hf h18 (fun i (h : i = 3 ∨ i = 4) => (show i = 146 ∨ i = 147 ∨ i = 148 ∨ i = 149 ∨ i = 150 ∨ i = 3 ∨ i = 4 by omega))
  refine li_aload_n 0 dX11_pool_56 rfl ?_
  refine li_getr (k := 7) (N := 13) (T := TX11) (C0 := RX11) dX11_pool_57 (by decide) sh_0 rfl rfl (by decide) (by decide) li_in11 w_480 ?_
  refine li_geti (k := 7) (N := 8) (T := TX0) (C0 := RX0) dX11_pool_60 (by decide) sh_148 rfl rfl (by decide) li_in0 w_380 ?_
  refine li_top (fun x19 ex19 => ?_)
  exact li_iret dX11_pool_63 rfl rfl ⟨⟨_, rfl⟩, hf⟩
set_option maxRecDepth 100000 in
set_option maxHeartbeats 4000000 in
theorem k_X11_gifts {l : Launch} {Z : li_Z} (d : Nat) (hd : 7 ≤ d) (p1 : Int32) (M0 : li_M) : li_Met l Z YX11_gifts d [.ref (Z.2.2 0), .int p1] M0 (li_SI (fun i => i = 146 ∨ i = 147 ∨ i = 149 ∨ i = 150 ∨ i = 3 ∨ i = 4) M0) := by
  refine li_enter (by decide +kernel) (Nat.le_of_ble_eq_true rfl) ?_
  show li_T l Z YX11_gifts d 0 [(0, .ref (Z.2.2 0)), (1, .int p1)] [] M0 _
  have hf : li_fr (fun i => i = 146 ∨ i = 147 ∨ i = 149 ∨ i = 150 ∨ i = 3 ∨ i = 4) M0 M0 := li_fr_refl
  refine li_iload_n 1 dX11_gifts_0 rfl ?_
  refine li_aload_n 0 dX11_gifts_1 rfl ?_
  refine li_getr (k := 2) (N := 13) (T := TX11) (C0 := RX11) dX11_gifts_2 (by decide) sh_0 rfl rfl (by decide) (by decide) li_in11 w_475 ?_
  refine li_geti (k := 1) (N := 9) (T := TX8) (C0 := RX8) dX11_gifts_5 (by decide) sh_5 rfl rfl (by decide) li_in8 w_180 ?_
  refine li_top (fun x1 ex1 => ?_)
  refine li_callS (n := 2) (As := [.int p1, .int x1]) dX11_gifts_8 (k_X11_areBitsOf (d - 1) (by omega) p1 x1 M0) (by omega) (Nat.le_of_ble_eq_true rfl) w_1041 w_1042 w_101 w_1043 (by decide +kernel) rfl rfl (Nat.le_of_ble_eq_true rfl) (fun r M3 h4 => ?_)
  obtain ⟨⟨x2, rfl, bx2⟩, h4⟩ := h4
  have hf := li_fr_trans hf h4 (fun i h => False.elim h)
  refine li_if_ne 16 dX11_gifts_11 (by decide) (fun c5 => ?_) (fun c5 => ?_)
  · refine li_aload_n 0 dX11_gifts_16 rfl ?_
    refine li_getr (k := 7) (N := 13) (T := TX11) (C0 := RX11) dX11_gifts_17 (by decide) sh_0 rfl rfl (by decide) (by decide) li_in11 w_480 ?_
    refine li_callV (n := 0) (As := []) dX11_gifts_20 (k_X0_fill (d - 1) (by omega) cob_148 M3) (by omega) (Nat.le_of_ble_eq_true rfl) w_988 w_989 w_990 w_109 w_991 (by decide +kernel) rfl (by decide) sh_148 rfl rfl (Nat.le_of_ble_eq_true rfl) (fun r M7 h8 => ?_)
    obtain ⟨rfl, h8⟩ := h8
    have hf := li_fr_trans hf h8 (fun i (h : i = 149 ∨ i = 150 ∨ i = 146 ∨ i = 147) => (show i = 146 ∨ i = 147 ∨ i = 149 ∨ i = 150 ∨ i = 3 ∨ i = 4 by omega))
    refine li_iload_n 1 dX11_gifts_23 rfl ?_
    refine li_aload_n 0 dX11_gifts_24 rfl ?_
    refine li_getr (k := 7) (N := 13) (T := TX11) (C0 := RX11) dX11_gifts_25 (by decide) sh_0 rfl rfl (by decide) (by decide) li_in11 w_480 ?_
    refine li_callV (n := 0) (As := []) dX11_gifts_28 (k_X0_openThings (d - 1) (by omega) cob_148 M7) (by omega) (Nat.le_of_ble_eq_true rfl) w_1035 w_1004 w_1005 w_109 w_1006 (by decide +kernel) rfl (by decide) sh_148 rfl rfl (Nat.le_of_ble_eq_true rfl) (fun r M10 h11 => ?_)
    obtain ⟨⟨x9, rfl⟩, h11⟩ := h11
    have hf := li_fr_trans hf h11 (fun i h => False.elim h)
    refine li_iconst (-1) dX11_gifts_31 (by decide) ?_
    refine li_ixor dX11_gifts_32 ?_
    refine li_top (fun x12 ex12 => ?_)
    refine li_iand dX11_gifts_33 ?_
    refine li_top (fun x13 ex13 => ?_)
    refine li_if_eq 40 dX11_gifts_34 (by decide) (fun c14 => ?_) (fun c14 => ?_)
    · refine li_aload_n 0 dX11_gifts_40 rfl ?_
      refine li_getr (k := 7) (N := 13) (T := TX11) (C0 := RX11) dX11_gifts_41 (by decide) sh_0 rfl rfl (by decide) (by decide) li_in11 w_480 ?_
      refine li_iload_n 1 dX11_gifts_44 rfl ?_
      refine li_callV (n := 1) (As := [.int p1]) dX11_gifts_45 (k_X0_leastOfAll (d - 1) (by omega) cob_148 p1 M10) (by omega) (Nat.le_of_ble_eq_true rfl) w_1026 w_1027 w_1028 w_109 w_1029 (by decide +kernel) rfl (by decide) sh_148 rfl rfl (Nat.le_of_ble_eq_true rfl) (fun r M16 h17 => ?_)
      obtain ⟨⟨x15, rfl⟩, h17⟩ := h17
      have hf := li_fr_trans hf h17 (fun i h => False.elim h)
      refine li_aload_n 0 dX11_gifts_48 rfl ?_
      refine li_getr (k := 3) (N := 13) (T := TX11) (C0 := RX11) dX11_gifts_49 (by decide) sh_0 rfl rfl (by decide) (by decide) li_in11 w_476 ?_
      refine li_aload_n 0 dX11_gifts_52 rfl ?_
      refine li_getr (k := 2) (N := 13) (T := TX11) (C0 := RX11) dX11_gifts_53 (by decide) sh_0 rfl rfl (by decide) (by decide) li_in11 w_475 ?_
      refine li_geti (k := 0) (N := 9) (T := TX8) (C0 := RX8) dX11_gifts_56 (by decide) sh_5 rfl rfl (by decide) li_in8 w_178 ?_
      refine li_top (fun x18 ex18 => ?_)
      refine li_callV (n := 1) (As := [.int x18]) dX11_gifts_59 (k_X4_allClocks (d - 1) (by omega) x18 M16) (by omega) (Nat.le_of_ble_eq_true rfl) w_776 w_777 w_778 w_105 w_779 (by decide +kernel) rfl (by decide) sh_13 rfl rfl (Nat.le_of_ble_eq_true rfl) (fun r M20 h21 => ?_)
      obtain ⟨⟨x19, rfl⟩, h21⟩ := h21
      have hf := li_fr_trans hf h21 (fun i h => False.elim h)
      refine li_icmp_le 68 dX11_gifts_62 (by decide) (fun c22 => ?_) (fun c22 => ?_)
      · refine li_iconst 0 dX11_gifts_68 (by decide) ?_
        refine li_istore_n [(2, .int 0), (0, .ref (Z.2.2 0)), (1, .int p1)] dX11_gifts_69 (by decide) rfl ?_
        refine li_iconst 0 dX11_gifts_70 (by decide) ?_
        refine li_istore_n [(3, .int 0), (2, .int 0), (0, .ref (Z.2.2 0)), (1, .int p1)] dX11_gifts_71 (by decide) rfl ?_
        refine li_iconst 0 dX11_gifts_72 (by decide) ?_
        refine li_istore [(4, .int 0), (3, .int 0), (2, .int 0), (0, .ref (Z.2.2 0)), (1, .int p1)] dX11_gifts_73 (by decide) rfl ?_
        have L75 : ∀ (n : Nat) (x23 : Int32) (x24 : Int32) (x25 : Int32) (M26 : li_M), (2147483647 - (x23 : Int32).toInt).toNat < n → li_fr (fun i => i = 146 ∨ i = 147 ∨ i = 149 ∨ i = 150 ∨ i = 3 ∨ i = 4) M0 M26 → li_T l Z YX11_gifts d 75 [(4, .int x23), (3, .int x24), (2, .int x25), (0, .ref (Z.2.2 0)), (1, .int p1)] [] M26 (li_SI (fun i => i = 146 ∨ i = 147 ∨ i = 149 ∨ i = 150 ∨ i = 3 ∨ i = 4) M0) := by
          intro n
          induction n with
          | zero => intro x23 x24 x25 M26 hn; exact absurd hn (Nat.not_lt_zero _)
          | succ n ih75 =>
            intro x23 x24 x25 M26 hn hf
            refine li_iload 0 dX11_gifts_75 rfl ?_
            refine li_aload_n 3 dX11_gifts_77 rfl ?_
            refine li_getr (k := 2) (N := 13) (T := TX11) (C0 := RX11) dX11_gifts_78 (by decide) sh_0 rfl rfl (by decide) (by decide) li_in11 w_475 ?_
            refine li_geti (k := 0) (N := 9) (T := TX8) (C0 := RX8) dX11_gifts_81 (by decide) sh_5 rfl rfl (by decide) li_in8 w_178 ?_
            refine li_top (fun x27 ex27 => ?_)
            refine li_icmp_ge 139 dX11_gifts_84 (by decide) (fun c28 => ?_) (fun c28 => ?_)
            · refine li_aload_n 3 dX11_gifts_139 rfl ?_
              refine li_getr (k := 1) (N := 13) (T := TX11) (C0 := RX11) dX11_gifts_140 (by decide) sh_0 rfl rfl (by decide) (by decide) li_in11 w_474 ?_
              refine li_iload_n 1 dX11_gifts_143 rfl ?_
              refine li_callV (n := 1) (As := [.int x24]) dX11_gifts_144 (k_X5_tell (d - 1) (by omega) x24 M26) (by omega) (Nat.le_of_ble_eq_true rfl) w_1045 w_1046 w_1047 w_103 w_1048 (by decide +kernel) rfl (by decide) sh_3 rfl rfl (Nat.le_of_ble_eq_true rfl) (fun r M30 h31 => ?_)
              obtain ⟨rfl, h31⟩ := h31
              have hf := li_fr_trans hf h31 (fun i (h : i = 3 ∨ i = 4) => (show i = 146 ∨ i = 147 ∨ i = 149 ∨ i = 150 ∨ i = 3 ∨ i = 4 by omega))
              refine li_iload_n 2 dX11_gifts_147 rfl ?_
              exact li_iret dX11_gifts_148 rfl rfl ⟨⟨_, rfl⟩, hf⟩
            · refine li_aload_n 3 dX11_gifts_87 rfl ?_
              refine li_getr (k := 7) (N := 13) (T := TX11) (C0 := RX11) dX11_gifts_88 (by decide) sh_0 rfl rfl (by decide) (by decide) li_in11 w_480 ?_
              refine li_iload_n 4 dX11_gifts_91 rfl ?_
              refine li_aload_n 3 dX11_gifts_92 rfl ?_
              refine li_getr (k := 2) (N := 13) (T := TX11) (C0 := RX11) dX11_gifts_93 (by decide) sh_0 rfl rfl (by decide) (by decide) li_in11 w_475 ?_
              refine li_iload 0 dX11_gifts_96 rfl ?_
              refine li_callV (n := 1) (As := [.int x23]) dX11_gifts_98 (k_X8_thingsOf (d - 1) (by omega) x23 M26) (by omega) (Nat.le_of_ble_eq_true rfl) w_1044 w_1010 w_1011 w_104 w_1012 (by decide +kernel) rfl (by decide) sh_5 rfl rfl (Nat.le_of_ble_eq_true rfl) (fun r M33 h34 => ?_)
              obtain ⟨⟨x32, rfl⟩, h34⟩ := h34
              have hf := li_fr_trans hf h34 (fun i h => False.elim h)
              refine li_iand dX11_gifts_101 ?_
              refine li_top (fun x35 ex35 => ?_)
              refine li_callV (n := 1) (As := [.int x35]) dX11_gifts_102 (k_X0_leastOfAll (d - 1) (by omega) cob_148 x35 M33) (by omega) (Nat.le_of_ble_eq_true rfl) w_1026 w_1027 w_1028 w_109 w_1029 (by decide +kernel) rfl (by decide) sh_148 rfl rfl (Nat.le_of_ble_eq_true rfl) (fun r M37 h38 => ?_)
              obtain ⟨⟨x36, rfl⟩, h38⟩ := h38
              have hf := li_fr_trans hf h38 (fun i h => False.elim h)
              refine li_aload_n 3 dX11_gifts_105 rfl ?_
              refine li_getr (k := 3) (N := 13) (T := TX11) (C0 := RX11) dX11_gifts_106 (by decide) sh_0 rfl rfl (by decide) (by decide) li_in11 w_476 ?_
              refine li_getr (k := 4) (N := 11) (T := TX4) (C0 := RX4) dX11_gifts_109 (by decide) sh_13 rfl rfl (by decide) (by decide) li_in4 w_243 ?_
              refine li_iload 0 dX11_gifts_112 rfl ?_
              refine li_callS (n := 2) (As := [.ref (Z.2.2 14), .int x23]) dX11_gifts_114 (k_X11_at (d - 1) (by omega) (by decide) sh_14 (by decide) x23 M37) (by omega) (Nat.le_of_ble_eq_true rfl) w_763 w_569 w_101 w_570 (by decide +kernel) rfl rfl (Nat.le_of_ble_eq_true rfl) (fun r M40 h41 => ?_)
              obtain ⟨⟨x39, rfl⟩, h41⟩ := h41
              have hf := li_fr_trans hf h41 (fun i h => False.elim h)
              refine li_isub dX11_gifts_117 ?_
              refine li_top (fun x42 ex42 => ?_)
              refine li_istore [(5, .int x42), (4, .int x23), (3, .int x24), (2, .int x25), (0, .ref (Z.2.2 0)), (1, .int p1)] dX11_gifts_118 (by decide) rfl ?_
              refine li_iload 0 dX11_gifts_120 rfl ?_
              have J133 : ∀ (x44 : Int32) (x45 : Int32) (M46 : li_M), li_fr (fun i => i = 146 ∨ i = 147 ∨ i = 149 ∨ i = 150 ∨ i = 3 ∨ i = 4) M0 M46 → li_T l Z YX11_gifts d 133 [(5, .int x42), (4, .int x23), (3, .int x44), (2, .int x45), (0, .ref (Z.2.2 0)), (1, .int p1)] [] M46 (li_SI (fun i => i = 146 ∨ i = 147 ∨ i = 149 ∨ i = 150 ∨ i = 3 ∨ i = 4) M0) := by
                intro x44 x45 M46 hf
                obtain ⟨x47, ex47⟩ : ∃ y : Int32, y = x23 + 1 := ⟨_, rfl⟩
                refine li_iinc 1 [(4, .int x47), (5, .int x42), (3, .int x44), (2, .int x45), (0, .ref (Z.2.2 0)), (1, .int p1)] x47 dX11_gifts_133 rfl (by rw [ex47]; rfl) (by decide) rfl ?_
                refine li_goto 75 dX11_gifts_136 (by decide) ?_
                refine li_pick [0, 2, 3, 4, 5] [(4, .int x47), (3, .int x44), (2, .int x45), (0, .ref (Z.2.2 0)), (1, .int p1)] rfl ?_
                exact ih75 x47 x44 x45 M46 (by have h9 := li_up (li_gt c28); rw [← ex47] at h9; omega) hf
              refine li_if_le 133 dX11_gifts_122 (by decide) (fun c43 => ?_) (fun c43 => ?_)
              · refine li_pick [0, 1, 2, 3, 4, 5] [(5, .int x42), (4, .int x23), (3, .int x24), (2, .int x25), (0, .ref (Z.2.2 0)), (1, .int p1)] rfl ?_
                exact J133 x24 x25 M40 hf
              · refine li_iload_n 3 dX11_gifts_125 rfl ?_
                refine li_iload 0 dX11_gifts_126 rfl ?_
                refine li_iadd dX11_gifts_128 ?_
                refine li_top (fun x48 ex48 => ?_)
                refine li_istore_n [(2, .int x48), (5, .int x42), (4, .int x23), (3, .int x24), (0, .ref (Z.2.2 0)), (1, .int p1)] dX11_gifts_129 (by decide) rfl ?_
                obtain ⟨x49, ex49⟩ : ∃ y : Int32, y = x24 + 1 := ⟨_, rfl⟩
                refine li_iinc 3 [(3, .int x49), (2, .int x48), (5, .int x42), (4, .int x23), (0, .ref (Z.2.2 0)), (1, .int p1)] x49 dX11_gifts_130 rfl (by rw [ex49]; rfl) (by decide) rfl ?_
                refine li_pick [2, 3, 0, 1, 4, 5] [(5, .int x42), (4, .int x23), (3, .int x49), (2, .int x48), (0, .ref (Z.2.2 0)), (1, .int p1)] rfl ?_
                exact J133 x49 x48 M40 hf
        exact L75 _ 0 0 0 M20 (Nat.lt_succ_self _) hf
      · refine li_bipush (-2) dX11_gifts_65 (by decide) ?_
        exact li_iret dX11_gifts_67 rfl rfl ⟨⟨_, rfl⟩, hf⟩
    · refine li_bipush (-2) dX11_gifts_37 (by decide) ?_
      exact li_iret dX11_gifts_39 rfl rfl ⟨⟨_, rfl⟩, hf⟩
  · refine li_iconst (-1) dX11_gifts_14 (by decide) ?_
    exact li_iret dX11_gifts_15 rfl rfl ⟨⟨_, rfl⟩, hf⟩
set_option maxRecDepth 100000 in
set_option maxHeartbeats 4000000 in
theorem k_X11_mute {l : Launch} {Z : li_Z} (d : Nat) (hd : 7 ≤ d) (M0 : li_M) : li_Met l Z YX11_mute d [.ref (Z.2.2 0)] M0 (li_SI (fun i => i = 146 ∨ i = 147 ∨ i = 149 ∨ i = 150 ∨ i = 3 ∨ i = 4) M0) := by
  refine li_enter (by decide +kernel) (Nat.le_of_ble_eq_true rfl) ?_
  show li_T l Z YX11_mute d 0 [(0, .ref (Z.2.2 0))] [] M0 _
  have hf : li_fr (fun i => i = 146 ∨ i = 147 ∨ i = 149 ∨ i = 150 ∨ i = 3 ∨ i = 4) M0 M0 := li_fr_refl
  refine li_aload_n 0 dX11_mute_0 rfl ?_
  refine li_getr (k := 7) (N := 13) (T := TX11) (C0 := RX11) dX11_mute_1 (by decide) sh_0 rfl rfl (by decide) (by decide) li_in11 w_480 ?_
  refine li_callV (n := 0) (As := []) dX11_mute_4 (k_X0_fill (d - 1) (by omega) cob_148 M0) (by omega) (Nat.le_of_ble_eq_true rfl) w_988 w_989 w_990 w_109 w_991 (by decide +kernel) rfl (by decide) sh_148 rfl rfl (Nat.le_of_ble_eq_true rfl) (fun r M2 h3 => ?_)
  obtain ⟨rfl, h3⟩ := h3
  have hf := li_fr_trans hf h3 (fun i (h : i = 149 ∨ i = 150 ∨ i = 146 ∨ i = 147) => (show i = 146 ∨ i = 147 ∨ i = 149 ∨ i = 150 ∨ i = 3 ∨ i = 4 by omega))
  refine li_aload_n 0 dX11_mute_7 rfl ?_
  refine li_getr (k := 7) (N := 13) (T := TX11) (C0 := RX11) dX11_mute_8 (by decide) sh_0 rfl rfl (by decide) (by decide) li_in11 w_480 ?_
  refine li_callV (n := 0) (As := []) dX11_mute_11 (k_X0_firstUnpayable (d - 1) (by omega) cob_148 M2) (by omega) (Nat.le_of_ble_eq_true rfl) w_1053 w_1054 w_1055 w_109 w_1056 (by decide +kernel) rfl (by decide) sh_148 rfl rfl (Nat.le_of_ble_eq_true rfl) (fun r M5 h6 => ?_)
  obtain ⟨⟨x4, rfl⟩, h6⟩ := h6
  have hf := li_fr_trans hf h6 (fun i h => False.elim h)
  refine li_istore_n [(1, .int x4), (0, .ref (Z.2.2 0))] dX11_mute_14 (by decide) rfl ?_
  refine li_iload_n 0 dX11_mute_15 rfl ?_
  refine li_if_ge 22 dX11_mute_16 (by decide) (fun c7 => ?_) (fun c7 => ?_)
  · refine li_aload_n 1 dX11_mute_22 rfl ?_
    refine li_getr (k := 1) (N := 13) (T := TX11) (C0 := RX11) dX11_mute_23 (by decide) sh_0 rfl rfl (by decide) (by decide) li_in11 w_474 ?_
    refine li_aload_n 1 dX11_mute_26 rfl ?_
    refine li_getr (k := 7) (N := 13) (T := TX11) (C0 := RX11) dX11_mute_27 (by decide) sh_0 rfl rfl (by decide) (by decide) li_in11 w_480 ?_
    refine li_getr (k := 4) (N := 8) (T := TX0) (C0 := RX0) dX11_mute_30 (by decide) sh_148 rfl rfl (by decide) (by decide) li_in0 w_374 ?_
    refine li_iload_n 0 dX11_mute_33 rfl ?_
    refine li_callS (n := 2) (As := [.ref (Z.2.2 150), .int x4]) dX11_mute_34 (k_X11_at (d - 1) (by omega) (by decide) sh_150 (by decide) x4 M5) (by omega) (Nat.le_of_ble_eq_true rfl) w_763 w_569 w_101 w_570 (by decide +kernel) rfl rfl (Nat.le_of_ble_eq_true rfl) (fun r M9 h10 => ?_)
    obtain ⟨⟨x8, rfl⟩, h10⟩ := h10
    have hf := li_fr_trans hf h10 (fun i h => False.elim h)
    refine li_aload_n 1 dX11_mute_37 rfl ?_
    refine li_getr (k := 3) (N := 13) (T := TX11) (C0 := RX11) dX11_mute_38 (by decide) sh_0 rfl rfl (by decide) (by decide) li_in11 w_476 ?_
    refine li_getr (k := 4) (N := 11) (T := TX4) (C0 := RX4) dX11_mute_41 (by decide) sh_13 rfl rfl (by decide) (by decide) li_in4 w_243 ?_
    refine li_aload_n 1 dX11_mute_44 rfl ?_
    refine li_getr (k := 2) (N := 13) (T := TX11) (C0 := RX11) dX11_mute_45 (by decide) sh_0 rfl rfl (by decide) (by decide) li_in11 w_475 ?_
    refine li_getr (k := 4) (N := 9) (T := TX8) (C0 := RX8) dX11_mute_48 (by decide) sh_5 rfl rfl (by decide) (by decide) li_in8 w_190 ?_
    refine li_iload_n 0 dX11_mute_51 rfl ?_
    refine li_callS (n := 2) (As := [.ref (Z.2.2 8), .int x4]) dX11_mute_52 (k_X11_at (d - 1) (by omega) (by decide) sh_8 (by decide) x4 M9) (by omega) (Nat.le_of_ble_eq_true rfl) w_763 w_569 w_101 w_570 (by decide +kernel) rfl rfl (Nat.le_of_ble_eq_true rfl) (fun r M12 h13 => ?_)
    obtain ⟨⟨x11, rfl⟩, h13⟩ := h13
    have hf := li_fr_trans hf h13 (fun i h => False.elim h)
    refine li_callS (n := 2) (As := [.ref (Z.2.2 14), .int x11]) dX11_mute_55 (k_X11_at (d - 1) (by omega) (by decide) sh_14 (by decide) x11 M12) (by omega) (Nat.le_of_ble_eq_true rfl) w_763 w_569 w_101 w_570 (by decide +kernel) rfl rfl (Nat.le_of_ble_eq_true rfl) (fun r M15 h16 => ?_)
    obtain ⟨⟨x14, rfl⟩, h16⟩ := h16
    have hf := li_fr_trans hf h16 (fun i h => False.elim h)
    refine li_callV (n := 2) (As := [.int x8, .int x14]) dX11_mute_58 (k_X5_tellTwo (d - 1) (by omega) x8 x14 M15) (by omega) (Nat.le_of_ble_eq_true rfl) w_951 w_952 w_953 w_103 w_954 (by decide +kernel) rfl (by decide) sh_3 rfl rfl (Nat.le_of_ble_eq_true rfl) (fun r M18 h19 => ?_)
    obtain ⟨rfl, h19⟩ := h19
    have hf := li_fr_trans hf h19 (fun i (h : i = 3 ∨ i = 4) => (show i = 146 ∨ i = 147 ∨ i = 149 ∨ i = 150 ∨ i = 3 ∨ i = 4 by omega))
    refine li_iload_n 0 dX11_mute_61 rfl ?_
    exact li_iret dX11_mute_62 rfl rfl ⟨⟨_, rfl⟩, hf⟩
  · refine li_bipush (-2) dX11_mute_19 (by decide) ?_
    exact li_iret dX11_mute_21 rfl rfl ⟨⟨_, rfl⟩, hf⟩
set_option maxRecDepth 100000 in
set_option maxHeartbeats 4000000 in
theorem k_X11_relay {l : Launch} {Z : li_Z} (d : Nat) (hd : 16 ≤ d) (p1 : Int32) (p2 : Int32) (p3 : Int32) (M0 : li_M) : li_Met l Z YX11_relay d [.ref (Z.2.2 0), .int p1, .int p2, .int p3] M0 (li_SI (fun i => i = 146 ∨ i = 147 ∨ i = 158 ∨ i = 159 ∨ i = 161 ∨ i = 162 ∨ i = 3 ∨ i = 4) M0) := by
  refine li_enter (by decide +kernel) (Nat.le_of_ble_eq_true rfl) ?_
  show li_T l Z YX11_relay d 0 [(0, .ref (Z.2.2 0)), (1, .int p1), (2, .int p2), (3, .int p3)] [] M0 _
  have hf : li_fr (fun i => i = 146 ∨ i = 147 ∨ i = 158 ∨ i = 159 ∨ i = 161 ∨ i = 162 ∨ i = 3 ∨ i = 4) M0 M0 := li_fr_refl
  refine li_aload_n 0 dX11_relay_0 rfl ?_
  refine li_getr (k := 2) (N := 13) (T := TX11) (C0 := RX11) dX11_relay_1 (by decide) sh_0 rfl rfl (by decide) (by decide) li_in11 w_475 ?_
  refine li_iload_n 1 dX11_relay_4 rfl ?_
  refine li_callV (n := 1) (As := [.int p1]) dX11_relay_5 (k_X8_hasPerson (d - 1) (by omega) p1 M0) (by omega) (Nat.le_of_ble_eq_true rfl) w_758 w_759 w_760 w_104 w_761 (by decide +kernel) rfl (by decide) sh_5 rfl rfl (Nat.le_of_ble_eq_true rfl) (fun r M2 h3 => ?_)
  obtain ⟨⟨x1, rfl, bx1⟩, h3⟩ := h3
  have hf := li_fr_trans hf h3 (fun i h => False.elim h)
  refine li_if_eq 32 dX11_relay_8 (by decide) (fun c4 => ?_) (fun c4 => ?_)
  · refine li_iconst (-1) dX11_relay_32 (by decide) ?_
    exact li_iret dX11_relay_33 rfl rfl ⟨⟨_, rfl⟩, hf⟩
  · refine li_aload_n 0 dX11_relay_11 rfl ?_
    refine li_getr (k := 2) (N := 13) (T := TX11) (C0 := RX11) dX11_relay_12 (by decide) sh_0 rfl rfl (by decide) (by decide) li_in11 w_475 ?_
    refine li_iload_n 2 dX11_relay_15 rfl ?_
    refine li_callV (n := 1) (As := [.int p2]) dX11_relay_16 (k_X8_hasPerson (d - 1) (by omega) p2 M2) (by omega) (Nat.le_of_ble_eq_true rfl) w_758 w_759 w_760 w_104 w_761 (by decide +kernel) rfl (by decide) sh_5 rfl rfl (Nat.le_of_ble_eq_true rfl) (fun r M6 h7 => ?_)
    obtain ⟨⟨x5, rfl, bx5⟩, h7⟩ := h7
    have hf := li_fr_trans hf h7 (fun i h => False.elim h)
    refine li_if_eq 32 dX11_relay_19 (by decide) (fun c8 => ?_) (fun c8 => ?_)
    · refine li_iconst (-1) dX11_relay_32 (by decide) ?_
      exact li_iret dX11_relay_33 rfl rfl ⟨⟨_, rfl⟩, hf⟩
    · refine li_iload_n 3 dX11_relay_22 rfl ?_
      refine li_iconst 1 dX11_relay_23 (by decide) ?_
      refine li_bipush 99 dX11_relay_24 (by decide) ?_
      refine li_callS (n := 3) (As := [.int p3, .int 1, .int 99]) dX11_relay_26 (k_X11_within (d - 1) (by omega) p3 1 99 M6) (by omega) (Nat.le_of_ble_eq_true rfl) w_762 w_639 w_101 w_640 (by decide +kernel) rfl rfl (Nat.le_of_ble_eq_true rfl) (fun r M10 h11 => ?_)
      obtain ⟨⟨x9, rfl, bx9, qx9⟩, h11⟩ := h11
      have hf := li_fr_trans hf h11 (fun i h => False.elim h)
      refine li_if_ne 34 dX11_relay_29 (by decide) (fun c12 => ?_) (fun c12 => ?_)
      · refine li_aload_n 0 dX11_relay_34 rfl ?_
        refine li_getr (k := 9) (N := 13) (T := TX11) (C0 := RX11) dX11_relay_35 (by decide) sh_0 rfl rfl (by decide) (by decide) li_in11 w_482 ?_
        refine li_iload_n 1 dX11_relay_38 rfl ?_
        refine li_iload_n 2 dX11_relay_39 rfl ?_
        refine li_iload_n 3 dX11_relay_40 rfl ?_
        refine li_callV (n := 3) (As := [.int p1, .int p2, .int p3]) dX11_relay_41 (k_X9_findChain (d - 1) (by omega) p1 p2 p3 M10) (by omega) (Nat.le_of_ble_eq_true rfl) w_1061 w_1062 w_1063 w_110 w_1064 (by decide +kernel) rfl (by decide) sh_158 rfl rfl (Nat.le_of_ble_eq_true rfl) (fun r M14 h15 => ?_)
        obtain ⟨rfl, h15⟩ := h15
        have hf := li_fr_trans hf h15 (fun i (h : i = 146 ∨ i = 147 ∨ i = 158 ∨ i = 159 ∨ i = 161 ∨ i = 162) => (show i = 146 ∨ i = 147 ∨ i = 158 ∨ i = 159 ∨ i = 161 ∨ i = 162 ∨ i = 3 ∨ i = 4 by omega))
        refine li_aload_n 0 dX11_relay_44 rfl ?_
        refine li_getr (k := 9) (N := 13) (T := TX11) (C0 := RX11) dX11_relay_45 (by decide) sh_0 rfl rfl (by decide) (by decide) li_in11 w_482 ?_
        refine li_geti (k := 7) (N := 9) (T := TX9) (C0 := RX9) dX11_relay_48 (by decide) sh_158 rfl rfl (by decide) li_in9 w_413 ?_
        refine li_top (fun x16 ex16 => ?_)
        refine li_if_ne 57 dX11_relay_51 (by decide) (fun c17 => ?_) (fun c17 => ?_)
        · refine li_aload_n 0 dX11_relay_57 rfl ?_
          refine li_getr (k := 1) (N := 13) (T := TX11) (C0 := RX11) dX11_relay_58 (by decide) sh_0 rfl rfl (by decide) (by decide) li_in11 w_474 ?_
          refine li_aload_n 0 dX11_relay_61 rfl ?_
          refine li_getr (k := 9) (N := 13) (T := TX11) (C0 := RX11) dX11_relay_62 (by decide) sh_0 rfl rfl (by decide) (by decide) li_in11 w_482 ?_
          refine li_getr (k := 6) (N := 9) (T := TX9) (C0 := RX9) dX11_relay_65 (by decide) sh_158 rfl rfl (by decide) (by decide) li_in9 w_411 ?_
          refine li_iconst 0 dX11_relay_68 (by decide) ?_
          refine li_aload_n 0 dX11_relay_69 rfl ?_
          refine li_getr (k := 9) (N := 13) (T := TX11) (C0 := RX11) dX11_relay_70 (by decide) sh_0 rfl rfl (by decide) (by decide) li_in11 w_482 ?_
          refine li_geti (k := 7) (N := 9) (T := TX9) (C0 := RX9) dX11_relay_73 (by decide) sh_158 rfl rfl (by decide) li_in9 w_413 ?_
          refine li_top (fun x18 ex18 => ?_)
          refine li_callV (n := 3) (As := [.ref (Z.2.2 162), .int 0, .int x18]) dX11_relay_76 (k_X5_tellAll (d - 1) (by omega) (by decide) sh_162 (by decide) 0 x18 M14) (by omega) (Nat.le_of_ble_eq_true rfl) w_1080 w_1081 w_1082 w_103 w_1083 (by decide +kernel) rfl (by decide) sh_3 rfl rfl (Nat.le_of_ble_eq_true rfl) (fun r M20 h21 => ?_)
          obtain ⟨rfl, h21⟩ := h21
          have hf := li_fr_trans hf h21 (fun i (h : i = 3 ∨ i = 4) => (show i = 146 ∨ i = 147 ∨ i = 158 ∨ i = 159 ∨ i = 161 ∨ i = 162 ∨ i = 3 ∨ i = 4 by omega))
          refine li_aload_n 0 dX11_relay_79 rfl ?_
          refine li_getr (k := 9) (N := 13) (T := TX11) (C0 := RX11) dX11_relay_80 (by decide) sh_0 rfl rfl (by decide) (by decide) li_in11 w_482 ?_
          refine li_geti (k := 8) (N := 9) (T := TX9) (C0 := RX9) dX11_relay_83 (by decide) sh_158 rfl rfl (by decide) li_in9 w_415 ?_
          refine li_top (fun x22 ex22 => ?_)
          exact li_iret dX11_relay_86 rfl rfl ⟨⟨_, rfl⟩, hf⟩
        · refine li_bipush (-2) dX11_relay_54 (by decide) ?_
          exact li_iret dX11_relay_56 rfl rfl ⟨⟨_, rfl⟩, hf⟩
      · refine li_iconst (-1) dX11_relay_32 (by decide) ?_
        exact li_iret dX11_relay_33 rfl rfl ⟨⟨_, rfl⟩, hf⟩
set_option maxRecDepth 100000 in
set_option maxHeartbeats 4000000 in
theorem k_X11_criers {l : Launch} {Z : li_Z} (d : Nat) (hd : 7 ≤ d) (p1 : Int32) (p2 : Int32) (p3 : Int32) (M0 : li_M) : li_Met l Z YX11_criers d [.ref (Z.2.2 0), .int p1, .int p2, .int p3] M0 (li_SI (fun i => i = 146 ∨ i = 147 ∨ i = 160 ∨ i = 3 ∨ i = 4) M0) := by
  refine li_enter (by decide +kernel) (Nat.le_of_ble_eq_true rfl) ?_
  show li_T l Z YX11_criers d 0 [(0, .ref (Z.2.2 0)), (1, .int p1), (2, .int p2), (3, .int p3)] [] M0 _
  have hf : li_fr (fun i => i = 146 ∨ i = 147 ∨ i = 160 ∨ i = 3 ∨ i = 4) M0 M0 := li_fr_refl
  refine li_aload_n 0 dX11_criers_0 rfl ?_
  refine li_getr (k := 2) (N := 13) (T := TX11) (C0 := RX11) dX11_criers_1 (by decide) sh_0 rfl rfl (by decide) (by decide) li_in11 w_475 ?_
  refine li_iload_n 1 dX11_criers_4 rfl ?_
  refine li_callV (n := 1) (As := [.int p1]) dX11_criers_5 (k_X8_hasPerson (d - 1) (by omega) p1 M0) (by omega) (Nat.le_of_ble_eq_true rfl) w_758 w_759 w_760 w_104 w_761 (by decide +kernel) rfl (by decide) sh_5 rfl rfl (Nat.le_of_ble_eq_true rfl) (fun r M2 h3 => ?_)
  obtain ⟨⟨x1, rfl, bx1⟩, h3⟩ := h3
  have hf := li_fr_trans hf h3 (fun i h => False.elim h)
  refine li_if_eq 35 dX11_criers_8 (by decide) (fun c4 => ?_) (fun c4 => ?_)
  · refine li_iconst (-1) dX11_criers_35 (by decide) ?_
    exact li_iret dX11_criers_36 rfl rfl ⟨⟨_, rfl⟩, hf⟩
  · refine li_iload_n 2 dX11_criers_11 rfl ?_
    refine li_aload_n 0 dX11_criers_12 rfl ?_
    refine li_getr (k := 2) (N := 13) (T := TX11) (C0 := RX11) dX11_criers_13 (by decide) sh_0 rfl rfl (by decide) (by decide) li_in11 w_475 ?_
    refine li_geti (k := 0) (N := 9) (T := TX8) (C0 := RX8) dX11_criers_16 (by decide) sh_5 rfl rfl (by decide) li_in8 w_178 ?_
    refine li_top (fun x5 ex5 => ?_)
    refine li_callS (n := 2) (As := [.int p2, .int x5]) dX11_criers_19 (k_X11_areBitsOf (d - 1) (by omega) p2 x5 M2) (by omega) (Nat.le_of_ble_eq_true rfl) w_1041 w_1042 w_101 w_1043 (by decide +kernel) rfl rfl (Nat.le_of_ble_eq_true rfl) (fun r M7 h8 => ?_)
    obtain ⟨⟨x6, rfl, bx6⟩, h8⟩ := h8
    have hf := li_fr_trans hf h8 (fun i h => False.elim h)
    refine li_if_eq 35 dX11_criers_22 (by decide) (fun c9 => ?_) (fun c9 => ?_)
    · refine li_iconst (-1) dX11_criers_35 (by decide) ?_
      exact li_iret dX11_criers_36 rfl rfl ⟨⟨_, rfl⟩, hf⟩
    · refine li_iload_n 3 dX11_criers_25 rfl ?_
      refine li_iconst 1 dX11_criers_26 (by decide) ?_
      refine li_bipush 99 dX11_criers_27 (by decide) ?_
      refine li_callS (n := 3) (As := [.int p3, .int 1, .int 99]) dX11_criers_29 (k_X11_within (d - 1) (by omega) p3 1 99 M7) (by omega) (Nat.le_of_ble_eq_true rfl) w_762 w_639 w_101 w_640 (by decide +kernel) rfl rfl (Nat.le_of_ble_eq_true rfl) (fun r M11 h12 => ?_)
      obtain ⟨⟨x10, rfl, bx10, qx10⟩, h12⟩ := h12
      have hf := li_fr_trans hf h12 (fun i h => False.elim h)
      refine li_if_ne 37 dX11_criers_32 (by decide) (fun c13 => ?_) (fun c13 => ?_)
      · refine li_aload_n 0 dX11_criers_37 rfl ?_
        refine li_getr (k := 9) (N := 13) (T := TX11) (C0 := RX11) dX11_criers_38 (by decide) sh_0 rfl rfl (by decide) (by decide) li_in11 w_482 ?_
        refine li_iload_n 1 dX11_criers_41 rfl ?_
        refine li_iload_n 2 dX11_criers_42 rfl ?_
        refine li_iload_n 3 dX11_criers_43 rfl ?_
        refine li_callV (n := 3) (As := [.int p1, .int p2, .int p3]) dX11_criers_44 (k_X9_fewestCriers (d - 1) (by omega) p1 p2 p3 M11) (by omega) (Nat.le_of_ble_eq_true rfl) w_1090 w_1091 w_1092 w_110 w_1093 (by decide +kernel) rfl (by decide) sh_158 rfl rfl (Nat.le_of_ble_eq_true rfl) (fun r M15 h16 => ?_)
        obtain ⟨⟨x14, rfl⟩, h16⟩ := h16
        have hf := li_fr_trans hf h16 (fun i (h : i = 146 ∨ i = 147 ∨ i = 160) => (show i = 146 ∨ i = 147 ∨ i = 160 ∨ i = 3 ∨ i = 4 by omega))
        refine li_istore [(4, .int x14), (0, .ref (Z.2.2 0)), (1, .int p1), (2, .int p2), (3, .int p3)] dX11_criers_47 (by decide) rfl ?_
        refine li_iload 0 dX11_criers_49 rfl ?_
        refine li_if_ge 57 dX11_criers_51 (by decide) (fun c17 => ?_) (fun c17 => ?_)
        · refine li_aload_n 1 dX11_criers_57 rfl ?_
          refine li_getr (k := 1) (N := 13) (T := TX11) (C0 := RX11) dX11_criers_58 (by decide) sh_0 rfl rfl (by decide) (by decide) li_in11 w_474 ?_
          refine li_iload 0 dX11_criers_61 rfl ?_
          refine li_callV (n := 1) (As := [.int x14]) dX11_criers_63 (k_X5_tell (d - 1) (by omega) x14 M15) (by omega) (Nat.le_of_ble_eq_true rfl) w_1045 w_1046 w_1047 w_103 w_1048 (by decide +kernel) rfl (by decide) sh_3 rfl rfl (Nat.le_of_ble_eq_true rfl) (fun r M19 h20 => ?_)
          obtain ⟨rfl, h20⟩ := h20
          have hf := li_fr_trans hf h20 (fun i (h : i = 3 ∨ i = 4) => (show i = 146 ∨ i = 147 ∨ i = 160 ∨ i = 3 ∨ i = 4 by omega))
          refine li_iload 0 dX11_criers_66 rfl ?_
          refine li_callS (n := 1) (As := [.int x14]) dX11_criers_68 (k_J6_bitCount_0f7a4 (d - 1) (by omega) x14 M19) (by omega) (Nat.le_of_ble_eq_true rfl) w_1030 w_822 w_123 w_823 (by decide +kernel) rfl rfl (Nat.le_of_ble_eq_true rfl) (fun r M22 h23 => ?_)
          obtain ⟨⟨x21, rfl⟩, h23⟩ := h23
          have hf := li_fr_trans hf h23 (fun i h => False.elim h)
          exact li_iret dX11_criers_71 rfl rfl ⟨⟨_, rfl⟩, hf⟩
        · refine li_bipush (-2) dX11_criers_54 (by decide) ?_
          exact li_iret dX11_criers_56 rfl rfl ⟨⟨_, rfl⟩, hf⟩
      · refine li_iconst (-1) dX11_criers_35 (by decide) ?_
        exact li_iret dX11_criers_36 rfl rfl ⟨⟨_, rfl⟩, hf⟩
set_option maxRecDepth 100000 in
set_option maxHeartbeats 4000000 in
theorem k_X11_look {l : Launch} {Z : li_Z} (d : Nat) (hd : 7 ≤ d) (M0 : li_M) : li_Met l Z YX11_look d [.ref (Z.2.2 0)] M0 (li_SI (fun i => i = 146 ∨ i = 147 ∨ i = 149 ∨ i = 150 ∨ i = 173 ∨ i = 3 ∨ i = 4) M0) := by
  refine li_enter (by decide +kernel) (Nat.le_of_ble_eq_true rfl) ?_
  show li_T l Z YX11_look d 0 [(0, .ref (Z.2.2 0))] [] M0 _
  have hf : li_fr (fun i => i = 146 ∨ i = 147 ∨ i = 149 ∨ i = 150 ∨ i = 173 ∨ i = 3 ∨ i = 4) M0 M0 := li_fr_refl
  refine li_aload_n 0 dX11_look_0 rfl ?_
  refine li_getr (k := 7) (N := 13) (T := TX11) (C0 := RX11) dX11_look_1 (by decide) sh_0 rfl rfl (by decide) (by decide) li_in11 w_480 ?_
  refine li_callV (n := 0) (As := []) dX11_look_4 (k_X0_fill (d - 1) (by omega) cob_148 M0) (by omega) (Nat.le_of_ble_eq_true rfl) w_988 w_989 w_990 w_109 w_991 (by decide +kernel) rfl (by decide) sh_148 rfl rfl (Nat.le_of_ble_eq_true rfl) (fun r M2 h3 => ?_)
  obtain ⟨rfl, h3⟩ := h3
  have hf := li_fr_trans hf h3 (fun i (h : i = 149 ∨ i = 150 ∨ i = 146 ∨ i = 147) => (show i = 146 ∨ i = 147 ∨ i = 149 ∨ i = 150 ∨ i = 173 ∨ i = 3 ∨ i = 4 by omega))
  refine li_iconst 0 dX11_look_7 (by decide) ?_
  refine li_istore_n [(1, .int 0), (0, .ref (Z.2.2 0))] dX11_look_8 (by decide) rfl ?_
  refine li_iconst (-1) dX11_look_9 (by decide) ?_
  refine li_istore_n [(2, .int (-1)), (1, .int 0), (0, .ref (Z.2.2 0))] dX11_look_10 (by decide) rfl ?_
  refine li_iconst 0 dX11_look_11 (by decide) ?_
  refine li_istore_n [(3, .int 0), (2, .int (-1)), (1, .int 0), (0, .ref (Z.2.2 0))] dX11_look_12 (by decide) rfl ?_
  have L13 : ∀ (n : Nat) (x4 : Int32) (x5 : Int32) (x6 : Int32) (M7 : li_M), (2147483647 - (x4 : Int32).toInt).toNat < n → li_fr (fun i => i = 146 ∨ i = 147 ∨ i = 149 ∨ i = 150 ∨ i = 173 ∨ i = 3 ∨ i = 4) M0 M7 → li_T l Z YX11_look d 13 [(3, .int x4), (2, .int x5), (1, .int x6), (0, .ref (Z.2.2 0))] [] M7 (li_SI (fun i => i = 146 ∨ i = 147 ∨ i = 149 ∨ i = 150 ∨ i = 173 ∨ i = 3 ∨ i = 4) M0) := by
    intro n
    induction n with
    | zero => intro x4 x5 x6 M7 hn; exact absurd hn (Nat.not_lt_zero _)
    | succ n ih13 =>
      intro x4 x5 x6 M7 hn hf
      refine li_iload_n 0 dX11_look_13 rfl ?_
      refine li_aload_n 3 dX11_look_14 rfl ?_
      refine li_getr (k := 2) (N := 13) (T := TX11) (C0 := RX11) dX11_look_15 (by decide) sh_0 rfl rfl (by decide) (by decide) li_in11 w_475 ?_
      refine li_geti (k := 0) (N := 9) (T := TX8) (C0 := RX8) dX11_look_18 (by decide) sh_5 rfl rfl (by decide) li_in8 w_178 ?_
      refine li_top (fun x8 ex8 => ?_)
      refine li_icmp_ge 69 dX11_look_21 (by decide) (fun c9 => ?_) (fun c9 => ?_)
      · refine li_iload_n 1 dX11_look_69 rfl ?_
        refine li_if_ge 76 dX11_look_70 (by decide) (fun c10 => ?_) (fun c10 => ?_)
        · refine li_aload_n 3 dX11_look_76 rfl ?_
          refine li_getr (k := 1) (N := 13) (T := TX11) (C0 := RX11) dX11_look_77 (by decide) sh_0 rfl rfl (by decide) (by decide) li_in11 w_474 ?_
          refine li_iload_n 2 dX11_look_80 rfl ?_
          refine li_callV (n := 1) (As := [.int x6]) dX11_look_81 (k_X5_tell (d - 1) (by omega) x6 M7) (by omega) (Nat.le_of_ble_eq_true rfl) w_1045 w_1046 w_1047 w_103 w_1048 (by decide +kernel) rfl (by decide) sh_3 rfl rfl (Nat.le_of_ble_eq_true rfl) (fun r M12 h13 => ?_)
          obtain ⟨rfl, h13⟩ := h13
          have hf := li_fr_trans hf h13 (fun i (h : i = 3 ∨ i = 4) => (show i = 146 ∨ i = 147 ∨ i = 149 ∨ i = 150 ∨ i = 173 ∨ i = 3 ∨ i = 4 by omega))
          refine li_iload_n 1 dX11_look_84 rfl ?_
          exact li_iret dX11_look_85 rfl rfl ⟨⟨_, rfl⟩, hf⟩
        · refine li_bipush (-2) dX11_look_73 (by decide) ?_
          exact li_iret dX11_look_75 rfl rfl ⟨⟨_, rfl⟩, hf⟩
      · refine li_aload_n 3 dX11_look_24 rfl ?_
        refine li_getr (k := 11) (N := 13) (T := TX11) (C0 := RX11) dX11_look_25 (by decide) sh_0 rfl rfl (by decide) (by decide) li_in11 w_484 ?_
        refine li_geti (k := 5) (N := 9) (T := TX2) (C0 := RX2) dX11_look_28 (by decide) sh_171 rfl rfl (by decide) li_in2 w_447 ?_
        refine li_top (fun x14 ex14 => ?_)
        refine li_iload_n 0 dX11_look_31 rfl ?_
        refine li_callS (n := 2) (As := [.int x14, .int x4]) dX11_look_32 (k_X11_holds (d - 1) (by omega) x14 x4 M7) (by omega) (Nat.le_of_ble_eq_true rfl) w_856 w_857 w_101 w_858 (by decide +kernel) rfl rfl (Nat.le_of_ble_eq_true rfl) (fun r M16 h17 => ?_)
        obtain ⟨⟨x15, rfl, bx15⟩, h17⟩ := h17
        have hf := li_fr_trans hf h17 (fun i h => False.elim h)
        have J50 : ∀ (x19 : Int32) (M20 : li_M), li_fr (fun i => i = 146 ∨ i = 147 ∨ i = 149 ∨ i = 150 ∨ i = 173 ∨ i = 3 ∨ i = 4) M0 M20 → li_T l Z YX11_look d 50 [(3, .int x4), (2, .int x5), (1, .int x6), (0, .ref (Z.2.2 0))] [.int x19] M20 (li_SI (fun i => i = 146 ∨ i = 147 ∨ i = 149 ∨ i = 150 ∨ i = 173 ∨ i = 3 ∨ i = 4) M0) := by
          intro x19 M20 hf
          refine li_istore [(4, .int x19), (3, .int x4), (2, .int x5), (1, .int x6), (0, .ref (Z.2.2 0))] dX11_look_50 (by decide) rfl ?_
          refine li_iload 0 dX11_look_52 rfl ?_
          refine li_iload_n 3 dX11_look_54 rfl ?_
          have J63 : ∀ (x22 : Int32) (x23 : Int32) (M24 : li_M), li_fr (fun i => i = 146 ∨ i = 147 ∨ i = 149 ∨ i = 150 ∨ i = 173 ∨ i = 3 ∨ i = 4) M0 M24 → li_T l Z YX11_look d 63 [(4, .int x19), (3, .int x4), (2, .int x22), (1, .int x23), (0, .ref (Z.2.2 0))] [] M24 (li_SI (fun i => i = 146 ∨ i = 147 ∨ i = 149 ∨ i = 150 ∨ i = 173 ∨ i = 3 ∨ i = 4) M0) := by
            intro x22 x23 M24 hf
            obtain ⟨x25, ex25⟩ : ∃ y : Int32, y = x4 + 1 := ⟨_, rfl⟩
            refine li_iinc 1 [(3, .int x25), (4, .int x19), (2, .int x22), (1, .int x23), (0, .ref (Z.2.2 0))] x25 dX11_look_63 rfl (by rw [ex25]; rfl) (by decide) rfl ?_
            refine li_goto 13 dX11_look_66 (by decide) ?_
            refine li_pick [0, 2, 3, 4] [(3, .int x25), (2, .int x22), (1, .int x23), (0, .ref (Z.2.2 0))] rfl ?_
            exact ih13 x25 x22 x23 M24 (by have h9 := li_up (li_gt c9); rw [← ex25] at h9; omega) hf
          refine li_icmp_le 63 dX11_look_55 (by decide) (fun c21 => ?_) (fun c21 => ?_)
          · refine li_pick [0, 1, 2, 3, 4] [(4, .int x19), (3, .int x4), (2, .int x5), (1, .int x6), (0, .ref (Z.2.2 0))] rfl ?_
            exact J63 x5 x6 M20 hf
          · refine li_iload 0 dX11_look_58 rfl ?_
            refine li_istore_n [(1, .int x19), (4, .int x19), (3, .int x4), (2, .int x5), (0, .ref (Z.2.2 0))] dX11_look_60 (by decide) rfl ?_
            refine li_iload_n 2 dX11_look_61 rfl ?_
            refine li_istore_n [(2, .int x4), (1, .int x19), (4, .int x19), (3, .int x4), (0, .ref (Z.2.2 0))] dX11_look_62 (by decide) rfl ?_
            refine li_pick [2, 3, 0, 1, 4] [(4, .int x19), (3, .int x4), (2, .int x4), (1, .int x19), (0, .ref (Z.2.2 0))] rfl ?_
            exact J63 x4 x19 M20 hf
        refine li_if_eq 42 dX11_look_35 (by decide) (fun c18 => ?_) (fun c18 => ?_)
        · refine li_aload_n 3 dX11_look_42 rfl ?_
          refine li_getr (k := 11) (N := 13) (T := TX11) (C0 := RX11) dX11_look_43 (by decide) sh_0 rfl rfl (by decide) (by decide) li_in11 w_484 ?_
          refine li_iload_n 0 dX11_look_46 rfl ?_
          refine li_callV (n := 1) (As := [.int x4]) dX11_look_47 (k_X2_differentReadings (d - 1) (by omega) x4 M16) (by omega) (Nat.le_of_ble_eq_true rfl) w_1218 w_1219 w_1220 w_111 w_1221 (by decide +kernel) rfl (by decide) sh_171 rfl rfl (Nat.le_of_ble_eq_true rfl) (fun r M27 h28 => ?_)
          obtain ⟨⟨x26, rfl⟩, h28⟩ := h28
          have hf := li_fr_trans hf h28 (fun i (h : i = 173) => (show i = 146 ∨ i = 147 ∨ i = 149 ∨ i = 150 ∨ i = 173 ∨ i = 3 ∨ i = 4 by omega))
          refine li_pick [0, 1, 2, 3] [(3, .int x4), (2, .int x5), (1, .int x6), (0, .ref (Z.2.2 0))] rfl ?_
          exact J50 x26 M27 hf
        · refine li_iconst 0 dX11_look_38 (by decide) ?_
          refine li_goto 50 dX11_look_39 (by decide) ?_
          refine li_pick [0, 1, 2, 3] [(3, .int x4), (2, .int x5), (1, .int x6), (0, .ref (Z.2.2 0))] rfl ?_
          exact J50 0 M16 hf
  exact L13 _ 0 (-1) 0 M2 (Nat.lt_succ_self _) hf
set_option maxRecDepth 100000 in
set_option maxHeartbeats 4000000 in
theorem k_X11_run {l : Launch} {Z : li_Z} (d : Nat) (hd : 7 ≤ d) (p1 : Int32) (M0 : li_M) : li_Met l Z YX11_run d [.ref (Z.2.2 0), .int p1] M0 (li_SI (fun i => i = 3 ∨ i = 4) M0) := by
  refine li_enter (by decide +kernel) (Nat.le_of_ble_eq_true rfl) ?_
  show li_T l Z YX11_run d 0 [(0, .ref (Z.2.2 0)), (1, .int p1)] [] M0 _
  have hf : li_fr (fun i => i = 3 ∨ i = 4) M0 M0 := li_fr_refl
  refine li_aload_n 0 dX11_run_0 rfl ?_
  refine li_getr (k := 2) (N := 13) (T := TX11) (C0 := RX11) dX11_run_1 (by decide) sh_0 rfl rfl (by decide) (by decide) li_in11 w_475 ?_
  refine li_iload_n 1 dX11_run_4 rfl ?_
  refine li_callV (n := 1) (As := [.int p1]) dX11_run_5 (k_X8_hasPerson (d - 1) (by omega) p1 M0) (by omega) (Nat.le_of_ble_eq_true rfl) w_758 w_759 w_760 w_104 w_761 (by decide +kernel) rfl (by decide) sh_5 rfl rfl (Nat.le_of_ble_eq_true rfl) (fun r M2 h3 => ?_)
  obtain ⟨⟨x1, rfl, bx1⟩, h3⟩ := h3
  have hf := li_fr_trans hf h3 (fun i h => False.elim h)
  refine li_if_ne 13 dX11_run_8 (by decide) (fun c4 => ?_) (fun c4 => ?_)
  · refine li_aload_n 0 dX11_run_13 rfl ?_
    refine li_getr (k := 3) (N := 13) (T := TX11) (C0 := RX11) dX11_run_14 (by decide) sh_0 rfl rfl (by decide) (by decide) li_in11 w_476 ?_
    refine li_iload_n 1 dX11_run_17 rfl ?_
    refine li_aload_n 0 dX11_run_18 rfl ?_
    refine li_getr (k := 2) (N := 13) (T := TX11) (C0 := RX11) dX11_run_19 (by decide) sh_0 rfl rfl (by decide) (by decide) li_in11 w_475 ?_
    refine li_geti (k := 0) (N := 9) (T := TX8) (C0 := RX8) dX11_run_22 (by decide) sh_5 rfl rfl (by decide) li_in8 w_178 ?_
    refine li_top (fun x5 ex5 => ?_)
    refine li_callV (n := 2) (As := [.int p1, .int x5]) dX11_run_25 (k_X4_struckWith (d - 1) (by omega) p1 x5 M2) (by omega) (Nat.le_of_ble_eq_true rfl) w_1240 w_1241 w_1242 w_105 w_1243 (by decide +kernel) rfl (by decide) sh_13 rfl rfl (Nat.le_of_ble_eq_true rfl) (fun r M7 h8 => ?_)
    obtain ⟨⟨x6, rfl⟩, h8⟩ := h8
    have hf := li_fr_trans hf h8 (fun i h => False.elim h)
    refine li_istore_n [(2, .int x6), (0, .ref (Z.2.2 0)), (1, .int p1)] dX11_run_28 (by decide) rfl ?_
    refine li_aload_n 1 dX11_run_29 rfl ?_
    refine li_getr (k := 1) (N := 13) (T := TX11) (C0 := RX11) dX11_run_30 (by decide) sh_0 rfl rfl (by decide) (by decide) li_in11 w_474 ?_
    refine li_iload_n 0 dX11_run_33 rfl ?_
    refine li_callS (n := 1) (As := [.int x6]) dX11_run_34 (k_J6_bitCount_0f7a4 (d - 1) (by omega) x6 M7) (by omega) (Nat.le_of_ble_eq_true rfl) w_1030 w_822 w_123 w_823 (by decide +kernel) rfl rfl (Nat.le_of_ble_eq_true rfl) (fun r M10 h11 => ?_)
    obtain ⟨⟨x9, rfl⟩, h11⟩ := h11
    have hf := li_fr_trans hf h11 (fun i h => False.elim h)
    refine li_aload_n 1 dX11_run_37 rfl ?_
    refine li_getr (k := 3) (N := 13) (T := TX11) (C0 := RX11) dX11_run_38 (by decide) sh_0 rfl rfl (by decide) (by decide) li_in11 w_476 ?_
    refine li_iload_n 0 dX11_run_41 rfl ?_
    refine li_callV (n := 1) (As := [.int x6]) dX11_run_42 (k_X4_owedByAll (d - 1) (by omega) x6 M10) (by omega) (Nat.le_of_ble_eq_true rfl) w_1264 w_1249 w_1250 w_105 w_1251 (by decide +kernel) rfl (by decide) sh_13 rfl rfl (Nat.le_of_ble_eq_true rfl) (fun r M13 h14 => ?_)
    obtain ⟨⟨x12, rfl⟩, h14⟩ := h14
    have hf := li_fr_trans hf h14 (fun i h => False.elim h)
    refine li_l2i dX11_run_45 ?_
    refine li_top (fun x15 ex15 => ?_)
    refine li_callV (n := 2) (As := [.int x9, .int x15]) dX11_run_46 (k_X5_tellTwo (d - 1) (by omega) x9 x15 M13) (by omega) (Nat.le_of_ble_eq_true rfl) w_951 w_952 w_953 w_103 w_954 (by decide +kernel) rfl (by decide) sh_3 rfl rfl (Nat.le_of_ble_eq_true rfl) (fun r M17 h18 => ?_)
    obtain ⟨rfl, h18⟩ := h18
    have hf := li_fr_trans hf h18 (fun i (h : i = 3 ∨ i = 4) => (show i = 3 ∨ i = 4 by omega))
    refine li_iload_n 0 dX11_run_49 rfl ?_
    exact li_iret dX11_run_50 rfl rfl ⟨⟨_, rfl⟩, hf⟩
  · refine li_iconst (-1) dX11_run_11 (by decide) ?_
    exact li_iret dX11_run_12 rfl rfl ⟨⟨_, rfl⟩, hf⟩
set_option maxRecDepth 100000 in
set_option maxHeartbeats 4000000 in
theorem k_X11_years {l : Launch} {Z : li_Z} (d : Nat) (hd : 7 ≤ d) (p1 : Int32) (p2 : Int32) (M0 : li_M) : li_Met l Z YX11_years d [.ref (Z.2.2 0), .int p1, .int p2] M0 (li_SI (fun i => i = 13 ∨ i = 14 ∨ i = 146 ∨ i = 147 ∨ i = 15 ∨ i = 16 ∨ i = 17 ∨ i = 18 ∨ i = 19 ∨ i = 20 ∨ i = 24 ∨ i = 25 ∨ i = 26 ∨ i = 27 ∨ i = 28 ∨ i = 29 ∨ i = 3 ∨ i = 30 ∨ i = 31 ∨ i = 4) M0) := by
  refine li_enter (by decide +kernel) (Nat.le_of_ble_eq_true rfl) ?_
  show li_T l Z YX11_years d 0 [(0, .ref (Z.2.2 0)), (1, .int p1), (2, .int p2)] [] M0 _
  have hf : li_fr (fun i => i = 13 ∨ i = 14 ∨ i = 146 ∨ i = 147 ∨ i = 15 ∨ i = 16 ∨ i = 17 ∨ i = 18 ∨ i = 19 ∨ i = 20 ∨ i = 24 ∨ i = 25 ∨ i = 26 ∨ i = 27 ∨ i = 28 ∨ i = 29 ∨ i = 3 ∨ i = 30 ∨ i = 31 ∨ i = 4) M0 M0 := li_fr_refl
  refine li_iload_n 2 dX11_years_0 rfl ?_
  refine li_iconst 1 dX11_years_1 (by decide) ?_
  refine li_bipush 60 dX11_years_2 (by decide) ?_
  refine li_callS (n := 3) (As := [.int p2, .int 1, .int 60]) dX11_years_4 (k_X11_within (d - 1) (by omega) p2 1 60 M0) (by omega) (Nat.le_of_ble_eq_true rfl) w_762 w_639 w_101 w_640 (by decide +kernel) rfl rfl (Nat.le_of_ble_eq_true rfl) (fun r M2 h3 => ?_)
  obtain ⟨⟨x1, rfl, bx1, qx1⟩, h3⟩ := h3
  have hf := li_fr_trans hf h3 (fun i h => False.elim h)
  refine li_if_ne 12 dX11_years_7 (by decide) (fun c4 => ?_) (fun c4 => ?_)
  · refine li_aload_n 0 dX11_years_12 rfl ?_
    refine li_getr (k := 4) (N := 13) (T := TX11) (C0 := RX11) dX11_years_13 (by decide) sh_0 rfl rfl (by decide) (by decide) li_in11 w_477 ?_
    refine li_aload_n 0 dX11_years_16 rfl ?_
    refine li_getr (k := 3) (N := 13) (T := TX11) (C0 := RX11) dX11_years_17 (by decide) sh_0 rfl rfl (by decide) (by decide) li_in11 w_476 ?_
    refine li_callV (n := 1) (As := [.ref (Z.2.2 13)]) dX11_years_20 (k_X3_note (d - 1) (by omega)  M2) (by omega) (Nat.le_of_ble_eq_true rfl) w_843 w_844 w_845 w_106 w_846 (by decide +kernel) rfl (by decide) sh_21 rfl rfl (Nat.le_of_ble_eq_true rfl) (fun r M6 h7 => ?_)
    obtain ⟨rfl, h7⟩ := h7
    have hf := li_fr_trans hf h7 (fun i (h : i = 24 ∨ i = 25 ∨ i = 26 ∨ i = 27 ∨ i = 28 ∨ i = 29 ∨ i = 30 ∨ i = 31) => (show i = 13 ∨ i = 14 ∨ i = 146 ∨ i = 147 ∨ i = 15 ∨ i = 16 ∨ i = 17 ∨ i = 18 ∨ i = 19 ∨ i = 20 ∨ i = 24 ∨ i = 25 ∨ i = 26 ∨ i = 27 ∨ i = 28 ∨ i = 29 ∨ i = 3 ∨ i = 30 ∨ i = 31 ∨ i = 4 by omega))
    refine li_iload_n 1 dX11_years_23 rfl ?_
    refine li_istore_n [(3, .int p1), (0, .ref (Z.2.2 0)), (1, .int p1), (2, .int p2)] dX11_years_24 (by decide) rfl ?_
    refine li_iconst 0 dX11_years_25 (by decide) ?_
    refine li_istore [(4, .int 0), (3, .int p1), (0, .ref (Z.2.2 0)), (1, .int p1), (2, .int p2)] dX11_years_26 (by decide) rfl ?_
    refine li_iconst 0 dX11_years_28 (by decide) ?_
    refine li_istore [(5, .int 0), (4, .int 0), (3, .int p1), (0, .ref (Z.2.2 0)), (1, .int p1), (2, .int p2)] dX11_years_29 (by decide) rfl ?_
    refine li_iconst 0 dX11_years_31 (by decide) ?_
    refine li_istore [(6, .int 0), (5, .int 0), (4, .int 0), (3, .int p1), (0, .ref (Z.2.2 0)), (1, .int p1), (2, .int p2)] dX11_years_32 (by decide) rfl ?_
    refine li_iconst 0 dX11_years_34 (by decide) ?_
    refine li_istore [(7, .int 0), (6, .int 0), (5, .int 0), (4, .int 0), (3, .int p1), (0, .ref (Z.2.2 0)), (1, .int p1), (2, .int p2)] dX11_years_35 (by decide) rfl ?_
    have L37 : ∀ (n : Nat) (x8 : Int32) (x9 : Int32) (x10 : Int32) (x11 : Int32) (x12 : Int32) (M13 : li_M), (2147483647 - (x8 : Int32).toInt).toNat < n → li_fr (fun i => i = 13 ∨ i = 14 ∨ i = 146 ∨ i = 147 ∨ i = 15 ∨ i = 16 ∨ i = 17 ∨ i = 18 ∨ i = 19 ∨ i = 20 ∨ i = 24 ∨ i = 25 ∨ i = 26 ∨ i = 27 ∨ i = 28 ∨ i = 29 ∨ i = 3 ∨ i = 30 ∨ i = 31 ∨ i = 4) M0 M13 → li_T l Z YX11_years d 37 [(7, .int x8), (6, .int x9), (5, .int x10), (4, .int x11), (3, .int x12), (0, .ref (Z.2.2 0)), (1, .int p1), (2, .int p2)] [] M13 (li_SI (fun i => i = 13 ∨ i = 14 ∨ i = 146 ∨ i = 147 ∨ i = 15 ∨ i = 16 ∨ i = 17 ∨ i = 18 ∨ i = 19 ∨ i = 20 ∨ i = 24 ∨ i = 25 ∨ i = 26 ∨ i = 27 ∨ i = 28 ∨ i = 29 ∨ i = 3 ∨ i = 30 ∨ i = 31 ∨ i = 4) M0) := by
      intro n
      induction n with
      | zero => intro x8 x9 x10 x11 x12 M13 hn; exact absurd hn (Nat.not_lt_zero _)
      | succ n ih37 =>
        intro x8 x9 x10 x11 x12 M13 hn hf
        refine li_iload 0 dX11_years_37 rfl ?_
        refine li_iload_n 7 dX11_years_39 rfl ?_
        refine li_icmp_ge 128 dX11_years_40 (by decide) (fun c14 => ?_) (fun c14 => ?_)
        · refine li_aload_n 5 dX11_years_128 rfl ?_
          refine li_getr (k := 4) (N := 13) (T := TX11) (C0 := RX11) dX11_years_129 (by decide) sh_0 rfl rfl (by decide) (by decide) li_in11 w_477 ?_
          refine li_aload_n 5 dX11_years_132 rfl ?_
          refine li_getr (k := 3) (N := 13) (T := TX11) (C0 := RX11) dX11_years_133 (by decide) sh_0 rfl rfl (by decide) (by decide) li_in11 w_476 ?_
          refine li_callV (n := 1) (As := [.ref (Z.2.2 13)]) dX11_years_136 (k_X3_recall (d - 1) (by omega)  M13) (by omega) (Nat.le_of_ble_eq_true rfl) w_1270 w_1271 w_1272 w_106 w_1273 (by decide +kernel) rfl (by decide) sh_21 rfl rfl (Nat.le_of_ble_eq_true rfl) (fun r M16 h17 => ?_)
          obtain ⟨rfl, h17⟩ := h17
          have hf := li_fr_trans hf h17 (fun i (h : i = 13 ∨ i = 14 ∨ i = 15 ∨ i = 16 ∨ i = 17 ∨ i = 18 ∨ i = 19 ∨ i = 20) => (show i = 13 ∨ i = 14 ∨ i = 146 ∨ i = 147 ∨ i = 15 ∨ i = 16 ∨ i = 17 ∨ i = 18 ∨ i = 19 ∨ i = 20 ∨ i = 24 ∨ i = 25 ∨ i = 26 ∨ i = 27 ∨ i = 28 ∨ i = 29 ∨ i = 3 ∨ i = 30 ∨ i = 31 ∨ i = 4 by omega))
          refine li_aload_n 5 dX11_years_139 rfl ?_
          refine li_getr (k := 1) (N := 13) (T := TX11) (C0 := RX11) dX11_years_140 (by decide) sh_0 rfl rfl (by decide) (by decide) li_in11 w_474 ?_
          refine li_iload 2 dX11_years_143 rfl ?_
          refine li_iload 1 dX11_years_145 rfl ?_
          refine li_callV (n := 2) (As := [.int x10, .int x9]) dX11_years_147 (k_X5_tellTwo (d - 1) (by omega) x10 x9 M16) (by omega) (Nat.le_of_ble_eq_true rfl) w_951 w_952 w_953 w_103 w_954 (by decide +kernel) rfl (by decide) sh_3 rfl rfl (Nat.le_of_ble_eq_true rfl) (fun r M19 h20 => ?_)
          obtain ⟨rfl, h20⟩ := h20
          have hf := li_fr_trans hf h20 (fun i (h : i = 3 ∨ i = 4) => (show i = 13 ∨ i = 14 ∨ i = 146 ∨ i = 147 ∨ i = 15 ∨ i = 16 ∨ i = 17 ∨ i = 18 ∨ i = 19 ∨ i = 20 ∨ i = 24 ∨ i = 25 ∨ i = 26 ∨ i = 27 ∨ i = 28 ∨ i = 29 ∨ i = 3 ∨ i = 30 ∨ i = 31 ∨ i = 4 by omega))
          refine li_iload 3 dX11_years_150 rfl ?_
          exact li_iret dX11_years_152 rfl rfl ⟨⟨_, rfl⟩, hf⟩
        · refine li_iload_n 4 dX11_years_43 rfl ?_
          refine li_ldcw 1103515245 dX11_years_44 w_1269 ?_
          refine li_imul dX11_years_47 ?_
          refine li_top (fun x21 ex21 => ?_)
          refine li_sipush 12345 dX11_years_48 (by decide) ?_
          refine li_iadd dX11_years_51 ?_
          refine li_top (fun x22 ex22 => ?_)
          refine li_istore_n [(3, .int x22), (7, .int x8), (6, .int x9), (5, .int x10), (4, .int x11), (0, .ref (Z.2.2 0)), (1, .int p1), (2, .int p2)] dX11_years_52 (by decide) rfl ?_
          refine li_iload_n 0 dX11_years_53 rfl ?_
          refine li_bipush 16 dX11_years_54 (by decide) ?_
          refine li_iushr dX11_years_56 ?_
          refine li_top (fun x23 ex23 => ?_)
          refine li_bipush 10 dX11_years_57 (by decide) ?_
          refine li_irem dX11_years_59 (by decide) ?_
          refine li_top (fun x24 ex24 => ?_)
          refine li_istore [(8, .int x24), (3, .int x22), (7, .int x8), (6, .int x9), (5, .int x10), (4, .int x11), (0, .ref (Z.2.2 0)), (1, .int p1), (2, .int p2)] dX11_years_60 (by decide) rfl ?_
          refine li_aload_n 6 dX11_years_62 rfl ?_
          refine li_iload 0 dX11_years_63 rfl ?_
          refine li_aload_n 6 dX11_years_65 rfl ?_
          refine li_getr (k := 7) (N := 13) (T := TX11) (C0 := RX11) dX11_years_66 (by decide) sh_0 rfl rfl (by decide) (by decide) li_in11 w_480 ?_
          refine li_iload 0 dX11_years_69 rfl ?_
          refine li_callV (n := 1) (As := [.int x24]) dX11_years_71 (k_X0_leastWay (d - 1) (by omega) cob_148 x24 M13) (by omega) (Nat.le_of_ble_eq_true rfl) w_964 w_965 w_966 w_109 w_967 (by decide +kernel) rfl (by decide) sh_148 rfl rfl (Nat.le_of_ble_eq_true rfl) (fun r M26 h27 => ?_)
          obtain ⟨⟨x25, rfl⟩, h27⟩ := h27
          have hf := li_fr_trans hf h27 (fun i (h : i = 146 ∨ i = 147) => (show i = 13 ∨ i = 14 ∨ i = 146 ∨ i = 147 ∨ i = 15 ∨ i = 16 ∨ i = 17 ∨ i = 18 ∨ i = 19 ∨ i = 20 ∨ i = 24 ∨ i = 25 ∨ i = 26 ∨ i = 27 ∨ i = 28 ∨ i = 29 ∨ i = 3 ∨ i = 30 ∨ i = 31 ∨ i = 4 by omega))
          refine li_callV (n := 2) (As := [.int x24, .int x25]) dX11_years_74 (k_X11_utter (d - 1) (by omega) x24 x25 M26) (by omega) (Nat.le_of_ble_eq_true rfl) w_852 w_854 w_15 w_101 w_855 (by decide +kernel) rfl (by decide) sh_0 rfl rfl (Nat.le_of_ble_eq_true rfl) (fun r M29 h30 => ?_)
          obtain ⟨⟨x28, rfl⟩, h30⟩ := h30
          have hf := li_fr_trans hf h30 (fun i (h : i = 13 ∨ i = 14 ∨ i = 146 ∨ i = 147 ∨ i = 15) => (show i = 13 ∨ i = 14 ∨ i = 146 ∨ i = 147 ∨ i = 15 ∨ i = 16 ∨ i = 17 ∨ i = 18 ∨ i = 19 ∨ i = 20 ∨ i = 24 ∨ i = 25 ∨ i = 26 ∨ i = 27 ∨ i = 28 ∨ i = 29 ∨ i = 3 ∨ i = 30 ∨ i = 31 ∨ i = 4 by omega))
          refine li_istore [(9, .int x28), (8, .int x24), (3, .int x22), (7, .int x8), (6, .int x9), (5, .int x10), (4, .int x11), (0, .ref (Z.2.2 0)), (1, .int p1), (2, .int p2)] dX11_years_77 (by decide) rfl ?_
          refine li_iload 0 dX11_years_79 rfl ?_
          have J111 : ∀ (x32 : Int32) (x33 : Int32) (x34 : Int32) (M35 : li_M), li_fr (fun i => i = 13 ∨ i = 14 ∨ i = 146 ∨ i = 147 ∨ i = 15 ∨ i = 16 ∨ i = 17 ∨ i = 18 ∨ i = 19 ∨ i = 20 ∨ i = 24 ∨ i = 25 ∨ i = 26 ∨ i = 27 ∨ i = 28 ∨ i = 29 ∨ i = 3 ∨ i = 30 ∨ i = 31 ∨ i = 4) M0 M35 → li_T l Z YX11_years d 111 [(9, .int x28), (8, .int x24), (3, .int x22), (7, .int x8), (6, .int x32), (5, .int x33), (4, .int x34), (0, .ref (Z.2.2 0)), (1, .int p1), (2, .int p2)] [] M35 (li_SI (fun i => i = 13 ∨ i = 14 ∨ i = 146 ∨ i = 147 ∨ i = 15 ∨ i = 16 ∨ i = 17 ∨ i = 18 ∨ i = 19 ∨ i = 20 ∨ i = 24 ∨ i = 25 ∨ i = 26 ∨ i = 27 ∨ i = 28 ∨ i = 29 ∨ i = 3 ∨ i = 30 ∨ i = 31 ∨ i = 4) M0) := by
            intro x32 x33 x34 M35 hf
            refine li_aload_n 7 dX11_years_111 rfl ?_
            refine li_getr (k := 3) (N := 13) (T := TX11) (C0 := RX11) dX11_years_112 (by decide) sh_0 rfl rfl (by decide) (by decide) li_in11 w_476 ?_
            refine li_aload_n 7 dX11_years_115 rfl ?_
            refine li_getr (k := 2) (N := 13) (T := TX11) (C0 := RX11) dX11_years_116 (by decide) sh_0 rfl rfl (by decide) (by decide) li_in11 w_475 ?_
            refine li_callV (n := 1) (As := [.ref (Z.2.2 5)]) dX11_years_119 (k_X4_passDay (d - 1) (by omega)  M35) (by omega) (Nat.le_of_ble_eq_true rfl) w_925 w_926 w_927 w_105 w_928 (by decide +kernel) rfl (by decide) sh_13 rfl rfl (Nat.le_of_ble_eq_true rfl) (fun r M37 h38 => ?_)
            obtain ⟨rfl, h38⟩ := h38
            have hf := li_fr_trans hf h38 (fun i (h : i = 13 ∨ i = 14 ∨ i = 15 ∨ i = 16 ∨ i = 20) => (show i = 13 ∨ i = 14 ∨ i = 146 ∨ i = 147 ∨ i = 15 ∨ i = 16 ∨ i = 17 ∨ i = 18 ∨ i = 19 ∨ i = 20 ∨ i = 24 ∨ i = 25 ∨ i = 26 ∨ i = 27 ∨ i = 28 ∨ i = 29 ∨ i = 3 ∨ i = 30 ∨ i = 31 ∨ i = 4 by omega))
            obtain ⟨x39, ex39⟩ : ∃ y : Int32, y = x8 + 1 := ⟨_, rfl⟩
            refine li_iinc 3 [(7, .int x39), (9, .int x28), (8, .int x24), (3, .int x22), (6, .int x32), (5, .int x33), (4, .int x34), (0, .ref (Z.2.2 0)), (1, .int p1), (2, .int p2)] x39 dX11_years_122 rfl (by rw [ex39]; rfl) (by decide) rfl ?_
            refine li_goto 37 dX11_years_125 (by decide) ?_
            refine li_pick [0, 4, 5, 6, 3, 7, 8, 9] [(7, .int x39), (6, .int x32), (5, .int x33), (4, .int x34), (3, .int x22), (0, .ref (Z.2.2 0)), (1, .int p1), (2, .int p2)] rfl ?_
            exact ih37 x39 x32 x33 x34 x22 M37 (by have h9 := li_up (li_gt c14); rw [← ex39] at h9; omega) hf
          refine li_if_lt 111 dX11_years_81 (by decide) (fun c31 => ?_) (fun c31 => ?_)
          · refine li_pick [0, 1, 2, 3, 4, 5, 6, 7, 8, 9] [(9, .int x28), (8, .int x24), (3, .int x22), (7, .int x8), (6, .int x9), (5, .int x10), (4, .int x11), (0, .ref (Z.2.2 0)), (1, .int p1), (2, .int p2)] rfl ?_
            exact J111 x9 x10 x11 M29 hf
          · obtain ⟨x40, ex40⟩ : ∃ y : Int32, y = x11 + 1 := ⟨_, rfl⟩
            refine li_iinc 6 [(4, .int x40), (9, .int x28), (8, .int x24), (3, .int x22), (7, .int x8), (6, .int x9), (5, .int x10), (0, .ref (Z.2.2 0)), (1, .int p1), (2, .int p2)] x40 dX11_years_84 rfl (by rw [ex40]; rfl) (by decide) rfl ?_
            refine li_iload 6 dX11_years_87 rfl ?_
            refine li_iload 1 dX11_years_89 rfl ?_
            refine li_iadd dX11_years_91 ?_
            refine li_top (fun x41 ex41 => ?_)
            refine li_istore [(5, .int x41), (4, .int x40), (9, .int x28), (8, .int x24), (3, .int x22), (7, .int x8), (6, .int x9), (0, .ref (Z.2.2 0)), (1, .int p1), (2, .int p2)] dX11_years_92 (by decide) rfl ?_
            refine li_iload 6 dX11_years_94 rfl ?_
            refine li_aload_n 7 dX11_years_96 rfl ?_
            refine li_getr (k := 2) (N := 13) (T := TX11) (C0 := RX11) dX11_years_97 (by decide) sh_0 rfl rfl (by decide) (by decide) li_in11 w_475 ?_
            refine li_getr (k := 8) (N := 9) (T := TX8) (C0 := RX8) dX11_years_100 (by decide) sh_5 rfl rfl (by decide) (by decide) li_in8 w_202 ?_
            refine li_iload 3 dX11_years_103 rfl ?_
            refine li_callS (n := 2) (As := [.ref (Z.2.2 12), .int x24]) dX11_years_105 (k_X11_at (d - 1) (by omega) (by decide) sh_12 (by decide) x24 M29) (by omega) (Nat.le_of_ble_eq_true rfl) w_763 w_569 w_101 w_570 (by decide +kernel) rfl rfl (Nat.le_of_ble_eq_true rfl) (fun r M43 h44 => ?_)
            obtain ⟨⟨x42, rfl⟩, h44⟩ := h44
            have hf := li_fr_trans hf h44 (fun i h => False.elim h)
            refine li_iadd dX11_years_108 ?_
            refine li_top (fun x45 ex45 => ?_)
            refine li_istore [(6, .int x45), (5, .int x41), (4, .int x40), (9, .int x28), (8, .int x24), (3, .int x22), (7, .int x8), (0, .ref (Z.2.2 0)), (1, .int p1), (2, .int p2)] dX11_years_109 (by decide) rfl ?_
            refine li_pick [3, 4, 5, 6, 0, 1, 2, 7, 8, 9] [(9, .int x28), (8, .int x24), (3, .int x22), (7, .int x8), (6, .int x45), (5, .int x41), (4, .int x40), (0, .ref (Z.2.2 0)), (1, .int p1), (2, .int p2)] rfl ?_
            exact J111 x45 x41 x40 M43 hf
    exact L37 _ 0 0 0 0 p1 M6 (Nat.lt_succ_self _) hf
  · refine li_iconst (-1) dX11_years_10 (by decide) ?_
    exact li_iret dX11_years_11 rfl rfl ⟨⟨_, rfl⟩, hf⟩
set_option maxRecDepth 100000 in
set_option maxHeartbeats 4000000 in
theorem k_X11_keep {l : Launch} {Z : li_Z} (d : Nat) (hd : 3 ≤ d) (p1 : Int32) (M0 : li_M) : li_Met l Z YX11_keep d [.ref (Z.2.2 0), .int p1] M0 (li_SZ (fun i => i = 21 ∨ (128 ≤ i ∧ i < 144)) M0) := by
  refine li_enter (by decide +kernel) (Nat.le_of_ble_eq_true rfl) ?_
  show li_T l Z YX11_keep d 0 [(0, .ref (Z.2.2 0)), (1, .int p1)] [] M0 _
  have hf : li_fr (fun i => i = 21 ∨ (128 ≤ i ∧ i < 144)) M0 M0 := li_fr_refl
  refine li_aload_n 0 dX11_keep_0 rfl ?_
  refine li_getr (k := 4) (N := 13) (T := TX11) (C0 := RX11) dX11_keep_1 (by decide) sh_0 rfl rfl (by decide) (by decide) li_in11 w_477 ?_
  refine li_iload_n 1 dX11_keep_4 rfl ?_
  refine li_aload_n 0 dX11_keep_5 rfl ?_
  refine li_getr (k := 3) (N := 13) (T := TX11) (C0 := RX11) dX11_keep_6 (by decide) sh_0 rfl rfl (by decide) (by decide) li_in11 w_476 ?_
  refine li_callV (n := 2) (As := [.int p1, .ref (Z.2.2 13)]) dX11_keep_9 (k_X3_keepUnder (d - 1) (by omega) p1 M0) (by omega) (Nat.le_of_ble_eq_true rfl) w_1278 w_1279 w_1280 w_106 w_1281 (by decide +kernel) rfl (by decide) sh_21 rfl rfl (Nat.le_of_ble_eq_true rfl) (fun r M2 h3 => ?_)
  obtain ⟨⟨x1, rfl, bx1⟩, h3⟩ := h3
  have hf := li_fr_trans hf h3 (fun i (h : i = 21 ∨ (128 ≤ i ∧ i < 144)) => (show i = 21 ∨ (128 ≤ i ∧ i < 144) by omega))
  exact li_iret dX11_keep_12 rfl (li_nz (bx1)) ⟨⟨_, rfl, bx1⟩, hf⟩
set_option maxRecDepth 100000 in
set_option maxHeartbeats 4000000 in
theorem k_X11_again {l : Launch} {Z : li_Z} (d : Nat) (hd : 3 ≤ d) (p1 : Int32) (M0 : li_M) : li_Met l Z YX11_again d [.ref (Z.2.2 0), .int p1] M0 (li_SZ (fun i => i = 13 ∨ i = 14 ∨ i = 15 ∨ i = 16 ∨ i = 17 ∨ i = 18 ∨ i = 19 ∨ i = 20 ∨ i = 21) M0) := by
  refine li_enter (by decide +kernel) (Nat.le_of_ble_eq_true rfl) ?_
  show li_T l Z YX11_again d 0 [(0, .ref (Z.2.2 0)), (1, .int p1)] [] M0 _
  have hf : li_fr (fun i => i = 13 ∨ i = 14 ∨ i = 15 ∨ i = 16 ∨ i = 17 ∨ i = 18 ∨ i = 19 ∨ i = 20 ∨ i = 21) M0 M0 := li_fr_refl
  refine li_aload_n 0 dX11_again_0 rfl ?_
  refine li_getr (k := 4) (N := 13) (T := TX11) (C0 := RX11) dX11_again_1 (by decide) sh_0 rfl rfl (by decide) (by decide) li_in11 w_477 ?_
  refine li_iload_n 1 dX11_again_4 rfl ?_
  refine li_aload_n 0 dX11_again_5 rfl ?_
  refine li_getr (k := 3) (N := 13) (T := TX11) (C0 := RX11) dX11_again_6 (by decide) sh_0 rfl rfl (by decide) (by decide) li_in11 w_476 ?_
  refine li_callV (n := 2) (As := [.int p1, .ref (Z.2.2 13)]) dX11_again_9 (k_X3_bringBack (d - 1) (by omega) p1 M0) (by omega) (Nat.le_of_ble_eq_true rfl) w_1286 w_1287 w_1288 w_106 w_1289 (by decide +kernel) rfl (by decide) sh_21 rfl rfl (Nat.le_of_ble_eq_true rfl) (fun r M2 h3 => ?_)
  obtain ⟨⟨x1, rfl, bx1⟩, h3⟩ := h3
  have hf := li_fr_trans hf h3 (fun i (h : i = 13 ∨ i = 14 ∨ i = 15 ∨ i = 16 ∨ i = 17 ∨ i = 18 ∨ i = 19 ∨ i = 20 ∨ i = 21) => (show i = 13 ∨ i = 14 ∨ i = 15 ∨ i = 16 ∨ i = 17 ∨ i = 18 ∨ i = 19 ∨ i = 20 ∨ i = 21 by omega))
  exact li_iret dX11_again_12 rfl (li_nz (bx1)) ⟨⟨_, rfl, bx1⟩, hf⟩
set_option maxRecDepth 100000 in
set_option maxHeartbeats 4000000 in
theorem k_X11_count {l : Launch} {Z : li_Z} (d : Nat) (hd : 4 ≤ d) (p1 : Int32) (M0 : li_M) : li_Met l Z YX11_count d [.ref (Z.2.2 0), .int p1] M0 (li_SI (fun i => False) M0) := by
  refine li_enter (by decide +kernel) (Nat.le_of_ble_eq_true rfl) ?_
  show li_T l Z YX11_count d 0 [(0, .ref (Z.2.2 0)), (1, .int p1)] [] M0 _
  have hf : li_fr (fun i => False) M0 M0 := li_fr_refl
  refine li_iload_n 1 dX11_count_0 rfl ?_
  refine li_table dX11_count_1 167 (by decide) (fun c1 => ?_) (fun c1a c1b => ?_)
  · refine li_iconst (-1) dX11_count_167 (by decide) ?_
    exact li_iret dX11_count_168 rfl rfl ⟨⟨_, rfl⟩, hf⟩
  · rcases (show (p1 : Int32).toInt = 0 ∨ (p1 : Int32).toInt = 1 ∨ (p1 : Int32).toInt = 2 ∨ (p1 : Int32).toInt = 3 ∨ (p1 : Int32).toInt = 4 ∨ (p1 : Int32).toInt = 5 ∨ (p1 : Int32).toInt = 6 ∨ (p1 : Int32).toInt = 7 ∨ (p1 : Int32).toInt = 8 ∨ (p1 : Int32).toInt = 9 ∨ (p1 : Int32).toInt = 10 ∨ (p1 : Int32).toInt = 11 by omega) with c1 | c1 | c1 | c1 | c1 | c1 | c1 | c1 | c1 | c1 | c1 | c1
    · refine ⟨63, 64, by rw [c1]; rfl, by decide, ?_⟩
      refine li_aload_n 0 dX11_count_64 rfl ?_
      refine li_getr (k := 2) (N := 13) (T := TX11) (C0 := RX11) dX11_count_65 (by decide) sh_0 rfl rfl (by decide) (by decide) li_in11 w_475 ?_
      refine li_geti (k := 0) (N := 9) (T := TX8) (C0 := RX8) dX11_count_68 (by decide) sh_5 rfl rfl (by decide) li_in8 w_178 ?_
      refine li_top (fun x2 ex2 => ?_)
      exact li_iret dX11_count_71 rfl rfl ⟨⟨_, rfl⟩, hf⟩
    · refine ⟨71, 72, by rw [c1]; rfl, by decide, ?_⟩
      refine li_aload_n 0 dX11_count_72 rfl ?_
      refine li_getr (k := 2) (N := 13) (T := TX11) (C0 := RX11) dX11_count_73 (by decide) sh_0 rfl rfl (by decide) (by decide) li_in11 w_475 ?_
      refine li_geti (k := 1) (N := 9) (T := TX8) (C0 := RX8) dX11_count_76 (by decide) sh_5 rfl rfl (by decide) li_in8 w_180 ?_
      refine li_top (fun x3 ex3 => ?_)
      exact li_iret dX11_count_79 rfl rfl ⟨⟨_, rfl⟩, hf⟩
    · refine ⟨79, 80, by rw [c1]; rfl, by decide, ?_⟩
      refine li_aload_n 0 dX11_count_80 rfl ?_
      refine li_getr (k := 3) (N := 13) (T := TX11) (C0 := RX11) dX11_count_81 (by decide) sh_0 rfl rfl (by decide) (by decide) li_in11 w_476 ?_
      refine li_geti (k := 0) (N := 11) (T := TX4) (C0 := RX4) dX11_count_84 (by decide) sh_13 rfl rfl (by decide) li_in4 w_231 ?_
      refine li_top (fun x4 ex4 => ?_)
      exact li_iret dX11_count_87 rfl rfl ⟨⟨_, rfl⟩, hf⟩
    · refine ⟨87, 88, by rw [c1]; rfl, by decide, ?_⟩
      refine li_aload_n 0 dX11_count_88 rfl ?_
      refine li_getr (k := 3) (N := 13) (T := TX11) (C0 := RX11) dX11_count_89 (by decide) sh_0 rfl rfl (by decide) (by decide) li_in11 w_476 ?_
      refine li_geti (k := 2) (N := 11) (T := TX4) (C0 := RX4) dX11_count_92 (by decide) sh_13 rfl rfl (by decide) li_in4 w_236 ?_
      refine li_top (fun x5 ex5 => ?_)
      exact li_iret dX11_count_95 rfl rfl ⟨⟨_, rfl⟩, hf⟩
    · refine ⟨95, 96, by rw [c1]; rfl, by decide, ?_⟩
      refine li_aload_n 0 dX11_count_96 rfl ?_
      refine li_getr (k := 3) (N := 13) (T := TX11) (C0 := RX11) dX11_count_97 (by decide) sh_0 rfl rfl (by decide) (by decide) li_in11 w_476 ?_
      refine li_geti (k := 1) (N := 11) (T := TX4) (C0 := RX4) dX11_count_100 (by decide) sh_13 rfl rfl (by decide) li_in4 w_233 ?_
      refine li_top (fun x6 ex6 => ?_)
      exact li_iret dX11_count_103 rfl rfl ⟨⟨_, rfl⟩, hf⟩
    · refine ⟨103, 104, by rw [c1]; rfl, by decide, ?_⟩
      refine li_aload_n 0 dX11_count_104 rfl ?_
      refine li_getr (k := 7) (N := 13) (T := TX11) (C0 := RX11) dX11_count_105 (by decide) sh_0 rfl rfl (by decide) (by decide) li_in11 w_480 ?_
      refine li_callV (n := 0) (As := []) dX11_count_108 (k_X0_openThings (d - 1) (by omega) cob_148 M0) (by omega) (Nat.le_of_ble_eq_true rfl) w_1035 w_1004 w_1005 w_109 w_1006 (by decide +kernel) rfl (by decide) sh_148 rfl rfl (Nat.le_of_ble_eq_true rfl) (fun r M8 h9 => ?_)
      obtain ⟨⟨x7, rfl⟩, h9⟩ := h9
      have hf := li_fr_trans hf h9 (fun i h => False.elim h)
      exact li_iret dX11_count_111 rfl rfl ⟨⟨_, rfl⟩, hf⟩
    · refine ⟨111, 112, by rw [c1]; rfl, by decide, ?_⟩
      refine li_aload_n 0 dX11_count_112 rfl ?_
      refine li_getr (k := 3) (N := 13) (T := TX11) (C0 := RX11) dX11_count_113 (by decide) sh_0 rfl rfl (by decide) (by decide) li_in11 w_476 ?_
      refine li_aload_n 0 dX11_count_116 rfl ?_
      refine li_getr (k := 2) (N := 13) (T := TX11) (C0 := RX11) dX11_count_117 (by decide) sh_0 rfl rfl (by decide) (by decide) li_in11 w_475 ?_
      refine li_geti (k := 0) (N := 9) (T := TX8) (C0 := RX8) dX11_count_120 (by decide) sh_5 rfl rfl (by decide) li_in8 w_178 ?_
      refine li_top (fun x10 ex10 => ?_)
      refine li_callV (n := 1) (As := [.int x10]) dX11_count_123 (k_X4_allClocks (d - 1) (by omega) x10 M0) (by omega) (Nat.le_of_ble_eq_true rfl) w_776 w_777 w_778 w_105 w_779 (by decide +kernel) rfl (by decide) sh_13 rfl rfl (Nat.le_of_ble_eq_true rfl) (fun r M12 h13 => ?_)
      obtain ⟨⟨x11, rfl⟩, h13⟩ := h13
      have hf := li_fr_trans hf h13 (fun i h => False.elim h)
      exact li_iret dX11_count_126 rfl rfl ⟨⟨_, rfl⟩, hf⟩
    · refine ⟨126, 127, by rw [c1]; rfl, by decide, ?_⟩
      refine li_aload_n 0 dX11_count_127 rfl ?_
      refine li_getr (k := 10) (N := 13) (T := TX11) (C0 := RX11) dX11_count_128 (by decide) sh_0 rfl rfl (by decide) (by decide) li_in11 w_483 ?_
      refine li_geti (k := 7) (N := 8) (T := TX10) (C0 := RX10) dX11_count_131 (by decide) sh_163 rfl rfl (by decide) li_in10 w_344 ?_
      refine li_top (fun x14 ex14 => ?_)
      exact li_iret dX11_count_134 rfl rfl ⟨⟨_, rfl⟩, hf⟩
    · refine ⟨134, 135, by rw [c1]; rfl, by decide, ?_⟩
      refine li_aload_n 0 dX11_count_135 rfl ?_
      refine li_getr (k := 11) (N := 13) (T := TX11) (C0 := RX11) dX11_count_136 (by decide) sh_0 rfl rfl (by decide) (by decide) li_in11 w_484 ?_
      refine li_geti (k := 5) (N := 9) (T := TX2) (C0 := RX2) dX11_count_139 (by decide) sh_171 rfl rfl (by decide) li_in2 w_447 ?_
      refine li_top (fun x15 ex15 => ?_)
      exact li_iret dX11_count_142 rfl rfl ⟨⟨_, rfl⟩, hf⟩
    · refine ⟨142, 143, by rw [c1]; rfl, by decide, ?_⟩
      refine li_aload_n 0 dX11_count_143 rfl ?_
      refine li_getr (k := 4) (N := 13) (T := TX11) (C0 := RX11) dX11_count_144 (by decide) sh_0 rfl rfl (by decide) (by decide) li_in11 w_477 ?_
      refine li_geti (k := 4) (N := 6) (T := TX3) (C0 := RX3) dX11_count_147 (by decide) sh_21 rfl rfl (by decide) li_in3 w_294 ?_
      refine li_top (fun x16 ex16 => ?_)
      exact li_iret dX11_count_150 rfl rfl ⟨⟨_, rfl⟩, hf⟩
    · refine ⟨150, 151, by rw [c1]; rfl, by decide, ?_⟩
      refine li_aload_n 0 dX11_count_151 rfl ?_
      refine li_getr (k := 1) (N := 13) (T := TX11) (C0 := RX11) dX11_count_152 (by decide) sh_0 rfl rfl (by decide) (by decide) li_in11 w_474 ?_
      refine li_geti (k := 1) (N := 2) (T := TX5) (C0 := RX5) dX11_count_155 (by decide) sh_3 rfl rfl (by decide) li_in5 w_162 ?_
      refine li_top (fun x17 ex17 => ?_)
      exact li_iret dX11_count_158 rfl rfl ⟨⟨_, rfl⟩, hf⟩
    · refine ⟨158, 159, by rw [c1]; rfl, by decide, ?_⟩
      refine li_aload_n 0 dX11_count_159 rfl ?_
      refine li_getr (k := 0) (N := 13) (T := TX11) (C0 := RX11) dX11_count_160 (by decide) sh_0 rfl rfl (by decide) (by decide) li_in11 w_473 ?_
      refine li_geti (k := 1) (N := 3) (T := TX7) (C0 := RX7) dX11_count_163 (by decide) sh_1 rfl rfl (by decide) li_in7 w_140 ?_
      refine li_top (fun x18 ex18 => ?_)
      exact li_iret dX11_count_166 rfl rfl ⟨⟨_, rfl⟩, hf⟩
set_option maxRecDepth 100000 in
set_option maxHeartbeats 4000000 in
theorem k_X11_debate {l : Launch} {Z : li_Z} (d : Nat) (hd : 3 ≤ d) (p1 : Int32) (p2 : Int32) (p3 : Int32) (M0 : li_M) : li_Met l Z YX11_debate d [.ref (Z.2.2 0), .int p1, .int p2, .int p3] M0 (li_SI (fun i => i = 3 ∨ i = 4) M0) := by
  refine li_enter (by decide +kernel) (Nat.le_of_ble_eq_true rfl) ?_
  show li_T l Z YX11_debate d 0 [(0, .ref (Z.2.2 0)), (1, .int p1), (2, .int p2), (3, .int p3)] [] M0 _
  have hf : li_fr (fun i => i = 3 ∨ i = 4) M0 M0 := li_fr_refl
  refine li_iload_n 1 dX11_debate_0 rfl ?_
  refine li_iconst 0 dX11_debate_1 (by decide) ?_
  refine li_bipush 60 dX11_debate_2 (by decide) ?_
  refine li_callS (n := 3) (As := [.int p1, .int 0, .int 60]) dX11_debate_4 (k_X11_within (d - 1) (by omega) p1 0 60 M0) (by omega) (Nat.le_of_ble_eq_true rfl) w_762 w_639 w_101 w_640 (by decide +kernel) rfl rfl (Nat.le_of_ble_eq_true rfl) (fun r M2 h3 => ?_)
  obtain ⟨⟨x1, rfl, bx1, qx1⟩, h3⟩ := h3
  have hf := li_fr_trans hf h3 (fun i h => False.elim h)
  refine li_if_eq 30 dX11_debate_7 (by decide) (fun c4 => ?_) (fun c4 => ?_)
  · refine li_iconst (-1) dX11_debate_30 (by decide) ?_
    exact li_iret dX11_debate_31 rfl rfl ⟨⟨_, rfl⟩, hf⟩
  · refine li_iload_n 2 dX11_debate_10 rfl ?_
    refine li_iconst 0 dX11_debate_11 (by decide) ?_
    refine li_bipush 60 dX11_debate_12 (by decide) ?_
    refine li_callS (n := 3) (As := [.int p2, .int 0, .int 60]) dX11_debate_14 (k_X11_within (d - 1) (by omega) p2 0 60 M2) (by omega) (Nat.le_of_ble_eq_true rfl) w_762 w_639 w_101 w_640 (by decide +kernel) rfl rfl (Nat.le_of_ble_eq_true rfl) (fun r M6 h7 => ?_)
    obtain ⟨⟨x5, rfl, bx5, qx5⟩, h7⟩ := h7
    have hf := li_fr_trans hf h7 (fun i h => False.elim h)
    refine li_if_eq 30 dX11_debate_17 (by decide) (fun c8 => ?_) (fun c8 => ?_)
    · refine li_iconst (-1) dX11_debate_30 (by decide) ?_
      exact li_iret dX11_debate_31 rfl rfl ⟨⟨_, rfl⟩, hf⟩
    · refine li_iload_n 3 dX11_debate_20 rfl ?_
      refine li_iconst 1 dX11_debate_21 (by decide) ?_
      refine li_bipush 9 dX11_debate_22 (by decide) ?_
      refine li_callS (n := 3) (As := [.int p3, .int 1, .int 9]) dX11_debate_24 (k_X11_within (d - 1) (by omega) p3 1 9 M6) (by omega) (Nat.le_of_ble_eq_true rfl) w_762 w_639 w_101 w_640 (by decide +kernel) rfl rfl (Nat.le_of_ble_eq_true rfl) (fun r M10 h11 => ?_)
      obtain ⟨⟨x9, rfl, bx9, qx9⟩, h11⟩ := h11
      have hf := li_fr_trans hf h11 (fun i h => False.elim h)
      refine li_if_ne 32 dX11_debate_27 (by decide) (fun c12 => ?_) (fun c12 => ?_)
      · refine li_iload_n 1 dX11_debate_32 rfl ?_
        refine li_iload_n 2 dX11_debate_33 rfl ?_
        have J42 : ∀ (x14 : Int32) (M15 : li_M), li_fr (fun i => i = 3 ∨ i = 4) M0 M15 → li_T l Z YX11_debate d 42 [(0, .ref (Z.2.2 0)), (1, .int p1), (2, .int p2), (3, .int p3)] [.int x14] M15 (li_SI (fun i => i = 3 ∨ i = 4) M0) := by
          intro x14 M15 hf
          refine li_istore [(4, .int x14), (0, .ref (Z.2.2 0)), (1, .int p1), (2, .int p2), (3, .int p3)] dX11_debate_42 (by decide) rfl ?_
          refine li_aload_n 1 dX11_debate_44 rfl ?_
          refine li_getr (k := 1) (N := 13) (T := TX11) (C0 := RX11) dX11_debate_45 (by decide) sh_0 rfl rfl (by decide) (by decide) li_in11 w_474 ?_
          refine li_iload 0 dX11_debate_48 rfl ?_
          refine li_callV (n := 1) (As := [.int x14]) dX11_debate_50 (k_X5_tell (d - 1) (by omega) x14 M15) (by omega) (Nat.le_of_ble_eq_true rfl) w_1045 w_1046 w_1047 w_103 w_1048 (by decide +kernel) rfl (by decide) sh_3 rfl rfl (Nat.le_of_ble_eq_true rfl) (fun r M17 h18 => ?_)
          obtain ⟨rfl, h18⟩ := h18
          have hf := li_fr_trans hf h18 (fun i (h : i = 3 ∨ i = 4) => (show i = 3 ∨ i = 4 by omega))
          refine li_iload 0 dX11_debate_53 rfl ?_
          exact li_iret dX11_debate_55 rfl rfl ⟨⟨_, rfl⟩, hf⟩
        refine li_icmp_le 41 dX11_debate_34 (by decide) (fun c13 => ?_) (fun c13 => ?_)
        · refine li_iconst 0 dX11_debate_41 (by decide) ?_
          refine li_pick [0, 1, 2, 3] [(0, .ref (Z.2.2 0)), (1, .int p1), (2, .int p2), (3, .int p3)] rfl ?_
          exact J42 0 M10 hf
        · refine li_iconst 1 dX11_debate_37 (by decide) ?_
          refine li_goto 42 dX11_debate_38 (by decide) ?_
          refine li_pick [0, 1, 2, 3] [(0, .ref (Z.2.2 0)), (1, .int p1), (2, .int p2), (3, .int p3)] rfl ?_
          exact J42 1 M10 hf
      · refine li_iconst (-1) dX11_debate_30 (by decide) ?_
        exact li_iret dX11_debate_31 rfl rfl ⟨⟨_, rfl⟩, hf⟩
set_option maxRecDepth 100000 in
set_option maxHeartbeats 4000000 in
theorem k_X11_enough {l : Launch} {Z : li_Z} (d : Nat) (hd : 2 ≤ d) (p1 : Int32) (p2 : Int32) (M0 : li_M) : li_Met l Z YX11_enough d [.ref (Z.2.2 0), .int p1, .int p2] M0 (li_SI (fun i => False) M0) := by
  refine li_enter (by decide +kernel) (Nat.le_of_ble_eq_true rfl) ?_
  show li_T l Z YX11_enough d 0 [(0, .ref (Z.2.2 0)), (1, .int p1), (2, .int p2)] [] M0 _
  have hf : li_fr (fun i => False) M0 M0 := li_fr_refl
  refine li_iload_n 1 dX11_enough_0 rfl ?_
  refine li_iconst 0 dX11_enough_1 (by decide) ?_
  refine li_bipush 60 dX11_enough_2 (by decide) ?_
  refine li_callS (n := 3) (As := [.int p1, .int 0, .int 60]) dX11_enough_4 (k_X11_within (d - 1) (by omega) p1 0 60 M0) (by omega) (Nat.le_of_ble_eq_true rfl) w_762 w_639 w_101 w_640 (by decide +kernel) rfl rfl (Nat.le_of_ble_eq_true rfl) (fun r M2 h3 => ?_)
  obtain ⟨⟨x1, rfl, bx1, qx1⟩, h3⟩ := h3
  have hf := li_fr_trans hf h3 (fun i h => False.elim h)
  refine li_if_eq 20 dX11_enough_7 (by decide) (fun c4 => ?_) (fun c4 => ?_)
  · refine li_iconst (-1) dX11_enough_20 (by decide) ?_
    exact li_iret dX11_enough_21 rfl rfl ⟨⟨_, rfl⟩, hf⟩
  · refine li_iload_n 2 dX11_enough_10 rfl ?_
    refine li_iconst 1 dX11_enough_11 (by decide) ?_
    refine li_bipush 9 dX11_enough_12 (by decide) ?_
    refine li_callS (n := 3) (As := [.int p2, .int 1, .int 9]) dX11_enough_14 (k_X11_within (d - 1) (by omega) p2 1 9 M2) (by omega) (Nat.le_of_ble_eq_true rfl) w_762 w_639 w_101 w_640 (by decide +kernel) rfl rfl (Nat.le_of_ble_eq_true rfl) (fun r M6 h7 => ?_)
    obtain ⟨⟨x5, rfl, bx5, qx5⟩, h7⟩ := h7
    have hf := li_fr_trans hf h7 (fun i h => False.elim h)
    refine li_if_ne 22 dX11_enough_17 (by decide) (fun c8 => ?_) (fun c8 => ?_)
    · refine li_iload_n 1 dX11_enough_22 rfl ?_
      refine li_bipush 60 dX11_enough_23 (by decide) ?_
      refine li_icmp_ge 34 dX11_enough_25 (by decide) (fun c9 => ?_) (fun c9 => ?_)
      · refine li_bipush (-2) dX11_enough_34 (by decide) ?_
        exact li_iret dX11_enough_36 rfl rfl ⟨⟨_, rfl⟩, hf⟩
      · refine li_iload_n 1 dX11_enough_28 rfl ?_
        refine li_iconst 1 dX11_enough_29 (by decide) ?_
        refine li_iadd dX11_enough_30 ?_
        refine li_top (fun x10 ex10 => ?_)
        refine li_goto 36 dX11_enough_31 (by decide) ?_
        exact li_iret dX11_enough_36 rfl rfl ⟨⟨_, rfl⟩, hf⟩
    · refine li_iconst (-1) dX11_enough_20 (by decide) ?_
      exact li_iret dX11_enough_21 rfl rfl ⟨⟨_, rfl⟩, hf⟩
