theorem w_39 : (Jvm.Cond.selects "ClockForTalk" ({ cls := "ClockForTalk", name := "bestOfAll", desc := "(LClockForTalk$Costs;)I" } : Jvm.MethodName) ({ cls := "ClockForTalk", name := "bestOfAll", desc := "(LClockForTalk$Costs;)I" } : Jvm.MethodName)) ∈ li_ws := li_mem 39 (by decide +kernel) (by decide +kernel)
theorem w_162 : (Jvm.Cond.fieldLink "ClockForTalk" (432 : Nat) "ClockForTalk$Row" "length" "I") ∈ li_ws := li_mem 162 (by decide +kernel) (by decide +kernel)
theorem w_344 : (Jvm.Cond.fieldLink "ClockForTalk" (429 : Nat) "ClockForTalk$Wordings" "lines" "I") ∈ li_ws := li_mem 344 (by decide +kernel) (by decide +kernel)
theorem w_376 : (Jvm.Cond.fieldLink "ClockForTalk" (305 : Nat) "ClockForTalk$Costs" "chosen" "I") ∈ li_ws := li_mem 376 (by decide +kernel) (by decide +kernel)
theorem w_378 : (Jvm.Cond.fieldLink "ClockForTalk" (308 : Nat) "ClockForTalk$Costs" "chosenCost" "I") ∈ li_ws := li_mem 378 (by decide +kernel) (by decide +kernel)
theorem w_447 : (Jvm.Cond.fieldLink "ClockForTalk" (386 : Nat) "ClockForTalk$Dusk" "readBits" "I") ∈ li_ws := li_mem 447 (by decide +kernel) (by decide +kernel)
theorem w_481 : (Jvm.Cond.fieldLink "ClockForTalk" (74 : Nat) "ClockForTalk" "otherCosts" "LClockForTalk$Costs;") ∈ li_ws := li_mem 481 (by decide +kernel) (by decide +kernel)
theorem w_482 : (Jvm.Cond.fieldLink "ClockForTalk" (82 : Nat) "ClockForTalk" "mouths" "LClockForTalk$WordOfMouth;") ∈ li_ws := li_mem 482 (by decide +kernel) (by decide +kernel)
theorem w_484 : (Jvm.Cond.fieldLink "ClockForTalk" (89 : Nat) "ClockForTalk" "dusk" "LClockForTalk$Dusk;") ∈ li_ws := li_mem 484 (by decide +kernel) (by decide +kernel)
theorem w_1026 : (Jvm.Cond.methodLink "ClockForTalk" (317 : Nat) ({ cls := "ClockForTalk$Costs", name := "leastOfAll", desc := "(I)I" } : Jvm.MethodName)) ∈ li_ws := li_mem 1026 (by decide +kernel) (by decide +kernel)
theorem w_1027 : (Jvm.Cond.instanceMethod ({ cls := "ClockForTalk$Costs", name := "leastOfAll", desc := "(I)I" } : Jvm.MethodName)) ∈ li_ws := li_mem 1027 (by decide +kernel) (by decide +kernel)
theorem w_1028 : (Jvm.Cond.selects "ClockForTalk$Costs" ({ cls := "ClockForTalk$Costs", name := "leastOfAll", desc := "(I)I" } : Jvm.MethodName) ({ cls := "ClockForTalk$Costs", name := "leastOfAll", desc := "(I)I" } : Jvm.MethodName)) ∈ li_ws := li_mem 1028 (by decide +kernel) (by decide +kernel)
theorem w_1029 : (Jvm.Cond.code ({ cls := "ClockForTalk$Costs", name := "leastOfAll", desc := "(I)I" } : Jvm.MethodName) prog_2_method_9_code (4 : Nat) (Option.some Jvm.ClassFile.FieldType.int)) ∈ li_ws := li_mem 1029 (by decide +kernel) (by decide +kernel)
theorem w_1030 : (Jvm.Cond.methodLink "ClockForTalk" (320 : Nat) ({ cls := "java/lang/Integer", name := "bitCount", desc := "(I)I" } : Jvm.MethodName)) ∈ li_ws := li_mem 1030 (by decide +kernel) (by decide +kernel)
theorem w_1035 : (Jvm.Cond.methodLink "ClockForTalk" (330 : Nat) ({ cls := "ClockForTalk$Costs", name := "openThings", desc := "()I" } : Jvm.MethodName)) ∈ li_ws := li_mem 1035 (by decide +kernel) (by decide +kernel)
theorem w_1036 : (Jvm.Cond.methodLink "ClockForTalk" (333 : Nat) ({ cls := "ClockForTalk$Costs", name := "choose", desc := "(II)V" } : Jvm.MethodName)) ∈ li_ws := li_mem 1036 (by decide +kernel) (by decide +kernel)
theorem w_1041 : (Jvm.Cond.methodLink "ClockForTalk" (336 : Nat) ({ cls := "ClockForTalk", name := "areBitsOf", desc := "(II)Z" } : Jvm.MethodName)) ∈ li_ws := li_mem 1041 (by decide +kernel) (by decide +kernel)
theorem w_1042 : (Jvm.Cond.static ({ cls := "ClockForTalk", name := "areBitsOf", desc := "(II)Z" } : Jvm.MethodName)) ∈ li_ws := li_mem 1042 (by decide +kernel) (by decide +kernel)
theorem w_1043 : (Jvm.Cond.code ({ cls := "ClockForTalk", name := "areBitsOf", desc := "(II)Z" } : Jvm.MethodName) prog_1_method_64_code (2 : Nat) (Option.some Jvm.ClassFile.FieldType.boolean)) ∈ li_ws := li_mem 1043 (by decide +kernel) (by decide +kernel)
theorem w_1045 : (Jvm.Cond.methodLink "ClockForTalk" (342 : Nat) ({ cls := "ClockForTalk$Row", name := "tell", desc := "(I)V" } : Jvm.MethodName)) ∈ li_ws := li_mem 1045 (by decide +kernel) (by decide +kernel)
theorem w_1046 : (Jvm.Cond.instanceMethod ({ cls := "ClockForTalk$Row", name := "tell", desc := "(I)V" } : Jvm.MethodName)) ∈ li_ws := li_mem 1046 (by decide +kernel) (by decide +kernel)
theorem w_1047 : (Jvm.Cond.selects "ClockForTalk$Row" ({ cls := "ClockForTalk$Row", name := "tell", desc := "(I)V" } : Jvm.MethodName) ({ cls := "ClockForTalk$Row", name := "tell", desc := "(I)V" } : Jvm.MethodName)) ∈ li_ws := li_mem 1047 (by decide +kernel) (by decide +kernel)
theorem w_1048 : (Jvm.Cond.code ({ cls := "ClockForTalk$Row", name := "tell", desc := "(I)V" } : Jvm.MethodName) prog_6_method_2_code (2 : Nat) (Option.none : Option Jvm.ClassFile.FieldType)) ∈ li_ws := li_mem 1048 (by decide +kernel) (by decide +kernel)
theorem w_1053 : (Jvm.Cond.methodLink "ClockForTalk" (345 : Nat) ({ cls := "ClockForTalk$Costs", name := "firstUnpayable", desc := "()I" } : Jvm.MethodName)) ∈ li_ws := li_mem 1053 (by decide +kernel) (by decide +kernel)
theorem w_1054 : (Jvm.Cond.instanceMethod ({ cls := "ClockForTalk$Costs", name := "firstUnpayable", desc := "()I" } : Jvm.MethodName)) ∈ li_ws := li_mem 1054 (by decide +kernel) (by decide +kernel)
theorem w_1055 : (Jvm.Cond.selects "ClockForTalk$Costs" ({ cls := "ClockForTalk$Costs", name := "firstUnpayable", desc := "()I" } : Jvm.MethodName) ({ cls := "ClockForTalk$Costs", name := "firstUnpayable", desc := "()I" } : Jvm.MethodName)) ∈ li_ws := li_mem 1055 (by decide +kernel) (by decide +kernel)
theorem w_1056 : (Jvm.Cond.code ({ cls := "ClockForTalk$Costs", name := "firstUnpayable", desc := "()I" } : Jvm.MethodName) prog_2_method_15_code (5 : Nat) (Option.some Jvm.ClassFile.FieldType.int)) ∈ li_ws := li_mem 1056 (by decide +kernel) (by decide +kernel)
theorem w_1116 : (Jvm.Cond.methodLink "ClockForTalk" (369 : Nat) ({ cls := "ClockForTalk$Wordings", name := "adopt", desc := "(I)V" } : Jvm.MethodName)) ∈ li_ws := li_mem 1116 (by decide +kernel) (by decide +kernel)
theorem w_1117 : (Jvm.Cond.instanceMethod ({ cls := "ClockForTalk$Wordings", name := "adopt", desc := "(I)V" } : Jvm.MethodName)) ∈ li_ws := li_mem 1117 (by decide +kernel) (by decide +kernel)
theorem w_1118 : (Jvm.Cond.selects "ClockForTalk$Wordings" ({ cls := "ClockForTalk$Wordings", name := "adopt", desc := "(I)V" } : Jvm.MethodName) ({ cls := "ClockForTalk$Wordings", name := "adopt", desc := "(I)V" } : Jvm.MethodName)) ∈ li_ws := li_mem 1118 (by decide +kernel) (by decide +kernel)
theorem w_1119 : (Jvm.Cond.code ({ cls := "ClockForTalk$Wordings", name := "adopt", desc := "(I)V" } : Jvm.MethodName) prog_11_method_3_code (2 : Nat) (Option.none : Option Jvm.ClassFile.FieldType)) ∈ li_ws := li_mem 1119 (by decide +kernel) (by decide +kernel)
theorem w_1232 : (Jvm.Cond.methodLink "ClockForTalk" (404 : Nat) ({ cls := "ClockForTalk", name := "bestOfAll", desc := "(LClockForTalk$Costs;)I" } : Jvm.MethodName)) ∈ li_ws := li_mem 1232 (by decide +kernel) (by decide +kernel)
theorem w_1234 : (Jvm.Cond.instanceMethod ({ cls := "ClockForTalk", name := "bestOfAll", desc := "(LClockForTalk$Costs;)I" } : Jvm.MethodName)) ∈ li_ws := li_mem 1234 (by decide +kernel) (by decide +kernel)
theorem w_1235 : (Jvm.Cond.code ({ cls := "ClockForTalk", name := "bestOfAll", desc := "(LClockForTalk$Costs;)I" } : Jvm.MethodName) prog_1_method_48_code (4 : Nat) (Option.some Jvm.ClassFile.FieldType.int)) ∈ li_ws := li_mem 1235 (by decide +kernel) (by decide +kernel)
theorem w_1269 : (Jvm.Cond.constant "ClockForTalk" (414 : Nat) (1103515245 : Int32)) ∈ li_ws := li_mem 1269 (by decide +kernel) (by decide +kernel)
theorem w_1270 : (Jvm.Cond.methodLink "ClockForTalk" (419 : Nat) ({ cls := "ClockForTalk$History", name := "recall", desc := "(LClockForTalk$Ledger;)V" } : Jvm.MethodName)) ∈ li_ws := li_mem 1270 (by decide +kernel) (by decide +kernel)
theorem w_1271 : (Jvm.Cond.instanceMethod ({ cls := "ClockForTalk$History", name := "recall", desc := "(LClockForTalk$Ledger;)V" } : Jvm.MethodName)) ∈ li_ws := li_mem 1271 (by decide +kernel) (by decide +kernel)
theorem w_1272 : (Jvm.Cond.selects "ClockForTalk$History" ({ cls := "ClockForTalk$History", name := "recall", desc := "(LClockForTalk$Ledger;)V" } : Jvm.MethodName) ({ cls := "ClockForTalk$History", name := "recall", desc := "(LClockForTalk$Ledger;)V" } : Jvm.MethodName)) ∈ li_ws := li_mem 1272 (by decide +kernel) (by decide +kernel)
theorem w_1273 : (Jvm.Cond.code ({ cls := "ClockForTalk$History", name := "recall", desc := "(LClockForTalk$Ledger;)V" } : Jvm.MethodName) prog_4_method_4_code (2 : Nat) (Option.none : Option Jvm.ClassFile.FieldType)) ∈ li_ws := li_mem 1273 (by decide +kernel) (by decide +kernel)
theorem w_1278 : (Jvm.Cond.methodLink "ClockForTalk" (422 : Nat) ({ cls := "ClockForTalk$History", name := "keepUnder", desc := "(ILClockForTalk$Ledger;)Z" } : Jvm.MethodName)) ∈ li_ws := li_mem 1278 (by decide +kernel) (by decide +kernel)
theorem w_1279 : (Jvm.Cond.instanceMethod ({ cls := "ClockForTalk$History", name := "keepUnder", desc := "(ILClockForTalk$Ledger;)Z" } : Jvm.MethodName)) ∈ li_ws := li_mem 1279 (by decide +kernel) (by decide +kernel)
theorem w_1280 : (Jvm.Cond.selects "ClockForTalk$History" ({ cls := "ClockForTalk$History", name := "keepUnder", desc := "(ILClockForTalk$Ledger;)Z" } : Jvm.MethodName) ({ cls := "ClockForTalk$History", name := "keepUnder", desc := "(ILClockForTalk$Ledger;)Z" } : Jvm.MethodName)) ∈ li_ws := li_mem 1280 (by decide +kernel) (by decide +kernel)
theorem w_1281 : (Jvm.Cond.code ({ cls := "ClockForTalk$History", name := "keepUnder", desc := "(ILClockForTalk$Ledger;)Z" } : Jvm.MethodName) prog_4_method_7_code (3 : Nat) (Option.some Jvm.ClassFile.FieldType.boolean)) ∈ li_ws := li_mem 1281 (by decide +kernel) (by decide +kernel)
theorem w_1286 : (Jvm.Cond.methodLink "ClockForTalk" (426 : Nat) ({ cls := "ClockForTalk$History", name := "bringBack", desc := "(ILClockForTalk$Ledger;)Z" } : Jvm.MethodName)) ∈ li_ws := li_mem 1286 (by decide +kernel) (by decide +kernel)
theorem w_1287 : (Jvm.Cond.instanceMethod ({ cls := "ClockForTalk$History", name := "bringBack", desc := "(ILClockForTalk$Ledger;)Z" } : Jvm.MethodName)) ∈ li_ws := li_mem 1287 (by decide +kernel) (by decide +kernel)
theorem w_1288 : (Jvm.Cond.selects "ClockForTalk$History" ({ cls := "ClockForTalk$History", name := "bringBack", desc := "(ILClockForTalk$Ledger;)Z" } : Jvm.MethodName) ({ cls := "ClockForTalk$History", name := "bringBack", desc := "(ILClockForTalk$Ledger;)Z" } : Jvm.MethodName)) ∈ li_ws := li_mem 1288 (by decide +kernel) (by decide +kernel)
theorem w_1289 : (Jvm.Cond.code ({ cls := "ClockForTalk$History", name := "bringBack", desc := "(ILClockForTalk$Ledger;)Z" } : Jvm.MethodName) prog_4_method_8_code (3 : Nat) (Option.some Jvm.ClassFile.FieldType.boolean)) ∈ li_ws := li_mem 1289 (by decide +kernel) (by decide +kernel)
theorem dX11_best_0 : decode cX11_best 0 = .ok (.aload_n 0, 1) := by decide +kernel
theorem dX11_best_1 : decode cX11_best 1 = .ok (.getfield 26, 3) := by decide +kernel
theorem dX11_best_4 : decode cX11_best 4 = .ok (.iload_n 1, 1) := by decide +kernel
theorem dX11_best_5 : decode cX11_best 5 = .ok (.invokevirtual 125, 3) := by decide +kernel
theorem dX11_best_8 : decode cX11_best 8 = .ok (.ifCond .ne 5, 3) := by decide +kernel
theorem dX11_best_11 : decode cX11_best 11 = .ok (.iconst (-1), 1) := by decide +kernel
theorem dX11_best_12 : decode cX11_best 12 = .ok (.ireturn, 1) := by decide +kernel
abbrev YX11_best : li_Y := (yX11_best, cX11_best, 2, (some .int))
theorem dX11_lacks_0 : decode cX11_lacks 0 = .ok (.aload_n 0, 1) := by decide +kernel
theorem dX11_lacks_1 : decode cX11_lacks 1 = .ok (.getfield 26, 3) := by decide +kernel
theorem dX11_lacks_4 : decode cX11_lacks 4 = .ok (.iload_n 1, 1) := by decide +kernel
theorem dX11_lacks_5 : decode cX11_lacks 5 = .ok (.invokevirtual 125, 3) := by decide +kernel
theorem dX11_lacks_8 : decode cX11_lacks 8 = .ok (.ifCond .ne 5, 3) := by decide +kernel
theorem dX11_lacks_11 : decode cX11_lacks 11 = .ok (.iconst (-1), 1) := by decide +kernel
theorem dX11_lacks_12 : decode cX11_lacks 12 = .ok (.ireturn, 1) := by decide +kernel
abbrev YX11_lacks : li_Y := (yX11_lacks, cX11_lacks, 4, (some .int))
theorem dX11_pool_0 : decode cX11_pool 0 = .ok (.aload_n 0, 1) := by decide +kernel
theorem dX11_pool_1 : decode cX11_pool 1 = .ok (.getfield 70, 3) := by decide +kernel
theorem dX11_pool_4 : decode cX11_pool 4 = .ok (.invokevirtual 299, 3) := by decide +kernel
theorem dX11_pool_7 : decode cX11_pool 7 = .ok (.aload_n 0, 1) := by decide +kernel
theorem dX11_pool_8 : decode cX11_pool 8 = .ok (.getfield 70, 3) := by decide +kernel
theorem dX11_pool_11 : decode cX11_pool 11 = .ok (.aload_n 0, 1) := by decide +kernel
theorem dX11_pool_12 : decode cX11_pool 12 = .ok (.getfield 70, 3) := by decide +kernel
theorem dX11_pool_15 : decode cX11_pool 15 = .ok (.invokevirtual 330, 3) := by decide +kernel
theorem dX11_pool_18 : decode cX11_pool 18 = .ok (.aload_n 0, 1) := by decide +kernel
theorem dX11_pool_19 : decode cX11_pool 19 = .ok (.getfield 33, 3) := by decide +kernel
theorem dX11_pool_22 : decode cX11_pool 22 = .ok (.aload_n 0, 1) := by decide +kernel
theorem dX11_pool_23 : decode cX11_pool 23 = .ok (.getfield 26, 3) := by decide +kernel
theorem dX11_pool_26 : decode cX11_pool 26 = .ok (.getfield 104, 3) := by decide +kernel
theorem dX11_pool_29 : decode cX11_pool 29 = .ok (.invokevirtual 232, 3) := by decide +kernel
theorem dX11_pool_32 : decode cX11_pool 32 = .ok (.invokevirtual 333, 3) := by decide +kernel
theorem dX11_pool_35 : decode cX11_pool 35 = .ok (.aload_n 0, 1) := by decide +kernel
theorem dX11_pool_36 : decode cX11_pool 36 = .ok (.getfield 19, 3) := by decide +kernel
theorem dX11_pool_39 : decode cX11_pool 39 = .ok (.aload_n 0, 1) := by decide +kernel
theorem dX11_pool_40 : decode cX11_pool 40 = .ok (.getfield 70, 3) := by decide +kernel
theorem dX11_pool_43 : decode cX11_pool 43 = .ok (.getfield 305, 3) := by decide +kernel
theorem dX11_pool_46 : decode cX11_pool 46 = .ok (.aload_n 0, 1) := by decide +kernel
theorem dX11_pool_47 : decode cX11_pool 47 = .ok (.getfield 70, 3) := by decide +kernel
theorem dX11_pool_50 : decode cX11_pool 50 = .ok (.getfield 308, 3) := by decide +kernel
theorem dX11_pool_53 : decode cX11_pool 53 = .ok (.invokevirtual 280, 3) := by decide +kernel
theorem dX11_pool_56 : decode cX11_pool 56 = .ok (.aload_n 0, 1) := by decide +kernel
theorem dX11_pool_57 : decode cX11_pool 57 = .ok (.getfield 70, 3) := by decide +kernel
theorem dX11_pool_60 : decode cX11_pool 60 = .ok (.getfield 311, 3) := by decide +kernel
theorem dX11_pool_63 : decode cX11_pool 63 = .ok (.ireturn, 1) := by decide +kernel
abbrev YX11_pool : li_Y := (yX11_pool, cX11_pool, 1, (some .int))
theorem dX11_gifts_0 : decode cX11_gifts 0 = .ok (.iload_n 1, 1) := by decide +kernel
theorem dX11_gifts_1 : decode cX11_gifts 1 = .ok (.aload_n 0, 1) := by decide +kernel
theorem dX11_gifts_2 : decode cX11_gifts 2 = .ok (.getfield 26, 3) := by decide +kernel
theorem dX11_gifts_5 : decode cX11_gifts 5 = .ok (.getfield 118, 3) := by decide +kernel
theorem dX11_gifts_8 : decode cX11_gifts 8 = .ok (.invokestatic 336, 3) := by decide +kernel
theorem dX11_gifts_11 : decode cX11_gifts 11 = .ok (.ifCond .ne 5, 3) := by decide +kernel
theorem dX11_gifts_14 : decode cX11_gifts 14 = .ok (.iconst (-1), 1) := by decide +kernel
theorem dX11_gifts_15 : decode cX11_gifts 15 = .ok (.ireturn, 1) := by decide +kernel
theorem dX11_gifts_16 : decode cX11_gifts 16 = .ok (.aload_n 0, 1) := by decide +kernel
theorem dX11_gifts_17 : decode cX11_gifts 17 = .ok (.getfield 70, 3) := by decide +kernel
theorem dX11_gifts_20 : decode cX11_gifts 20 = .ok (.invokevirtual 299, 3) := by decide +kernel
theorem dX11_gifts_23 : decode cX11_gifts 23 = .ok (.iload_n 1, 1) := by decide +kernel
theorem dX11_gifts_24 : decode cX11_gifts 24 = .ok (.aload_n 0, 1) := by decide +kernel
theorem dX11_gifts_25 : decode cX11_gifts 25 = .ok (.getfield 70, 3) := by decide +kernel
theorem dX11_gifts_28 : decode cX11_gifts 28 = .ok (.invokevirtual 330, 3) := by decide +kernel
theorem dX11_gifts_31 : decode cX11_gifts 31 = .ok (.iconst (-1), 1) := by decide +kernel
theorem dX11_gifts_32 : decode cX11_gifts 32 = .ok (.ixor, 1) := by decide +kernel
theorem dX11_gifts_33 : decode cX11_gifts 33 = .ok (.iand, 1) := by decide +kernel
theorem dX11_gifts_34 : decode cX11_gifts 34 = .ok (.ifCond .eq 6, 3) := by decide +kernel
theorem dX11_gifts_40 : decode cX11_gifts 40 = .ok (.aload_n 0, 1) := by decide +kernel
theorem dX11_gifts_41 : decode cX11_gifts 41 = .ok (.getfield 70, 3) := by decide +kernel
theorem dX11_gifts_44 : decode cX11_gifts 44 = .ok (.iload_n 1, 1) := by decide +kernel
theorem dX11_gifts_45 : decode cX11_gifts 45 = .ok (.invokevirtual 317, 3) := by decide +kernel
theorem dX11_gifts_48 : decode cX11_gifts 48 = .ok (.aload_n 0, 1) := by decide +kernel
theorem dX11_gifts_49 : decode cX11_gifts 49 = .ok (.getfield 33, 3) := by decide +kernel
theorem dX11_gifts_52 : decode cX11_gifts 52 = .ok (.aload_n 0, 1) := by decide +kernel
theorem dX11_gifts_53 : decode cX11_gifts 53 = .ok (.getfield 26, 3) := by decide +kernel
theorem dX11_gifts_56 : decode cX11_gifts 56 = .ok (.getfield 104, 3) := by decide +kernel
theorem dX11_gifts_59 : decode cX11_gifts 59 = .ok (.invokevirtual 232, 3) := by decide +kernel
theorem dX11_gifts_62 : decode cX11_gifts 62 = .ok (.if_icmp .le 6, 3) := by decide +kernel
theorem dX11_gifts_68 : decode cX11_gifts 68 = .ok (.iconst 0, 1) := by decide +kernel
theorem dX11_gifts_69 : decode cX11_gifts 69 = .ok (.istore_n 2, 1) := by decide +kernel
theorem dX11_gifts_70 : decode cX11_gifts 70 = .ok (.iconst 0, 1) := by decide +kernel
theorem dX11_gifts_71 : decode cX11_gifts 71 = .ok (.istore_n 3, 1) := by decide +kernel
theorem dX11_gifts_72 : decode cX11_gifts 72 = .ok (.iconst 0, 1) := by decide +kernel
theorem dX11_gifts_73 : decode cX11_gifts 73 = .ok (.istore 4, 2) := by decide +kernel
theorem dX11_gifts_75 : decode cX11_gifts 75 = .ok (.iload 4, 2) := by decide +kernel
theorem dX11_gifts_77 : decode cX11_gifts 77 = .ok (.aload_n 0, 1) := by decide +kernel
theorem dX11_gifts_78 : decode cX11_gifts 78 = .ok (.getfield 26, 3) := by decide +kernel
theorem dX11_gifts_81 : decode cX11_gifts 81 = .ok (.getfield 104, 3) := by decide +kernel
theorem dX11_gifts_84 : decode cX11_gifts 84 = .ok (.if_icmp .ge 55, 3) := by decide +kernel
theorem dX11_gifts_139 : decode cX11_gifts 139 = .ok (.aload_n 0, 1) := by decide +kernel
theorem dX11_gifts_140 : decode cX11_gifts 140 = .ok (.getfield 19, 3) := by decide +kernel
theorem dX11_gifts_143 : decode cX11_gifts 143 = .ok (.iload_n 3, 1) := by decide +kernel
theorem dX11_gifts_144 : decode cX11_gifts 144 = .ok (.invokevirtual 342, 3) := by decide +kernel
theorem dX11_gifts_147 : decode cX11_gifts 147 = .ok (.iload_n 2, 1) := by decide +kernel
theorem dX11_gifts_148 : decode cX11_gifts 148 = .ok (.ireturn, 1) := by decide +kernel
abbrev YX11_gifts : li_Y := (yX11_gifts, cX11_gifts, 6, (some .int))
theorem dX11_mute_0 : decode cX11_mute 0 = .ok (.aload_n 0, 1) := by decide +kernel
theorem dX11_mute_1 : decode cX11_mute 1 = .ok (.getfield 70, 3) := by decide +kernel
theorem dX11_mute_4 : decode cX11_mute 4 = .ok (.invokevirtual 299, 3) := by decide +kernel
theorem dX11_mute_7 : decode cX11_mute 7 = .ok (.aload_n 0, 1) := by decide +kernel
theorem dX11_mute_8 : decode cX11_mute 8 = .ok (.getfield 70, 3) := by decide +kernel
theorem dX11_mute_11 : decode cX11_mute 11 = .ok (.invokevirtual 345, 3) := by decide +kernel
theorem dX11_mute_14 : decode cX11_mute 14 = .ok (.istore_n 1, 1) := by decide +kernel
theorem dX11_mute_15 : decode cX11_mute 15 = .ok (.iload_n 1, 1) := by decide +kernel
theorem dX11_mute_16 : decode cX11_mute 16 = .ok (.ifCond .ge 6, 3) := by decide +kernel
theorem dX11_mute_19 : decode cX11_mute 19 = .ok (.bipush (-2), 2) := by decide +kernel
theorem dX11_mute_21 : decode cX11_mute 21 = .ok (.ireturn, 1) := by decide +kernel
abbrev YX11_mute : li_Y := (yX11_mute, cX11_mute, 2, (some .int))
theorem dX11_relay_0 : decode cX11_relay 0 = .ok (.aload_n 0, 1) := by decide +kernel
theorem dX11_relay_1 : decode cX11_relay 1 = .ok (.getfield 26, 3) := by decide +kernel
theorem dX11_relay_4 : decode cX11_relay 4 = .ok (.iload_n 1, 1) := by decide +kernel
theorem dX11_relay_5 : decode cX11_relay 5 = .ok (.invokevirtual 125, 3) := by decide +kernel
theorem dX11_relay_8 : decode cX11_relay 8 = .ok (.ifCond .eq 24, 3) := by decide +kernel
theorem dX11_relay_32 : decode cX11_relay 32 = .ok (.iconst (-1), 1) := by decide +kernel
theorem dX11_relay_33 : decode cX11_relay 33 = .ok (.ireturn, 1) := by decide +kernel
abbrev YX11_relay : li_Y := (yX11_relay, cX11_relay, 4, (some .int))
theorem dX11_criers_0 : decode cX11_criers 0 = .ok (.aload_n 0, 1) := by decide +kernel
theorem dX11_criers_1 : decode cX11_criers 1 = .ok (.getfield 26, 3) := by decide +kernel
theorem dX11_criers_4 : decode cX11_criers 4 = .ok (.iload_n 1, 1) := by decide +kernel
theorem dX11_criers_5 : decode cX11_criers 5 = .ok (.invokevirtual 125, 3) := by decide +kernel
theorem dX11_criers_8 : decode cX11_criers 8 = .ok (.ifCond .eq 27, 3) := by decide +kernel
theorem dX11_criers_35 : decode cX11_criers 35 = .ok (.iconst (-1), 1) := by decide +kernel
theorem dX11_criers_36 : decode cX11_criers 36 = .ok (.ireturn, 1) := by decide +kernel
abbrev YX11_criers : li_Y := (yX11_criers, cX11_criers, 5, (some .int))
theorem dX11_grammar_0 : decode cX11_grammar 0 = .ok (.aload_n 0, 1) := by decide +kernel
theorem dX11_grammar_1 : decode cX11_grammar 1 = .ok (.iconst 3, 1) := by decide +kernel
theorem dX11_grammar_2 : decode cX11_grammar 2 = .ok (.bipush 10, 2) := by decide +kernel
theorem dX11_grammar_4 : decode cX11_grammar 4 = .ok (.bipush 80, 2) := by decide +kernel
theorem dX11_grammar_6 : decode cX11_grammar 6 = .ok (.invokevirtual 107, 3) := by decide +kernel
theorem dX11_grammar_9 : decode cX11_grammar 9 = .ok (.istore_n 1, 1) := by decide +kernel
theorem dX11_grammar_10 : decode cX11_grammar 10 = .ok (.iload_n 1, 1) := by decide +kernel
theorem dX11_grammar_11 : decode cX11_grammar 11 = .ok (.ifCond .lt 11, 3) := by decide +kernel
theorem dX11_grammar_14 : decode cX11_grammar 14 = .ok (.aload_n 0, 1) := by decide +kernel
theorem dX11_grammar_15 : decode cX11_grammar 15 = .ok (.getfield 57, 3) := by decide +kernel
theorem dX11_grammar_18 : decode cX11_grammar 18 = .ok (.iload_n 1, 1) := by decide +kernel
theorem dX11_grammar_19 : decode cX11_grammar 19 = .ok (.invokevirtual 369, 3) := by decide +kernel
theorem dX11_grammar_22 : decode cX11_grammar 22 = .ok (.iload_n 1, 1) := by decide +kernel
theorem dX11_grammar_23 : decode cX11_grammar 23 = .ok (.ireturn, 1) := by decide +kernel
abbrev YX11_grammar : li_Y := (yX11_grammar, cX11_grammar, 2, (some .int))
theorem dX11_read_0 : decode cX11_read 0 = .ok (.aload_n 0, 1) := by decide +kernel
theorem dX11_read_1 : decode cX11_read 1 = .ok (.getfield 26, 3) := by decide +kernel
theorem dX11_read_4 : decode cX11_read 4 = .ok (.iload_n 1, 1) := by decide +kernel
theorem dX11_read_5 : decode cX11_read 5 = .ok (.invokevirtual 125, 3) := by decide +kernel
theorem dX11_read_8 : decode cX11_read 8 = .ok (.ifCond .eq 14, 3) := by decide +kernel
theorem dX11_read_22 : decode cX11_read 22 = .ok (.iconst (-1), 1) := by decide +kernel
theorem dX11_read_23 : decode cX11_read 23 = .ok (.ireturn, 1) := by decide +kernel
abbrev YX11_read : li_Y := (yX11_read, cX11_read, 3, (some .int))
theorem dX11_forget_0 : decode cX11_forget 0 = .ok (.aload_n 0, 1) := by decide +kernel
theorem dX11_forget_1 : decode cX11_forget 1 = .ok (.getfield 89, 3) := by decide +kernel
theorem dX11_forget_4 : decode cX11_forget 4 = .ok (.getfield 386, 3) := by decide +kernel
theorem dX11_forget_7 : decode cX11_forget 7 = .ok (.invokestatic 320, 3) := by decide +kernel
theorem dX11_forget_10 : decode cX11_forget 10 = .ok (.istore_n 1, 1) := by decide +kernel
theorem dX11_forget_11 : decode cX11_forget 11 = .ok (.aload_n 0, 1) := by decide +kernel
theorem dX11_forget_12 : decode cX11_forget 12 = .ok (.getfield 89, 3) := by decide +kernel
theorem dX11_forget_15 : decode cX11_forget 15 = .ok (.iconst 0, 1) := by decide +kernel
theorem dX11_forget_16 : decode cX11_forget 16 = .ok (.putfield 386, 3) := by decide +kernel
theorem dX11_forget_19 : decode cX11_forget 19 = .ok (.iload_n 1, 1) := by decide +kernel
theorem dX11_forget_20 : decode cX11_forget 20 = .ok (.ireturn, 1) := by decide +kernel
abbrev YX11_forget : li_Y := (yX11_forget, cX11_forget, 2, (some .int))
theorem dX11_spoke_0 : decode cX11_spoke 0 = .ok (.aload_n 0, 1) := by decide +kernel
theorem dX11_spoke_1 : decode cX11_spoke 1 = .ok (.getfield 26, 3) := by decide +kernel
theorem dX11_spoke_4 : decode cX11_spoke 4 = .ok (.iload_n 1, 1) := by decide +kernel
theorem dX11_spoke_5 : decode cX11_spoke 5 = .ok (.invokevirtual 125, 3) := by decide +kernel
theorem dX11_spoke_8 : decode cX11_spoke 8 = .ok (.ifCond .ne 5, 3) := by decide +kernel
theorem dX11_spoke_11 : decode cX11_spoke 11 = .ok (.iconst (-1), 1) := by decide +kernel
theorem dX11_spoke_12 : decode cX11_spoke 12 = .ok (.ireturn, 1) := by decide +kernel
abbrev YX11_spoke : li_Y := (yX11_spoke, cX11_spoke, 2, (some .int))
theorem dX11_look_0 : decode cX11_look 0 = .ok (.aload_n 0, 1) := by decide +kernel
theorem dX11_look_1 : decode cX11_look 1 = .ok (.getfield 70, 3) := by decide +kernel
theorem dX11_look_4 : decode cX11_look 4 = .ok (.invokevirtual 299, 3) := by decide +kernel
theorem dX11_look_7 : decode cX11_look 7 = .ok (.iconst 0, 1) := by decide +kernel
theorem dX11_look_8 : decode cX11_look 8 = .ok (.istore_n 1, 1) := by decide +kernel
theorem dX11_look_9 : decode cX11_look 9 = .ok (.iconst (-1), 1) := by decide +kernel
theorem dX11_look_10 : decode cX11_look 10 = .ok (.istore_n 2, 1) := by decide +kernel
theorem dX11_look_11 : decode cX11_look 11 = .ok (.iconst 0, 1) := by decide +kernel
theorem dX11_look_12 : decode cX11_look 12 = .ok (.istore_n 3, 1) := by decide +kernel
theorem dX11_look_13 : decode cX11_look 13 = .ok (.iload_n 3, 1) := by decide +kernel
theorem dX11_look_14 : decode cX11_look 14 = .ok (.aload_n 0, 1) := by decide +kernel
theorem dX11_look_15 : decode cX11_look 15 = .ok (.getfield 26, 3) := by decide +kernel
theorem dX11_look_18 : decode cX11_look 18 = .ok (.getfield 104, 3) := by decide +kernel
theorem dX11_look_21 : decode cX11_look 21 = .ok (.if_icmp .ge 48, 3) := by decide +kernel
theorem dX11_look_69 : decode cX11_look 69 = .ok (.iload_n 2, 1) := by decide +kernel
theorem dX11_look_70 : decode cX11_look 70 = .ok (.ifCond .ge 6, 3) := by decide +kernel
theorem dX11_look_73 : decode cX11_look 73 = .ok (.bipush (-2), 2) := by decide +kernel
theorem dX11_look_75 : decode cX11_look 75 = .ok (.ireturn, 1) := by decide +kernel
abbrev YX11_look : li_Y := (yX11_look, cX11_look, 5, (some .int))
theorem dX11_rate_0 : decode cX11_rate 0 = .ok (.aload_n 0, 1) := by decide +kernel
theorem dX11_rate_1 : decode cX11_rate 1 = .ok (.iconst 4, 1) := by decide +kernel
theorem dX11_rate_2 : decode cX11_rate 2 = .ok (.iconst 0, 1) := by decide +kernel
theorem dX11_rate_3 : decode cX11_rate 3 = .ok (.bipush 40, 2) := by decide +kernel
theorem dX11_rate_5 : decode cX11_rate 5 = .ok (.invokevirtual 107, 3) := by decide +kernel
theorem dX11_rate_8 : decode cX11_rate 8 = .ok (.istore_n 1, 1) := by decide +kernel
theorem dX11_rate_9 : decode cX11_rate 9 = .ok (.iload_n 1, 1) := by decide +kernel
theorem dX11_rate_10 : decode cX11_rate 10 = .ok (.ifCond .ge 9, 3) := by decide +kernel
theorem dX11_rate_19 : decode cX11_rate 19 = .ok (.aload_n 0, 1) := by decide +kernel
theorem dX11_rate_20 : decode cX11_rate 20 = .ok (.aload_n 0, 1) := by decide +kernel
theorem dX11_rate_21 : decode cX11_rate 21 = .ok (.getfield 74, 3) := by decide +kernel
theorem dX11_rate_24 : decode cX11_rate 24 = .ok (.invokevirtual 404, 3) := by decide +kernel
theorem dX11_rate_27 : decode cX11_rate 27 = .ok (.istore_n 2, 1) := by decide +kernel
theorem dX11_rate_28 : decode cX11_rate 28 = .ok (.aload_n 0, 1) := by decide +kernel
theorem dX11_rate_29 : decode cX11_rate 29 = .ok (.aload_n 0, 1) := by decide +kernel
theorem dX11_rate_30 : decode cX11_rate 30 = .ok (.getfield 70, 3) := by decide +kernel
theorem dX11_rate_33 : decode cX11_rate 33 = .ok (.invokevirtual 404, 3) := by decide +kernel
theorem dX11_rate_36 : decode cX11_rate 36 = .ok (.istore_n 3, 1) := by decide +kernel
theorem dX11_rate_37 : decode cX11_rate 37 = .ok (.aload_n 0, 1) := by decide +kernel
theorem dX11_rate_38 : decode cX11_rate 38 = .ok (.getfield 19, 3) := by decide +kernel
theorem dX11_rate_41 : decode cX11_rate 41 = .ok (.iload_n 2, 1) := by decide +kernel
theorem dX11_rate_42 : decode cX11_rate 42 = .ok (.iload_n 3, 1) := by decide +kernel
theorem dX11_rate_43 : decode cX11_rate 43 = .ok (.invokevirtual 280, 3) := by decide +kernel
theorem dX11_rate_46 : decode cX11_rate 46 = .ok (.iload_n 2, 1) := by decide +kernel
theorem dX11_rate_47 : decode cX11_rate 47 = .ok (.iload_n 3, 1) := by decide +kernel
theorem dX11_rate_48 : decode cX11_rate 48 = .ok (.isub, 1) := by decide +kernel
theorem dX11_rate_49 : decode cX11_rate 49 = .ok (.ireturn, 1) := by decide +kernel
abbrev YX11_rate : li_Y := (yX11_rate, cX11_rate, 4, (some .int))
theorem dX11_run_0 : decode cX11_run 0 = .ok (.aload_n 0, 1) := by decide +kernel
theorem dX11_run_1 : decode cX11_run 1 = .ok (.getfield 26, 3) := by decide +kernel
theorem dX11_run_4 : decode cX11_run 4 = .ok (.iload_n 1, 1) := by decide +kernel
theorem dX11_run_5 : decode cX11_run 5 = .ok (.invokevirtual 125, 3) := by decide +kernel
theorem dX11_run_8 : decode cX11_run 8 = .ok (.ifCond .ne 5, 3) := by decide +kernel
theorem dX11_run_11 : decode cX11_run 11 = .ok (.iconst (-1), 1) := by decide +kernel
theorem dX11_run_12 : decode cX11_run 12 = .ok (.ireturn, 1) := by decide +kernel
abbrev YX11_run : li_Y := (yX11_run, cX11_run, 3, (some .int))
theorem dX11_years_0 : decode cX11_years 0 = .ok (.iload_n 2, 1) := by decide +kernel
theorem dX11_years_1 : decode cX11_years 1 = .ok (.iconst 1, 1) := by decide +kernel
theorem dX11_years_2 : decode cX11_years 2 = .ok (.bipush 60, 2) := by decide +kernel
theorem dX11_years_4 : decode cX11_years 4 = .ok (.invokestatic 128, 3) := by decide +kernel
theorem dX11_years_7 : decode cX11_years 7 = .ok (.ifCond .ne 5, 3) := by decide +kernel
theorem dX11_years_10 : decode cX11_years 10 = .ok (.iconst (-1), 1) := by decide +kernel
theorem dX11_years_11 : decode cX11_years 11 = .ok (.ireturn, 1) := by decide +kernel
theorem dX11_years_12 : decode cX11_years 12 = .ok (.aload_n 0, 1) := by decide +kernel
theorem dX11_years_13 : decode cX11_years 13 = .ok (.getfield 40, 3) := by decide +kernel
theorem dX11_years_16 : decode cX11_years 16 = .ok (.aload_n 0, 1) := by decide +kernel
theorem dX11_years_17 : decode cX11_years 17 = .ok (.getfield 33, 3) := by decide +kernel
theorem dX11_years_20 : decode cX11_years 20 = .ok (.invokevirtual 241, 3) := by decide +kernel
theorem dX11_years_23 : decode cX11_years 23 = .ok (.iload_n 1, 1) := by decide +kernel
theorem dX11_years_24 : decode cX11_years 24 = .ok (.istore_n 3, 1) := by decide +kernel
theorem dX11_years_25 : decode cX11_years 25 = .ok (.iconst 0, 1) := by decide +kernel
theorem dX11_years_26 : decode cX11_years 26 = .ok (.istore 4, 2) := by decide +kernel
theorem dX11_years_28 : decode cX11_years 28 = .ok (.iconst 0, 1) := by decide +kernel
theorem dX11_years_29 : decode cX11_years 29 = .ok (.istore 5, 2) := by decide +kernel
theorem dX11_years_31 : decode cX11_years 31 = .ok (.iconst 0, 1) := by decide +kernel
theorem dX11_years_32 : decode cX11_years 32 = .ok (.istore 6, 2) := by decide +kernel
theorem dX11_years_34 : decode cX11_years 34 = .ok (.iconst 0, 1) := by decide +kernel
theorem dX11_years_35 : decode cX11_years 35 = .ok (.istore 7, 2) := by decide +kernel
theorem dX11_years_37 : decode cX11_years 37 = .ok (.iload 7, 2) := by decide +kernel
theorem dX11_years_39 : decode cX11_years 39 = .ok (.iload_n 2, 1) := by decide +kernel
theorem dX11_years_40 : decode cX11_years 40 = .ok (.if_icmp .ge 88, 3) := by decide +kernel
theorem dX11_years_43 : decode cX11_years 43 = .ok (.iload_n 3, 1) := by decide +kernel
theorem dX11_years_44 : decode cX11_years 44 = .ok (.ldc_w 414, 3) := by decide +kernel
theorem dX11_years_47 : decode cX11_years 47 = .ok (.imul, 1) := by decide +kernel
theorem dX11_years_48 : decode cX11_years 48 = .ok (.sipush 12345, 3) := by decide +kernel
theorem dX11_years_51 : decode cX11_years 51 = .ok (.iadd, 1) := by decide +kernel
theorem dX11_years_52 : decode cX11_years 52 = .ok (.istore_n 3, 1) := by decide +kernel
theorem dX11_years_53 : decode cX11_years 53 = .ok (.iload_n 3, 1) := by decide +kernel
theorem dX11_years_54 : decode cX11_years 54 = .ok (.bipush 16, 2) := by decide +kernel
theorem dX11_years_56 : decode cX11_years 56 = .ok (.iushr, 1) := by decide +kernel
theorem dX11_years_57 : decode cX11_years 57 = .ok (.bipush 10, 2) := by decide +kernel
theorem dX11_years_59 : decode cX11_years 59 = .ok (.irem, 1) := by decide +kernel
theorem dX11_years_60 : decode cX11_years 60 = .ok (.istore 8, 2) := by decide +kernel
theorem dX11_years_62 : decode cX11_years 62 = .ok (.aload_n 0, 1) := by decide +kernel
theorem dX11_years_63 : decode cX11_years 63 = .ok (.iload 8, 2) := by decide +kernel
theorem dX11_years_65 : decode cX11_years 65 = .ok (.aload_n 0, 1) := by decide +kernel
theorem dX11_years_66 : decode cX11_years 66 = .ok (.getfield 70, 3) := by decide +kernel
theorem dX11_years_69 : decode cX11_years 69 = .ok (.iload 8, 2) := by decide +kernel
theorem dX11_years_71 : decode cX11_years 71 = .ok (.invokevirtual 201, 3) := by decide +kernel
theorem dX11_years_74 : decode cX11_years 74 = .ok (.invokevirtual 245, 3) := by decide +kernel
theorem dX11_years_77 : decode cX11_years 77 = .ok (.istore 9, 2) := by decide +kernel
theorem dX11_years_79 : decode cX11_years 79 = .ok (.iload 9, 2) := by decide +kernel
theorem dX11_years_81 : decode cX11_years 81 = .ok (.ifCond .lt 30, 3) := by decide +kernel
theorem dX11_years_111 : decode cX11_years 111 = .ok (.aload_n 0, 1) := by decide +kernel
theorem dX11_years_112 : decode cX11_years 112 = .ok (.getfield 33, 3) := by decide +kernel
theorem dX11_years_115 : decode cX11_years 115 = .ok (.aload_n 0, 1) := by decide +kernel
theorem dX11_years_116 : decode cX11_years 116 = .ok (.getfield 26, 3) := by decide +kernel
theorem dX11_years_119 : decode cX11_years 119 = .ok (.invokevirtual 415, 3) := by decide +kernel
theorem dX11_years_122 : decode cX11_years 122 = .ok (.iinc 7 1, 3) := by decide +kernel
theorem dX11_years_125 : decode cX11_years 125 = .ok (.goto (-88), 3) := by decide +kernel
theorem dX11_years_128 : decode cX11_years 128 = .ok (.aload_n 0, 1) := by decide +kernel
theorem dX11_years_129 : decode cX11_years 129 = .ok (.getfield 40, 3) := by decide +kernel
theorem dX11_years_132 : decode cX11_years 132 = .ok (.aload_n 0, 1) := by decide +kernel
theorem dX11_years_133 : decode cX11_years 133 = .ok (.getfield 33, 3) := by decide +kernel
theorem dX11_years_136 : decode cX11_years 136 = .ok (.invokevirtual 419, 3) := by decide +kernel
theorem dX11_years_139 : decode cX11_years 139 = .ok (.aload_n 0, 1) := by decide +kernel
theorem dX11_years_140 : decode cX11_years 140 = .ok (.getfield 19, 3) := by decide +kernel
theorem dX11_years_143 : decode cX11_years 143 = .ok (.iload 5, 2) := by decide +kernel
theorem dX11_years_145 : decode cX11_years 145 = .ok (.iload 6, 2) := by decide +kernel
theorem dX11_years_147 : decode cX11_years 147 = .ok (.invokevirtual 280, 3) := by decide +kernel
theorem dX11_years_150 : decode cX11_years 150 = .ok (.iload 4, 2) := by decide +kernel
theorem dX11_years_152 : decode cX11_years 152 = .ok (.ireturn, 1) := by decide +kernel
abbrev YX11_years : li_Y := (yX11_years, cX11_years, 10, (some .int))
theorem dX11_keep_0 : decode cX11_keep 0 = .ok (.aload_n 0, 1) := by decide +kernel
theorem dX11_keep_1 : decode cX11_keep 1 = .ok (.getfield 40, 3) := by decide +kernel
theorem dX11_keep_4 : decode cX11_keep 4 = .ok (.iload_n 1, 1) := by decide +kernel
theorem dX11_keep_5 : decode cX11_keep 5 = .ok (.aload_n 0, 1) := by decide +kernel
theorem dX11_keep_6 : decode cX11_keep 6 = .ok (.getfield 33, 3) := by decide +kernel
theorem dX11_keep_9 : decode cX11_keep 9 = .ok (.invokevirtual 422, 3) := by decide +kernel
theorem dX11_keep_12 : decode cX11_keep 12 = .ok (.ireturn, 1) := by decide +kernel
abbrev YX11_keep : li_Y := (yX11_keep, cX11_keep, 2, (some .boolean))
theorem dX11_again_0 : decode cX11_again 0 = .ok (.aload_n 0, 1) := by decide +kernel
theorem dX11_again_1 : decode cX11_again 1 = .ok (.getfield 40, 3) := by decide +kernel
theorem dX11_again_4 : decode cX11_again 4 = .ok (.iload_n 1, 1) := by decide +kernel
theorem dX11_again_5 : decode cX11_again 5 = .ok (.aload_n 0, 1) := by decide +kernel
theorem dX11_again_6 : decode cX11_again 6 = .ok (.getfield 33, 3) := by decide +kernel
theorem dX11_again_9 : decode cX11_again 9 = .ok (.invokevirtual 426, 3) := by decide +kernel
theorem dX11_again_12 : decode cX11_again 12 = .ok (.ireturn, 1) := by decide +kernel
abbrev YX11_again : li_Y := (yX11_again, cX11_again, 2, (some .boolean))
theorem dX11_count_0 : decode cX11_count 0 = .ok (.iload_n 1, 1) := by decide +kernel
theorem dX11_count_1 : decode cX11_count 1 = .ok (.tableswitch 166 0 11 #[63, 71, 79, 87, 95, 103, 111, 126, 134, 142, 150, 158], 63) := by decide +kernel
theorem dX11_count_64 : decode cX11_count 64 = .ok (.aload_n 0, 1) := by decide +kernel
theorem dX11_count_65 : decode cX11_count 65 = .ok (.getfield 26, 3) := by decide +kernel
theorem dX11_count_68 : decode cX11_count 68 = .ok (.getfield 104, 3) := by decide +kernel
theorem dX11_count_71 : decode cX11_count 71 = .ok (.ireturn, 1) := by decide +kernel
theorem dX11_count_72 : decode cX11_count 72 = .ok (.aload_n 0, 1) := by decide +kernel
theorem dX11_count_73 : decode cX11_count 73 = .ok (.getfield 26, 3) := by decide +kernel
theorem dX11_count_76 : decode cX11_count 76 = .ok (.getfield 118, 3) := by decide +kernel
theorem dX11_count_79 : decode cX11_count 79 = .ok (.ireturn, 1) := by decide +kernel
theorem dX11_count_80 : decode cX11_count 80 = .ok (.aload_n 0, 1) := by decide +kernel
theorem dX11_count_81 : decode cX11_count 81 = .ok (.getfield 33, 3) := by decide +kernel
theorem dX11_count_84 : decode cX11_count 84 = .ok (.getfield 257, 3) := by decide +kernel
theorem dX11_count_87 : decode cX11_count 87 = .ok (.ireturn, 1) := by decide +kernel
theorem dX11_count_88 : decode cX11_count 88 = .ok (.aload_n 0, 1) := by decide +kernel
theorem dX11_count_89 : decode cX11_count 89 = .ok (.getfield 33, 3) := by decide +kernel
theorem dX11_count_92 : decode cX11_count 92 = .ok (.getfield 204, 3) := by decide +kernel
theorem dX11_count_95 : decode cX11_count 95 = .ok (.ireturn, 1) := by decide +kernel
theorem dX11_count_96 : decode cX11_count 96 = .ok (.aload_n 0, 1) := by decide +kernel
theorem dX11_count_97 : decode cX11_count 97 = .ok (.getfield 33, 3) := by decide +kernel
theorem dX11_count_100 : decode cX11_count 100 = .ok (.getfield 190, 3) := by decide +kernel
theorem dX11_count_103 : decode cX11_count 103 = .ok (.ireturn, 1) := by decide +kernel
theorem dX11_count_104 : decode cX11_count 104 = .ok (.aload_n 0, 1) := by decide +kernel
theorem dX11_count_105 : decode cX11_count 105 = .ok (.getfield 70, 3) := by decide +kernel
theorem dX11_count_108 : decode cX11_count 108 = .ok (.invokevirtual 330, 3) := by decide +kernel
theorem dX11_count_111 : decode cX11_count 111 = .ok (.ireturn, 1) := by decide +kernel
theorem dX11_count_112 : decode cX11_count 112 = .ok (.aload_n 0, 1) := by decide +kernel
theorem dX11_count_113 : decode cX11_count 113 = .ok (.getfield 33, 3) := by decide +kernel
theorem dX11_count_116 : decode cX11_count 116 = .ok (.aload_n 0, 1) := by decide +kernel
theorem dX11_count_117 : decode cX11_count 117 = .ok (.getfield 26, 3) := by decide +kernel
theorem dX11_count_120 : decode cX11_count 120 = .ok (.getfield 104, 3) := by decide +kernel
theorem dX11_count_123 : decode cX11_count 123 = .ok (.invokevirtual 232, 3) := by decide +kernel
theorem dX11_count_126 : decode cX11_count 126 = .ok (.ireturn, 1) := by decide +kernel
theorem dX11_count_127 : decode cX11_count 127 = .ok (.aload_n 0, 1) := by decide +kernel
theorem dX11_count_128 : decode cX11_count 128 = .ok (.getfield 57, 3) := by decide +kernel
theorem dX11_count_131 : decode cX11_count 131 = .ok (.getfield 429, 3) := by decide +kernel
theorem dX11_count_134 : decode cX11_count 134 = .ok (.ireturn, 1) := by decide +kernel
theorem dX11_count_135 : decode cX11_count 135 = .ok (.aload_n 0, 1) := by decide +kernel
theorem dX11_count_136 : decode cX11_count 136 = .ok (.getfield 89, 3) := by decide +kernel
theorem dX11_count_139 : decode cX11_count 139 = .ok (.getfield 386, 3) := by decide +kernel
theorem dX11_count_142 : decode cX11_count 142 = .ok (.ireturn, 1) := by decide +kernel
theorem dX11_count_143 : decode cX11_count 143 = .ok (.aload_n 0, 1) := by decide +kernel
theorem dX11_count_144 : decode cX11_count 144 = .ok (.getfield 40, 3) := by decide +kernel
theorem dX11_count_147 : decode cX11_count 147 = .ok (.getfield 297, 3) := by decide +kernel
theorem dX11_count_150 : decode cX11_count 150 = .ok (.ireturn, 1) := by decide +kernel
theorem dX11_count_151 : decode cX11_count 151 = .ok (.aload_n 0, 1) := by decide +kernel
theorem dX11_count_152 : decode cX11_count 152 = .ok (.getfield 19, 3) := by decide +kernel
theorem dX11_count_155 : decode cX11_count 155 = .ok (.getfield 432, 3) := by decide +kernel
theorem dX11_count_158 : decode cX11_count 158 = .ok (.ireturn, 1) := by decide +kernel
theorem dX11_count_159 : decode cX11_count 159 = .ok (.aload_n 0, 1) := by decide +kernel
theorem dX11_count_160 : decode cX11_count 160 = .ok (.getfield 12, 3) := by decide +kernel
theorem dX11_count_163 : decode cX11_count 163 = .ok (.getfield 97, 3) := by decide +kernel
theorem dX11_count_166 : decode cX11_count 166 = .ok (.ireturn, 1) := by decide +kernel
theorem dX11_count_167 : decode cX11_count 167 = .ok (.iconst (-1), 1) := by decide +kernel
theorem dX11_count_168 : decode cX11_count 168 = .ok (.ireturn, 1) := by decide +kernel
abbrev YX11_count : li_Y := (yX11_count, cX11_count, 2, (some .int))
theorem dX11_debate_0 : decode cX11_debate 0 = .ok (.iload_n 1, 1) := by decide +kernel
theorem dX11_debate_1 : decode cX11_debate 1 = .ok (.iconst 0, 1) := by decide +kernel
theorem dX11_debate_2 : decode cX11_debate 2 = .ok (.bipush 60, 2) := by decide +kernel
theorem dX11_debate_4 : decode cX11_debate 4 = .ok (.invokestatic 128, 3) := by decide +kernel
theorem dX11_debate_7 : decode cX11_debate 7 = .ok (.ifCond .eq 23, 3) := by decide +kernel
theorem dX11_debate_10 : decode cX11_debate 10 = .ok (.iload_n 2, 1) := by decide +kernel
theorem dX11_debate_11 : decode cX11_debate 11 = .ok (.iconst 0, 1) := by decide +kernel
theorem dX11_debate_12 : decode cX11_debate 12 = .ok (.bipush 60, 2) := by decide +kernel
theorem dX11_debate_14 : decode cX11_debate 14 = .ok (.invokestatic 128, 3) := by decide +kernel
theorem dX11_debate_17 : decode cX11_debate 17 = .ok (.ifCond .eq 13, 3) := by decide +kernel
theorem dX11_debate_20 : decode cX11_debate 20 = .ok (.iload_n 3, 1) := by decide +kernel
theorem dX11_debate_21 : decode cX11_debate 21 = .ok (.iconst 1, 1) := by decide +kernel
theorem dX11_debate_22 : decode cX11_debate 22 = .ok (.bipush 9, 2) := by decide +kernel
theorem dX11_debate_24 : decode cX11_debate 24 = .ok (.invokestatic 128, 3) := by decide +kernel
theorem dX11_debate_27 : decode cX11_debate 27 = .ok (.ifCond .ne 5, 3) := by decide +kernel
theorem dX11_debate_30 : decode cX11_debate 30 = .ok (.iconst (-1), 1) := by decide +kernel
theorem dX11_debate_31 : decode cX11_debate 31 = .ok (.ireturn, 1) := by decide +kernel
theorem dX11_debate_32 : decode cX11_debate 32 = .ok (.iload_n 1, 1) := by decide +kernel
theorem dX11_debate_33 : decode cX11_debate 33 = .ok (.iload_n 2, 1) := by decide +kernel
theorem dX11_debate_34 : decode cX11_debate 34 = .ok (.if_icmp .le 7, 3) := by decide +kernel
theorem dX11_debate_37 : decode cX11_debate 37 = .ok (.iconst 1, 1) := by decide +kernel
theorem dX11_debate_38 : decode cX11_debate 38 = .ok (.goto 4, 3) := by decide +kernel
theorem dX11_debate_41 : decode cX11_debate 41 = .ok (.iconst 0, 1) := by decide +kernel
theorem dX11_debate_42 : decode cX11_debate 42 = .ok (.istore 4, 2) := by decide +kernel
theorem dX11_debate_44 : decode cX11_debate 44 = .ok (.aload_n 0, 1) := by decide +kernel
theorem dX11_debate_45 : decode cX11_debate 45 = .ok (.getfield 19, 3) := by decide +kernel
theorem dX11_debate_48 : decode cX11_debate 48 = .ok (.iload 4, 2) := by decide +kernel
theorem dX11_debate_50 : decode cX11_debate 50 = .ok (.invokevirtual 342, 3) := by decide +kernel
theorem dX11_debate_53 : decode cX11_debate 53 = .ok (.iload 4, 2) := by decide +kernel
theorem dX11_debate_55 : decode cX11_debate 55 = .ok (.ireturn, 1) := by decide +kernel
abbrev YX11_debate : li_Y := (yX11_debate, cX11_debate, 5, (some .int))
theorem dX11_enough_0 : decode cX11_enough 0 = .ok (.iload_n 1, 1) := by decide +kernel
theorem dX11_enough_1 : decode cX11_enough 1 = .ok (.iconst 0, 1) := by decide +kernel
theorem dX11_enough_2 : decode cX11_enough 2 = .ok (.bipush 60, 2) := by decide +kernel
theorem dX11_enough_4 : decode cX11_enough 4 = .ok (.invokestatic 128, 3) := by decide +kernel
theorem dX11_enough_7 : decode cX11_enough 7 = .ok (.ifCond .eq 13, 3) := by decide +kernel
theorem dX11_enough_10 : decode cX11_enough 10 = .ok (.iload_n 2, 1) := by decide +kernel
theorem dX11_enough_11 : decode cX11_enough 11 = .ok (.iconst 1, 1) := by decide +kernel
theorem dX11_enough_12 : decode cX11_enough 12 = .ok (.bipush 9, 2) := by decide +kernel
theorem dX11_enough_14 : decode cX11_enough 14 = .ok (.invokestatic 128, 3) := by decide +kernel
theorem dX11_enough_17 : decode cX11_enough 17 = .ok (.ifCond .ne 5, 3) := by decide +kernel
theorem dX11_enough_20 : decode cX11_enough 20 = .ok (.iconst (-1), 1) := by decide +kernel
theorem dX11_enough_21 : decode cX11_enough 21 = .ok (.ireturn, 1) := by decide +kernel
theorem dX11_enough_22 : decode cX11_enough 22 = .ok (.iload_n 1, 1) := by decide +kernel
theorem dX11_enough_23 : decode cX11_enough 23 = .ok (.bipush 60, 2) := by decide +kernel
theorem dX11_enough_25 : decode cX11_enough 25 = .ok (.if_icmp .ge 9, 3) := by decide +kernel
theorem dX11_enough_28 : decode cX11_enough 28 = .ok (.iload_n 1, 1) := by decide +kernel
theorem dX11_enough_29 : decode cX11_enough 29 = .ok (.iconst 1, 1) := by decide +kernel
theorem dX11_enough_30 : decode cX11_enough 30 = .ok (.iadd, 1) := by decide +kernel
theorem dX11_enough_31 : decode cX11_enough 31 = .ok (.goto 5, 3) := by decide +kernel
theorem dX11_enough_34 : decode cX11_enough 34 = .ok (.bipush (-2), 2) := by decide +kernel
theorem dX11_enough_36 : decode cX11_enough 36 = .ok (.ireturn, 1) := by decide +kernel
abbrev YX11_enough : li_Y := (yX11_enough, cX11_enough, 3, (some .int))
