theorem w_19 : (Jvm.Cond.selects "ClockForTalk$Ledger" ({ cls := "ClockForTalk$Ledger", name := "addTenths", desc := "()V" } : Jvm.MethodName) ({ cls := "ClockForTalk$Ledger", name := "addTenths", desc := "()V" } : Jvm.MethodName)) ∈ li_ws := li_mem 19 (by decide +kernel) (by decide +kernel)
theorem w_20 : (Jvm.Cond.selects "ClockForTalk$Ledger" ({ cls := "ClockForTalk$Ledger", name := "settle", desc := "(I)V" } : Jvm.MethodName) ({ cls := "ClockForTalk$Ledger", name := "settle", desc := "(I)V" } : Jvm.MethodName)) ∈ li_ws := li_mem 20 (by decide +kernel) (by decide +kernel)
theorem w_21 : (Jvm.Cond.selects "ClockForTalk$Ledger" ({ cls := "ClockForTalk$Ledger", name := "beginYear", desc := "(LClockForTalk$Town;)V" } : Jvm.MethodName) ({ cls := "ClockForTalk$Ledger", name := "beginYear", desc := "(LClockForTalk$Town;)V" } : Jvm.MethodName)) ∈ li_ws := li_mem 21 (by decide +kernel) (by decide +kernel)
theorem w_40 : (Jvm.Cond.selects "ClockForTalk$Ledger" ({ cls := "ClockForTalk$Ledger", name := "isStruckBy", desc := "(II)Z" } : Jvm.MethodName) ({ cls := "ClockForTalk$Ledger", name := "isStruckBy", desc := "(II)Z" } : Jvm.MethodName)) ∈ li_ws := li_mem 40 (by decide +kernel) (by decide +kernel)
theorem w_105 : (Jvm.Cond.initialized "ClockForTalk$Ledger") ∈ li_ws := li_mem 105 (by decide +kernel) (by decide +kernel)
theorem w_123 : (Jvm.Cond.initialized "java/lang/Integer") ∈ li_ws := li_mem 123 (by decide +kernel) (by decide +kernel)
theorem w_176 : (Jvm.Cond.fieldLink "ClockForTalk$Ledger" (53 : Nat) "ClockForTalk$Town" "persons" "I") ∈ li_ws := li_mem 176 (by decide +kernel) (by decide +kernel)
theorem w_186 : (Jvm.Cond.fieldLink "ClockForTalk$Ledger" (58 : Nat) "ClockForTalk$Town" "yearly" "[I") ∈ li_ws := li_mem 186 (by decide +kernel) (by decide +kernel)
theorem w_198 : (Jvm.Cond.fieldLink "ClockForTalk$Ledger" (69 : Nat) "ClockForTalk$Town" "by" "[I") ∈ li_ws := li_mem 198 (by decide +kernel) (by decide +kernel)
theorem w_229 : (Jvm.Cond.fieldLink "ClockForTalk$Ledger" (34 : Nat) "ClockForTalk$Ledger" "day" "I") ∈ li_ws := li_mem 229 (by decide +kernel) (by decide +kernel)
theorem w_232 : (Jvm.Cond.fieldLink "ClockForTalk$Ledger" (38 : Nat) "ClockForTalk$Ledger" "said" "I") ∈ li_ws := li_mem 232 (by decide +kernel) (by decide +kernel)
theorem w_235 : (Jvm.Cond.fieldLink "ClockForTalk$Ledger" (41 : Nat) "ClockForTalk$Ledger" "loans" "I") ∈ li_ws := li_mem 235 (by decide +kernel) (by decide +kernel)
theorem w_237 : (Jvm.Cond.fieldLink "ClockForTalk$Ledger" (44 : Nat) "ClockForTalk$Ledger" "ended" "I") ∈ li_ws := li_mem 237 (by decide +kernel) (by decide +kernel)
theorem w_239 : (Jvm.Cond.fieldLink "ClockForTalk$Ledger" (9 : Nat) "ClockForTalk$Ledger" "clocks" "[I") ∈ li_ws := li_mem 239 (by decide +kernel) (by decide +kernel)
theorem w_244 : (Jvm.Cond.fieldLink "ClockForTalk$Ledger" (15 : Nat) "ClockForTalk$Ledger" "spent" "[I") ∈ li_ws := li_mem 244 (by decide +kernel) (by decide +kernel)
theorem w_246 : (Jvm.Cond.fieldLink "ClockForTalk$Ledger" (18 : Nat) "ClockForTalk$Ledger" "losses" "[J") ∈ li_ws := li_mem 246 (by decide +kernel) (by decide +kernel)
theorem w_248 : (Jvm.Cond.fieldLink "ClockForTalk$Ledger" (22 : Nat) "ClockForTalk$Ledger" "lenders" "[I") ∈ li_ws := li_mem 248 (by decide +kernel) (by decide +kernel)
theorem w_250 : (Jvm.Cond.fieldLink "ClockForTalk$Ledger" (25 : Nat) "ClockForTalk$Ledger" "debtors" "[I") ∈ li_ws := li_mem 250 (by decide +kernel) (by decide +kernel)
theorem w_252 : (Jvm.Cond.fieldLink "ClockForTalk$Ledger" (28 : Nat) "ClockForTalk$Ledger" "due" "[I") ∈ li_ws := li_mem 252 (by decide +kernel) (by decide +kernel)
theorem w_254 : (Jvm.Cond.fieldLink "ClockForTalk$Ledger" (31 : Nat) "ClockForTalk$Ledger" "owed" "[J") ∈ li_ws := li_mem 254 (by decide +kernel) (by decide +kernel)
theorem w_822 : (Jvm.Cond.static ({ cls := "java/lang/Integer", name := "bitCount", desc := "(I)I" } : Jvm.MethodName)) ∈ li_ws := li_mem 822 (by decide +kernel) (by decide +kernel)
theorem w_823 : (Jvm.Cond.code ({ cls := "java/lang/Integer", name := "bitCount", desc := "(I)I" } : Jvm.MethodName) prog_18_method_49_code (1 : Nat) (Option.some Jvm.ClassFile.FieldType.int)) ∈ li_ws := li_mem 823 (by decide +kernel) (by decide +kernel)
theorem w_857 : (Jvm.Cond.static ({ cls := "ClockForTalk", name := "holds", desc := "(II)Z" } : Jvm.MethodName)) ∈ li_ws := li_mem 857 (by decide +kernel) (by decide +kernel)
theorem w_858 : (Jvm.Cond.code ({ cls := "ClockForTalk", name := "holds", desc := "(II)Z" } : Jvm.MethodName) prog_1_method_63_code (2 : Nat) (Option.some Jvm.ClassFile.FieldType.boolean)) ∈ li_ws := li_mem 858 (by decide +kernel) (by decide +kernel)
theorem w_890 : (Jvm.Cond.instanceMethod ({ cls := "ClockForTalk$Ledger", name := "carry", desc := "(III)V" } : Jvm.MethodName)) ∈ li_ws := li_mem 890 (by decide +kernel) (by decide +kernel)
theorem w_891 : (Jvm.Cond.selects "ClockForTalk$Ledger" ({ cls := "ClockForTalk$Ledger", name := "carry", desc := "(III)V" } : Jvm.MethodName) ({ cls := "ClockForTalk$Ledger", name := "carry", desc := "(III)V" } : Jvm.MethodName)) ∈ li_ws := li_mem 891 (by decide +kernel) (by decide +kernel)
theorem w_892 : (Jvm.Cond.code ({ cls := "ClockForTalk$Ledger", name := "carry", desc := "(III)V" } : Jvm.MethodName) prog_5_method_7_code (4 : Nat) (Option.none : Option Jvm.ClassFile.FieldType)) ∈ li_ws := li_mem 892 (by decide +kernel) (by decide +kernel)
theorem w_893 : (Jvm.Cond.methodLink "ClockForTalk$Ledger" (72 : Nat) ({ cls := "java/lang/Math", name := "min", desc := "(II)I" } : Jvm.MethodName)) ∈ li_ws := li_mem 893 (by decide +kernel) (by decide +kernel)
theorem w_903 : (Jvm.Cond.static ({ cls := "ClockForTalk", name := "putWord", desc := "([JIJ)V" } : Jvm.MethodName)) ∈ li_ws := li_mem 903 (by decide +kernel) (by decide +kernel)
theorem w_904 : (Jvm.Cond.code ({ cls := "ClockForTalk", name := "putWord", desc := "([JIJ)V" } : Jvm.MethodName) prog_1_method_60_code (4 : Nat) (Option.none : Option Jvm.ClassFile.FieldType)) ∈ li_ws := li_mem 904 (by decide +kernel) (by decide +kernel)
theorem w_913 : (Jvm.Cond.methodLink "ClockForTalk$Ledger" (102 : Nat) ({ cls := "java/lang/Integer", name := "bitCount", desc := "(I)I" } : Jvm.MethodName)) ∈ li_ws := li_mem 913 (by decide +kernel) (by decide +kernel)
theorem w_919 : (Jvm.Cond.static ({ cls := "ClockForTalk", name := "wordAt", desc := "([JI)J" } : Jvm.MethodName)) ∈ li_ws := li_mem 919 (by decide +kernel) (by decide +kernel)
theorem w_920 : (Jvm.Cond.code ({ cls := "ClockForTalk", name := "wordAt", desc := "([JI)J" } : Jvm.MethodName) prog_1_method_59_code (2 : Nat) (Option.some Jvm.ClassFile.FieldType.long)) ∈ li_ws := li_mem 920 (by decide +kernel) (by decide +kernel)
theorem w_929 : (Jvm.Cond.methodLink "ClockForTalk$Ledger" (108 : Nat) ({ cls := "ClockForTalk$Ledger", name := "addTenths", desc := "()V" } : Jvm.MethodName)) ∈ li_ws := li_mem 929 (by decide +kernel) (by decide +kernel)
theorem w_931 : (Jvm.Cond.instanceMethod ({ cls := "ClockForTalk$Ledger", name := "addTenths", desc := "()V" } : Jvm.MethodName)) ∈ li_ws := li_mem 931 (by decide +kernel) (by decide +kernel)
theorem w_932 : (Jvm.Cond.code ({ cls := "ClockForTalk$Ledger", name := "addTenths", desc := "()V" } : Jvm.MethodName) prog_5_method_17_code (2 : Nat) (Option.none : Option Jvm.ClassFile.FieldType)) ∈ li_ws := li_mem 932 (by decide +kernel) (by decide +kernel)
theorem w_933 : (Jvm.Cond.methodLink "ClockForTalk$Ledger" (90 : Nat) ({ cls := "ClockForTalk$Ledger", name := "isOpen", desc := "(I)Z" } : Jvm.MethodName)) ∈ li_ws := li_mem 933 (by decide +kernel) (by decide +kernel)
theorem w_934 : (Jvm.Cond.instanceMethod ({ cls := "ClockForTalk$Ledger", name := "isOpen", desc := "(I)Z" } : Jvm.MethodName)) ∈ li_ws := li_mem 934 (by decide +kernel) (by decide +kernel)
theorem w_935 : (Jvm.Cond.selects "ClockForTalk$Ledger" ({ cls := "ClockForTalk$Ledger", name := "isOpen", desc := "(I)Z" } : Jvm.MethodName) ({ cls := "ClockForTalk$Ledger", name := "isOpen", desc := "(I)Z" } : Jvm.MethodName)) ∈ li_ws := li_mem 935 (by decide +kernel) (by decide +kernel)
theorem w_936 : (Jvm.Cond.code ({ cls := "ClockForTalk$Ledger", name := "isOpen", desc := "(I)Z" } : Jvm.MethodName) prog_5_method_9_code (2 : Nat) (Option.some Jvm.ClassFile.FieldType.boolean)) ∈ li_ws := li_mem 936 (by decide +kernel) (by decide +kernel)
theorem w_938 : (Jvm.Cond.constantLong "ClockForTalk$Ledger" (119 : Nat) (10 : Int64)) ∈ li_ws := li_mem 938 (by decide +kernel) (by decide +kernel)
theorem w_939 : (Jvm.Cond.methodLink "ClockForTalk$Ledger" (111 : Nat) ({ cls := "ClockForTalk$Ledger", name := "settle", desc := "(I)V" } : Jvm.MethodName)) ∈ li_ws := li_mem 939 (by decide +kernel) (by decide +kernel)
theorem w_941 : (Jvm.Cond.instanceMethod ({ cls := "ClockForTalk$Ledger", name := "settle", desc := "(I)V" } : Jvm.MethodName)) ∈ li_ws := li_mem 941 (by decide +kernel) (by decide +kernel)
theorem w_942 : (Jvm.Cond.code ({ cls := "ClockForTalk$Ledger", name := "settle", desc := "(I)V" } : Jvm.MethodName) prog_5_method_18_code (5 : Nat) (Option.none : Option Jvm.ClassFile.FieldType)) ∈ li_ws := li_mem 942 (by decide +kernel) (by decide +kernel)
theorem w_943 : (Jvm.Cond.methodLink "ClockForTalk$Ledger" (121 : Nat) ({ cls := "java/lang/Math", name := "min", desc := "(JJ)J" } : Jvm.MethodName)) ∈ li_ws := li_mem 943 (by decide +kernel) (by decide +kernel)
theorem w_944 : (Jvm.Cond.static ({ cls := "java/lang/Math", name := "min", desc := "(JJ)J" } : Jvm.MethodName)) ∈ li_ws := li_mem 944 (by decide +kernel) (by decide +kernel)
theorem w_945 : (Jvm.Cond.code ({ cls := "java/lang/Math", name := "min", desc := "(JJ)J" } : Jvm.MethodName) prog_19_method_70_code (4 : Nat) (Option.some Jvm.ClassFile.FieldType.long)) ∈ li_ws := li_mem 945 (by decide +kernel) (by decide +kernel)
theorem w_946 : (Jvm.Cond.methodLink "ClockForTalk$Ledger" (124 : Nat) ({ cls := "ClockForTalk$Ledger", name := "carry", desc := "(III)V" } : Jvm.MethodName)) ∈ li_ws := li_mem 946 (by decide +kernel) (by decide +kernel)
theorem w_947 : (Jvm.Cond.methodLink "ClockForTalk$Ledger" (115 : Nat) ({ cls := "ClockForTalk$Ledger", name := "beginYear", desc := "(LClockForTalk$Town;)V" } : Jvm.MethodName)) ∈ li_ws := li_mem 947 (by decide +kernel) (by decide +kernel)
theorem w_949 : (Jvm.Cond.instanceMethod ({ cls := "ClockForTalk$Ledger", name := "beginYear", desc := "(LClockForTalk$Town;)V" } : Jvm.MethodName)) ∈ li_ws := li_mem 949 (by decide +kernel) (by decide +kernel)
theorem w_950 : (Jvm.Cond.code ({ cls := "ClockForTalk$Ledger", name := "beginYear", desc := "(LClockForTalk$Town;)V" } : Jvm.MethodName) prog_5_method_19_code (3 : Nat) (Option.none : Option Jvm.ClassFile.FieldType)) ∈ li_ws := li_mem 950 (by decide +kernel) (by decide +kernel)
theorem w_1244 : (Jvm.Cond.methodLink "ClockForTalk$Ledger" (128 : Nat) ({ cls := "ClockForTalk$Ledger", name := "owedBy", desc := "(I)J" } : Jvm.MethodName)) ∈ li_ws := li_mem 1244 (by decide +kernel) (by decide +kernel)
theorem w_1245 : (Jvm.Cond.instanceMethod ({ cls := "ClockForTalk$Ledger", name := "owedBy", desc := "(I)J" } : Jvm.MethodName)) ∈ li_ws := li_mem 1245 (by decide +kernel) (by decide +kernel)
theorem w_1246 : (Jvm.Cond.selects "ClockForTalk$Ledger" ({ cls := "ClockForTalk$Ledger", name := "owedBy", desc := "(I)J" } : Jvm.MethodName) ({ cls := "ClockForTalk$Ledger", name := "owedBy", desc := "(I)J" } : Jvm.MethodName)) ∈ li_ws := li_mem 1246 (by decide +kernel) (by decide +kernel)
theorem w_1247 : (Jvm.Cond.code ({ cls := "ClockForTalk$Ledger", name := "owedBy", desc := "(I)J" } : Jvm.MethodName) prog_5_method_10_code (2 : Nat) (Option.some Jvm.ClassFile.FieldType.long)) ∈ li_ws := li_mem 1247 (by decide +kernel) (by decide +kernel)
theorem w_1248 : (Jvm.Cond.methodLink "ClockForTalk$Ledger" (86 : Nat) ({ cls := "ClockForTalk$Ledger", name := "owedByAll", desc := "(I)J" } : Jvm.MethodName)) ∈ li_ws := li_mem 1248 (by decide +kernel) (by decide +kernel)
theorem w_1249 : (Jvm.Cond.instanceMethod ({ cls := "ClockForTalk$Ledger", name := "owedByAll", desc := "(I)J" } : Jvm.MethodName)) ∈ li_ws := li_mem 1249 (by decide +kernel) (by decide +kernel)
theorem w_1250 : (Jvm.Cond.selects "ClockForTalk$Ledger" ({ cls := "ClockForTalk$Ledger", name := "owedByAll", desc := "(I)J" } : Jvm.MethodName) ({ cls := "ClockForTalk$Ledger", name := "owedByAll", desc := "(I)J" } : Jvm.MethodName)) ∈ li_ws := li_mem 1250 (by decide +kernel) (by decide +kernel)
theorem w_1251 : (Jvm.Cond.code ({ cls := "ClockForTalk$Ledger", name := "owedByAll", desc := "(I)J" } : Jvm.MethodName) prog_5_method_11_code (5 : Nat) (Option.some Jvm.ClassFile.FieldType.long)) ∈ li_ws := li_mem 1251 (by decide +kernel) (by decide +kernel)
theorem w_1252 : (Jvm.Cond.methodLink "ClockForTalk$Ledger" (131 : Nat) ({ cls := "ClockForTalk$Ledger", name := "isStruckBy", desc := "(II)Z" } : Jvm.MethodName)) ∈ li_ws := li_mem 1252 (by decide +kernel) (by decide +kernel)
theorem w_1254 : (Jvm.Cond.instanceMethod ({ cls := "ClockForTalk$Ledger", name := "isStruckBy", desc := "(II)Z" } : Jvm.MethodName)) ∈ li_ws := li_mem 1254 (by decide +kernel) (by decide +kernel)
theorem w_1255 : (Jvm.Cond.code ({ cls := "ClockForTalk$Ledger", name := "isStruckBy", desc := "(II)Z" } : Jvm.MethodName) prog_5_method_21_code (5 : Nat) (Option.some Jvm.ClassFile.FieldType.boolean)) ∈ li_ws := li_mem 1255 (by decide +kernel) (by decide +kernel)
theorem w_1256 : (Jvm.Cond.methodLink "ClockForTalk$Ledger" (98 : Nat) ({ cls := "ClockForTalk$Ledger", name := "owedToBut", desc := "(II)J" } : Jvm.MethodName)) ∈ li_ws := li_mem 1256 (by decide +kernel) (by decide +kernel)
theorem w_1257 : (Jvm.Cond.instanceMethod ({ cls := "ClockForTalk$Ledger", name := "owedToBut", desc := "(II)J" } : Jvm.MethodName)) ∈ li_ws := li_mem 1257 (by decide +kernel) (by decide +kernel)
theorem w_1258 : (Jvm.Cond.selects "ClockForTalk$Ledger" ({ cls := "ClockForTalk$Ledger", name := "owedToBut", desc := "(II)J" } : Jvm.MethodName) ({ cls := "ClockForTalk$Ledger", name := "owedToBut", desc := "(II)J" } : Jvm.MethodName)) ∈ li_ws := li_mem 1258 (by decide +kernel) (by decide +kernel)
theorem w_1259 : (Jvm.Cond.code ({ cls := "ClockForTalk$Ledger", name := "owedToBut", desc := "(II)J" } : Jvm.MethodName) prog_5_method_13_code (6 : Nat) (Option.some Jvm.ClassFile.FieldType.long)) ∈ li_ws := li_mem 1259 (by decide +kernel) (by decide +kernel)
theorem w_1260 : (Jvm.Cond.methodLink "ClockForTalk$Ledger" (134 : Nat) ({ cls := "ClockForTalk$Ledger", name := "owedTo", desc := "(I)J" } : Jvm.MethodName)) ∈ li_ws := li_mem 1260 (by decide +kernel) (by decide +kernel)
theorem w_1261 : (Jvm.Cond.instanceMethod ({ cls := "ClockForTalk$Ledger", name := "owedTo", desc := "(I)J" } : Jvm.MethodName)) ∈ li_ws := li_mem 1261 (by decide +kernel) (by decide +kernel)
theorem w_1262 : (Jvm.Cond.selects "ClockForTalk$Ledger" ({ cls := "ClockForTalk$Ledger", name := "owedTo", desc := "(I)J" } : Jvm.MethodName) ({ cls := "ClockForTalk$Ledger", name := "owedTo", desc := "(I)J" } : Jvm.MethodName)) ∈ li_ws := li_mem 1262 (by decide +kernel) (by decide +kernel)
theorem w_1263 : (Jvm.Cond.code ({ cls := "ClockForTalk$Ledger", name := "owedTo", desc := "(I)J" } : Jvm.MethodName) prog_5_method_12_code (2 : Nat) (Option.some Jvm.ClassFile.FieldType.long)) ∈ li_ws := li_mem 1263 (by decide +kernel) (by decide +kernel)
theorem dX4_welcome_0 : decode cX4_welcome 0 = .ok (.iconst 0, 1) := by decide +kernel
theorem dX4_welcome_1 : decode cX4_welcome 1 = .ok (.istore_n 3, 1) := by decide +kernel
theorem dX4_welcome_2 : decode cX4_welcome 2 = .ok (.iload_n 3, 1) := by decide +kernel
theorem dX4_welcome_3 : decode cX4_welcome 3 = .ok (.iload_n 2, 1) := by decide +kernel
theorem dX4_welcome_4 : decode cX4_welcome 4 = .ok (.if_icmp .ge 35, 3) := by decide +kernel
theorem dX4_welcome_7 : decode cX4_welcome 7 = .ok (.aload_n 1, 1) := by decide +kernel
theorem dX4_welcome_8 : decode cX4_welcome 8 = .ok (.getfield 53, 3) := by decide +kernel
theorem dX4_welcome_11 : decode cX4_welcome 11 = .ok (.iload_n 3, 1) := by decide +kernel
theorem dX4_welcome_12 : decode cX4_welcome 12 = .ok (.iadd, 1) := by decide +kernel
theorem dX4_welcome_13 : decode cX4_welcome 13 = .ok (.istore 4, 2) := by decide +kernel
theorem dX4_welcome_15 : decode cX4_welcome 15 = .ok (.aload_n 0, 1) := by decide +kernel
theorem dX4_welcome_16 : decode cX4_welcome 16 = .ok (.getfield 9, 3) := by decide +kernel
theorem dX4_welcome_19 : decode cX4_welcome 19 = .ok (.iload 4, 2) := by decide +kernel
theorem dX4_welcome_21 : decode cX4_welcome 21 = .ok (.aload_n 1, 1) := by decide +kernel
theorem dX4_welcome_22 : decode cX4_welcome 22 = .ok (.getfield 58, 3) := by decide +kernel
theorem dX4_welcome_25 : decode cX4_welcome 25 = .ok (.iload 4, 2) := by decide +kernel
theorem dX4_welcome_27 : decode cX4_welcome 27 = .ok (.invokestatic 61, 3) := by decide +kernel
theorem dX4_welcome_30 : decode cX4_welcome 30 = .ok (.invokestatic 65, 3) := by decide +kernel
theorem dX4_welcome_33 : decode cX4_welcome 33 = .ok (.iinc 3 1, 3) := by decide +kernel
theorem dX4_welcome_36 : decode cX4_welcome 36 = .ok (.goto (-34), 3) := by decide +kernel
theorem dX4_welcome_39 : decode cX4_welcome 39 = .ok (.return_, 1) := by decide +kernel
abbrev YX4_welcome : li_Y := (yX4_welcome, cX4_welcome, 5, none)
theorem dX4_allClocks_0 : decode cX4_allClocks 0 = .ok (.iconst 0, 1) := by decide +kernel
theorem dX4_allClocks_1 : decode cX4_allClocks 1 = .ok (.istore_n 2, 1) := by decide +kernel
theorem dX4_allClocks_2 : decode cX4_allClocks 2 = .ok (.iconst 0, 1) := by decide +kernel
theorem dX4_allClocks_3 : decode cX4_allClocks 3 = .ok (.istore_n 3, 1) := by decide +kernel
theorem dX4_allClocks_4 : decode cX4_allClocks 4 = .ok (.iload_n 3, 1) := by decide +kernel
theorem dX4_allClocks_5 : decode cX4_allClocks 5 = .ok (.iload_n 1, 1) := by decide +kernel
theorem dX4_allClocks_6 : decode cX4_allClocks 6 = .ok (.if_icmp .ge 20, 3) := by decide +kernel
theorem dX4_allClocks_9 : decode cX4_allClocks 9 = .ok (.iload_n 2, 1) := by decide +kernel
theorem dX4_allClocks_10 : decode cX4_allClocks 10 = .ok (.aload_n 0, 1) := by decide +kernel
theorem dX4_allClocks_11 : decode cX4_allClocks 11 = .ok (.getfield 9, 3) := by decide +kernel
theorem dX4_allClocks_14 : decode cX4_allClocks 14 = .ok (.iload_n 3, 1) := by decide +kernel
theorem dX4_allClocks_15 : decode cX4_allClocks 15 = .ok (.invokestatic 61, 3) := by decide +kernel
theorem dX4_allClocks_18 : decode cX4_allClocks 18 = .ok (.iadd, 1) := by decide +kernel
theorem dX4_allClocks_19 : decode cX4_allClocks 19 = .ok (.istore_n 2, 1) := by decide +kernel
theorem dX4_allClocks_20 : decode cX4_allClocks 20 = .ok (.iinc 3 1, 3) := by decide +kernel
theorem dX4_allClocks_23 : decode cX4_allClocks 23 = .ok (.goto (-19), 3) := by decide +kernel
theorem dX4_allClocks_26 : decode cX4_allClocks 26 = .ok (.iload_n 2, 1) := by decide +kernel
theorem dX4_allClocks_27 : decode cX4_allClocks 27 = .ok (.ireturn, 1) := by decide +kernel
abbrev YX4_allClocks : li_Y := (yX4_allClocks, cX4_allClocks, 4, (some .int))
theorem dX4_isLate_0 : decode cX4_isLate 0 = .ok (.aload_n 1, 1) := by decide +kernel
theorem dX4_isLate_1 : decode cX4_isLate 1 = .ok (.getfield 69, 3) := by decide +kernel
theorem dX4_isLate_4 : decode cX4_isLate 4 = .ok (.iload_n 2, 1) := by decide +kernel
theorem dX4_isLate_5 : decode cX4_isLate 5 = .ok (.invokestatic 61, 3) := by decide +kernel
theorem dX4_isLate_8 : decode cX4_isLate 8 = .ok (.aload_n 0, 1) := by decide +kernel
theorem dX4_isLate_9 : decode cX4_isLate 9 = .ok (.getfield 34, 3) := by decide +kernel
theorem dX4_isLate_12 : decode cX4_isLate 12 = .ok (.bipush 100, 2) := by decide +kernel
theorem dX4_isLate_14 : decode cX4_isLate 14 = .ok (.irem, 1) := by decide +kernel
theorem dX4_isLate_15 : decode cX4_isLate 15 = .ok (.if_icmp .ge 7, 3) := by decide +kernel
theorem dX4_isLate_18 : decode cX4_isLate 18 = .ok (.iconst 1, 1) := by decide +kernel
theorem dX4_isLate_19 : decode cX4_isLate 19 = .ok (.goto 4, 3) := by decide +kernel
theorem dX4_isLate_22 : decode cX4_isLate 22 = .ok (.iconst 0, 1) := by decide +kernel
theorem dX4_isLate_23 : decode cX4_isLate 23 = .ok (.ireturn, 1) := by decide +kernel
abbrev YX4_isLate : li_Y := (yX4_isLate, cX4_isLate, 3, (some .boolean))
theorem dX4_spend_0 : decode cX4_spend 0 = .ok (.aload_n 0, 1) := by decide +kernel
theorem dX4_spend_1 : decode cX4_spend 1 = .ok (.getfield 9, 3) := by decide +kernel
theorem dX4_spend_4 : decode cX4_spend 4 = .ok (.iload_n 1, 1) := by decide +kernel
theorem dX4_spend_5 : decode cX4_spend 5 = .ok (.aload_n 0, 1) := by decide +kernel
theorem dX4_spend_6 : decode cX4_spend 6 = .ok (.getfield 9, 3) := by decide +kernel
theorem dX4_spend_9 : decode cX4_spend 9 = .ok (.iload_n 1, 1) := by decide +kernel
theorem dX4_spend_10 : decode cX4_spend 10 = .ok (.invokestatic 61, 3) := by decide +kernel
theorem dX4_spend_13 : decode cX4_spend 13 = .ok (.iload_n 2, 1) := by decide +kernel
theorem dX4_spend_14 : decode cX4_spend 14 = .ok (.isub, 1) := by decide +kernel
theorem dX4_spend_15 : decode cX4_spend 15 = .ok (.invokestatic 65, 3) := by decide +kernel
theorem dX4_spend_18 : decode cX4_spend 18 = .ok (.aload_n 0, 1) := by decide +kernel
theorem dX4_spend_19 : decode cX4_spend 19 = .ok (.getfield 15, 3) := by decide +kernel
theorem dX4_spend_22 : decode cX4_spend 22 = .ok (.iload_n 1, 1) := by decide +kernel
theorem dX4_spend_23 : decode cX4_spend 23 = .ok (.aload_n 0, 1) := by decide +kernel
theorem dX4_spend_24 : decode cX4_spend 24 = .ok (.getfield 15, 3) := by decide +kernel
theorem dX4_spend_27 : decode cX4_spend 27 = .ok (.iload_n 1, 1) := by decide +kernel
theorem dX4_spend_28 : decode cX4_spend 28 = .ok (.invokestatic 61, 3) := by decide +kernel
theorem dX4_spend_31 : decode cX4_spend 31 = .ok (.iload_n 2, 1) := by decide +kernel
theorem dX4_spend_32 : decode cX4_spend 32 = .ok (.iadd, 1) := by decide +kernel
theorem dX4_spend_33 : decode cX4_spend 33 = .ok (.invokestatic 65, 3) := by decide +kernel
theorem dX4_spend_36 : decode cX4_spend 36 = .ok (.return_, 1) := by decide +kernel
abbrev YX4_spend : li_Y := (yX4_spend, cX4_spend, 3, none)
theorem dX4_carry_0 : decode cX4_carry 0 = .ok (.aload_n 0, 1) := by decide +kernel
theorem dX4_carry_1 : decode cX4_carry 1 = .ok (.getfield 9, 3) := by decide +kernel
theorem dX4_carry_4 : decode cX4_carry 4 = .ok (.iload_n 1, 1) := by decide +kernel
theorem dX4_carry_5 : decode cX4_carry 5 = .ok (.aload_n 0, 1) := by decide +kernel
theorem dX4_carry_6 : decode cX4_carry 6 = .ok (.getfield 9, 3) := by decide +kernel
theorem dX4_carry_9 : decode cX4_carry 9 = .ok (.iload_n 1, 1) := by decide +kernel
theorem dX4_carry_10 : decode cX4_carry 10 = .ok (.invokestatic 61, 3) := by decide +kernel
theorem dX4_carry_13 : decode cX4_carry 13 = .ok (.iload_n 3, 1) := by decide +kernel
theorem dX4_carry_14 : decode cX4_carry 14 = .ok (.isub, 1) := by decide +kernel
theorem dX4_carry_15 : decode cX4_carry 15 = .ok (.invokestatic 65, 3) := by decide +kernel
theorem dX4_carry_18 : decode cX4_carry 18 = .ok (.aload_n 0, 1) := by decide +kernel
theorem dX4_carry_19 : decode cX4_carry 19 = .ok (.getfield 9, 3) := by decide +kernel
theorem dX4_carry_22 : decode cX4_carry 22 = .ok (.iload_n 2, 1) := by decide +kernel
theorem dX4_carry_23 : decode cX4_carry 23 = .ok (.aload_n 0, 1) := by decide +kernel
theorem dX4_carry_24 : decode cX4_carry 24 = .ok (.getfield 9, 3) := by decide +kernel
theorem dX4_carry_27 : decode cX4_carry 27 = .ok (.iload_n 2, 1) := by decide +kernel
theorem dX4_carry_28 : decode cX4_carry 28 = .ok (.invokestatic 61, 3) := by decide +kernel
theorem dX4_carry_31 : decode cX4_carry 31 = .ok (.iload_n 3, 1) := by decide +kernel
theorem dX4_carry_32 : decode cX4_carry 32 = .ok (.iadd, 1) := by decide +kernel
theorem dX4_carry_33 : decode cX4_carry 33 = .ok (.sipush 9999, 3) := by decide +kernel
theorem dX4_carry_36 : decode cX4_carry 36 = .ok (.invokestatic 72, 3) := by decide +kernel
theorem dX4_carry_39 : decode cX4_carry 39 = .ok (.invokestatic 65, 3) := by decide +kernel
theorem dX4_carry_42 : decode cX4_carry 42 = .ok (.return_, 1) := by decide +kernel
abbrev YX4_carry : li_Y := (yX4_carry, cX4_carry, 4, none)
theorem dX4_write_0 : decode cX4_write 0 = .ok (.aload_n 0, 1) := by decide +kernel
theorem dX4_write_1 : decode cX4_write 1 = .ok (.getfield 41, 3) := by decide +kernel
theorem dX4_write_4 : decode cX4_write 4 = .ok (.istore 5, 2) := by decide +kernel
theorem dX4_write_6 : decode cX4_write 6 = .ok (.aload_n 0, 1) := by decide +kernel
theorem dX4_write_7 : decode cX4_write 7 = .ok (.getfield 22, 3) := by decide +kernel
theorem dX4_write_10 : decode cX4_write 10 = .ok (.iload 5, 2) := by decide +kernel
theorem dX4_write_12 : decode cX4_write 12 = .ok (.iload_n 1, 1) := by decide +kernel
theorem dX4_write_13 : decode cX4_write 13 = .ok (.invokestatic 65, 3) := by decide +kernel
theorem dX4_write_16 : decode cX4_write 16 = .ok (.aload_n 0, 1) := by decide +kernel
theorem dX4_write_17 : decode cX4_write 17 = .ok (.getfield 25, 3) := by decide +kernel
theorem dX4_write_20 : decode cX4_write 20 = .ok (.iload 5, 2) := by decide +kernel
theorem dX4_write_22 : decode cX4_write 22 = .ok (.iload_n 2, 1) := by decide +kernel
theorem dX4_write_23 : decode cX4_write 23 = .ok (.invokestatic 65, 3) := by decide +kernel
theorem dX4_write_26 : decode cX4_write 26 = .ok (.aload_n 0, 1) := by decide +kernel
theorem dX4_write_27 : decode cX4_write 27 = .ok (.getfield 31, 3) := by decide +kernel
theorem dX4_write_30 : decode cX4_write 30 = .ok (.iload 5, 2) := by decide +kernel
theorem dX4_write_32 : decode cX4_write 32 = .ok (.iload_n 3, 1) := by decide +kernel
theorem dX4_write_33 : decode cX4_write 33 = .ok (.i2l, 1) := by decide +kernel
theorem dX4_write_34 : decode cX4_write 34 = .ok (.invokestatic 78, 3) := by decide +kernel
theorem dX4_write_37 : decode cX4_write 37 = .ok (.aload_n 0, 1) := by decide +kernel
theorem dX4_write_38 : decode cX4_write 38 = .ok (.getfield 28, 3) := by decide +kernel
theorem dX4_write_41 : decode cX4_write 41 = .ok (.iload 5, 2) := by decide +kernel
theorem dX4_write_43 : decode cX4_write 43 = .ok (.iload 4, 2) := by decide +kernel
theorem dX4_write_45 : decode cX4_write 45 = .ok (.invokestatic 65, 3) := by decide +kernel
theorem dX4_write_48 : decode cX4_write 48 = .ok (.aload_n 0, 1) := by decide +kernel
theorem dX4_write_49 : decode cX4_write 49 = .ok (.dup, 1) := by decide +kernel
theorem dX4_write_50 : decode cX4_write 50 = .ok (.getfield 41, 3) := by decide +kernel
theorem dX4_write_53 : decode cX4_write 53 = .ok (.iconst 1, 1) := by decide +kernel
theorem dX4_write_54 : decode cX4_write 54 = .ok (.iadd, 1) := by decide +kernel
theorem dX4_write_55 : decode cX4_write 55 = .ok (.putfield 41, 3) := by decide +kernel
theorem dX4_write_58 : decode cX4_write 58 = .ok (.iload 5, 2) := by decide +kernel
theorem dX4_write_60 : decode cX4_write 60 = .ok (.ireturn, 1) := by decide +kernel
abbrev YX4_write : li_Y := (yX4_write, cX4_write, 6, (some .int))
theorem dX4_isOpen_0 : decode cX4_isOpen 0 = .ok (.iload_n 1, 1) := by decide +kernel
theorem dX4_isOpen_1 : decode cX4_isOpen 1 = .ok (.aload_n 0, 1) := by decide +kernel
theorem dX4_isOpen_2 : decode cX4_isOpen 2 = .ok (.getfield 41, 3) := by decide +kernel
theorem dX4_isOpen_5 : decode cX4_isOpen 5 = .ok (.if_icmp .ge 18, 3) := by decide +kernel
theorem dX4_isOpen_8 : decode cX4_isOpen 8 = .ok (.aload_n 0, 1) := by decide +kernel
theorem dX4_isOpen_9 : decode cX4_isOpen 9 = .ok (.getfield 44, 3) := by decide +kernel
theorem dX4_isOpen_12 : decode cX4_isOpen 12 = .ok (.iload_n 1, 1) := by decide +kernel
theorem dX4_isOpen_13 : decode cX4_isOpen 13 = .ok (.invokestatic 82, 3) := by decide +kernel
theorem dX4_isOpen_16 : decode cX4_isOpen 16 = .ok (.ifCond .ne 7, 3) := by decide +kernel
theorem dX4_isOpen_19 : decode cX4_isOpen 19 = .ok (.iconst 1, 1) := by decide +kernel
theorem dX4_isOpen_20 : decode cX4_isOpen 20 = .ok (.goto 4, 3) := by decide +kernel
theorem dX4_isOpen_23 : decode cX4_isOpen 23 = .ok (.iconst 0, 1) := by decide +kernel
theorem dX4_isOpen_24 : decode cX4_isOpen 24 = .ok (.ireturn, 1) := by decide +kernel
abbrev YX4_isOpen : li_Y := (yX4_isOpen, cX4_isOpen, 2, (some .boolean))
theorem dX4_owedByAll_0 : decode cX4_owedByAll 0 = .ok (.lconst 0, 1) := by decide +kernel
theorem dX4_owedByAll_1 : decode cX4_owedByAll 1 = .ok (.lstore_n 2, 1) := by decide +kernel
theorem dX4_owedByAll_2 : decode cX4_owedByAll 2 = .ok (.iconst 0, 1) := by decide +kernel
theorem dX4_owedByAll_3 : decode cX4_owedByAll 3 = .ok (.istore 4, 2) := by decide +kernel
theorem dX4_owedByAll_5 : decode cX4_owedByAll 5 = .ok (.iload 4, 2) := by decide +kernel
theorem dX4_owedByAll_7 : decode cX4_owedByAll 7 = .ok (.aload_n 0, 1) := by decide +kernel
theorem dX4_owedByAll_8 : decode cX4_owedByAll 8 = .ok (.getfield 41, 3) := by decide +kernel
theorem dX4_owedByAll_11 : decode cX4_owedByAll 11 = .ok (.if_icmp .ge 46, 3) := by decide +kernel
theorem dX4_owedByAll_14 : decode cX4_owedByAll 14 = .ok (.aload_n 0, 1) := by decide +kernel
theorem dX4_owedByAll_15 : decode cX4_owedByAll 15 = .ok (.iload 4, 2) := by decide +kernel
theorem dX4_owedByAll_17 : decode cX4_owedByAll 17 = .ok (.invokevirtual 90, 3) := by decide +kernel
theorem dX4_owedByAll_20 : decode cX4_owedByAll 20 = .ok (.ifCond .eq 31, 3) := by decide +kernel
theorem dX4_owedByAll_23 : decode cX4_owedByAll 23 = .ok (.iload_n 1, 1) := by decide +kernel
theorem dX4_owedByAll_24 : decode cX4_owedByAll 24 = .ok (.aload_n 0, 1) := by decide +kernel
theorem dX4_owedByAll_25 : decode cX4_owedByAll 25 = .ok (.getfield 25, 3) := by decide +kernel
theorem dX4_owedByAll_28 : decode cX4_owedByAll 28 = .ok (.iload 4, 2) := by decide +kernel
theorem dX4_owedByAll_30 : decode cX4_owedByAll 30 = .ok (.invokestatic 61, 3) := by decide +kernel
theorem dX4_owedByAll_33 : decode cX4_owedByAll 33 = .ok (.invokestatic 82, 3) := by decide +kernel
theorem dX4_owedByAll_36 : decode cX4_owedByAll 36 = .ok (.ifCond .eq 15, 3) := by decide +kernel
theorem dX4_owedByAll_39 : decode cX4_owedByAll 39 = .ok (.lload_n 2, 1) := by decide +kernel
theorem dX4_owedByAll_40 : decode cX4_owedByAll 40 = .ok (.aload_n 0, 1) := by decide +kernel
theorem dX4_owedByAll_41 : decode cX4_owedByAll 41 = .ok (.getfield 31, 3) := by decide +kernel
theorem dX4_owedByAll_44 : decode cX4_owedByAll 44 = .ok (.iload 4, 2) := by decide +kernel
theorem dX4_owedByAll_46 : decode cX4_owedByAll 46 = .ok (.invokestatic 94, 3) := by decide +kernel
theorem dX4_owedByAll_49 : decode cX4_owedByAll 49 = .ok (.ladd, 1) := by decide +kernel
theorem dX4_owedByAll_50 : decode cX4_owedByAll 50 = .ok (.lstore_n 2, 1) := by decide +kernel
theorem dX4_owedByAll_51 : decode cX4_owedByAll 51 = .ok (.iinc 4 1, 3) := by decide +kernel
theorem dX4_owedByAll_54 : decode cX4_owedByAll 54 = .ok (.goto (-49), 3) := by decide +kernel
theorem dX4_owedByAll_57 : decode cX4_owedByAll 57 = .ok (.lload_n 2, 1) := by decide +kernel
theorem dX4_owedByAll_58 : decode cX4_owedByAll 58 = .ok (.lreturn, 1) := by decide +kernel
abbrev YX4_owedByAll : li_Y := (yX4_owedByAll, cX4_owedByAll, 5, (some .long))
theorem dX4_owedBy_0 : decode cX4_owedBy 0 = .ok (.aload_n 0, 1) := by decide +kernel
theorem dX4_owedBy_1 : decode cX4_owedBy 1 = .ok (.iconst 1, 1) := by decide +kernel
theorem dX4_owedBy_2 : decode cX4_owedBy 2 = .ok (.iload_n 1, 1) := by decide +kernel
theorem dX4_owedBy_3 : decode cX4_owedBy 3 = .ok (.ishl, 1) := by decide +kernel
theorem dX4_owedBy_4 : decode cX4_owedBy 4 = .ok (.invokevirtual 86, 3) := by decide +kernel
theorem dX4_owedBy_7 : decode cX4_owedBy 7 = .ok (.lreturn, 1) := by decide +kernel
abbrev YX4_owedBy : li_Y := (yX4_owedBy, cX4_owedBy, 2, (some .long))
theorem dX4_owedToBut_0 : decode cX4_owedToBut 0 = .ok (.lconst 0, 1) := by decide +kernel
theorem dX4_owedToBut_1 : decode cX4_owedToBut 1 = .ok (.lstore_n 3, 1) := by decide +kernel
theorem dX4_owedToBut_2 : decode cX4_owedToBut 2 = .ok (.iconst 0, 1) := by decide +kernel
theorem dX4_owedToBut_3 : decode cX4_owedToBut 3 = .ok (.istore 5, 2) := by decide +kernel
theorem dX4_owedToBut_5 : decode cX4_owedToBut 5 = .ok (.iload 5, 2) := by decide +kernel
theorem dX4_owedToBut_7 : decode cX4_owedToBut 7 = .ok (.aload_n 0, 1) := by decide +kernel
theorem dX4_owedToBut_8 : decode cX4_owedToBut 8 = .ok (.getfield 41, 3) := by decide +kernel
theorem dX4_owedToBut_11 : decode cX4_owedToBut 11 = .ok (.if_icmp .ge 59, 3) := by decide +kernel
theorem dX4_owedToBut_14 : decode cX4_owedToBut 14 = .ok (.aload_n 0, 1) := by decide +kernel
theorem dX4_owedToBut_15 : decode cX4_owedToBut 15 = .ok (.iload 5, 2) := by decide +kernel
theorem dX4_owedToBut_17 : decode cX4_owedToBut 17 = .ok (.invokevirtual 90, 3) := by decide +kernel
theorem dX4_owedToBut_20 : decode cX4_owedToBut 20 = .ok (.ifCond .eq 44, 3) := by decide +kernel
theorem dX4_owedToBut_23 : decode cX4_owedToBut 23 = .ok (.aload_n 0, 1) := by decide +kernel
theorem dX4_owedToBut_24 : decode cX4_owedToBut 24 = .ok (.getfield 22, 3) := by decide +kernel
theorem dX4_owedToBut_27 : decode cX4_owedToBut 27 = .ok (.iload 5, 2) := by decide +kernel
theorem dX4_owedToBut_29 : decode cX4_owedToBut 29 = .ok (.invokestatic 61, 3) := by decide +kernel
theorem dX4_owedToBut_32 : decode cX4_owedToBut 32 = .ok (.iload_n 1, 1) := by decide +kernel
theorem dX4_owedToBut_33 : decode cX4_owedToBut 33 = .ok (.if_icmp .ne 31, 3) := by decide +kernel
theorem dX4_owedToBut_36 : decode cX4_owedToBut 36 = .ok (.iload_n 2, 1) := by decide +kernel
theorem dX4_owedToBut_37 : decode cX4_owedToBut 37 = .ok (.aload_n 0, 1) := by decide +kernel
theorem dX4_owedToBut_38 : decode cX4_owedToBut 38 = .ok (.getfield 25, 3) := by decide +kernel
theorem dX4_owedToBut_41 : decode cX4_owedToBut 41 = .ok (.iload 5, 2) := by decide +kernel
theorem dX4_owedToBut_43 : decode cX4_owedToBut 43 = .ok (.invokestatic 61, 3) := by decide +kernel
theorem dX4_owedToBut_46 : decode cX4_owedToBut 46 = .ok (.invokestatic 82, 3) := by decide +kernel
theorem dX4_owedToBut_49 : decode cX4_owedToBut 49 = .ok (.ifCond .ne 15, 3) := by decide +kernel
theorem dX4_owedToBut_52 : decode cX4_owedToBut 52 = .ok (.lload_n 3, 1) := by decide +kernel
theorem dX4_owedToBut_53 : decode cX4_owedToBut 53 = .ok (.aload_n 0, 1) := by decide +kernel
theorem dX4_owedToBut_54 : decode cX4_owedToBut 54 = .ok (.getfield 31, 3) := by decide +kernel
theorem dX4_owedToBut_57 : decode cX4_owedToBut 57 = .ok (.iload 5, 2) := by decide +kernel
theorem dX4_owedToBut_59 : decode cX4_owedToBut 59 = .ok (.invokestatic 94, 3) := by decide +kernel
theorem dX4_owedToBut_62 : decode cX4_owedToBut 62 = .ok (.ladd, 1) := by decide +kernel
theorem dX4_owedToBut_63 : decode cX4_owedToBut 63 = .ok (.lstore_n 3, 1) := by decide +kernel
theorem dX4_owedToBut_64 : decode cX4_owedToBut 64 = .ok (.iinc 5 1, 3) := by decide +kernel
theorem dX4_owedToBut_67 : decode cX4_owedToBut 67 = .ok (.goto (-62), 3) := by decide +kernel
theorem dX4_owedToBut_70 : decode cX4_owedToBut 70 = .ok (.lload_n 3, 1) := by decide +kernel
theorem dX4_owedToBut_71 : decode cX4_owedToBut 71 = .ok (.lreturn, 1) := by decide +kernel
abbrev YX4_owedToBut : li_Y := (yX4_owedToBut, cX4_owedToBut, 6, (some .long))
theorem dX4_owedTo_0 : decode cX4_owedTo 0 = .ok (.aload_n 0, 1) := by decide +kernel
theorem dX4_owedTo_1 : decode cX4_owedTo 1 = .ok (.iload_n 1, 1) := by decide +kernel
theorem dX4_owedTo_2 : decode cX4_owedTo 2 = .ok (.iconst 0, 1) := by decide +kernel
theorem dX4_owedTo_3 : decode cX4_owedTo 3 = .ok (.invokevirtual 98, 3) := by decide +kernel
theorem dX4_owedTo_6 : decode cX4_owedTo 6 = .ok (.lreturn, 1) := by decide +kernel
abbrev YX4_owedTo : li_Y := (yX4_owedTo, cX4_owedTo, 2, (some .long))
theorem dX4_endedLoans_0 : decode cX4_endedLoans 0 = .ok (.aload_n 0, 1) := by decide +kernel
theorem dX4_endedLoans_1 : decode cX4_endedLoans 1 = .ok (.getfield 44, 3) := by decide +kernel
theorem dX4_endedLoans_4 : decode cX4_endedLoans 4 = .ok (.invokestatic 102, 3) := by decide +kernel
theorem dX4_endedLoans_7 : decode cX4_endedLoans 7 = .ok (.ireturn, 1) := by decide +kernel
abbrev YX4_endedLoans : li_Y := (yX4_endedLoans, cX4_endedLoans, 1, (some .int))
theorem dX4_allLosses_0 : decode cX4_allLosses 0 = .ok (.lconst 0, 1) := by decide +kernel
theorem dX4_allLosses_1 : decode cX4_allLosses 1 = .ok (.lstore_n 1, 1) := by decide +kernel
theorem dX4_allLosses_2 : decode cX4_allLosses 2 = .ok (.iconst 0, 1) := by decide +kernel
theorem dX4_allLosses_3 : decode cX4_allLosses 3 = .ok (.istore_n 3, 1) := by decide +kernel
theorem dX4_allLosses_4 : decode cX4_allLosses 4 = .ok (.iload_n 3, 1) := by decide +kernel
theorem dX4_allLosses_5 : decode cX4_allLosses 5 = .ok (.bipush 6, 2) := by decide +kernel
theorem dX4_allLosses_7 : decode cX4_allLosses 7 = .ok (.if_icmp .ge 20, 3) := by decide +kernel
theorem dX4_allLosses_10 : decode cX4_allLosses 10 = .ok (.lload_n 1, 1) := by decide +kernel
theorem dX4_allLosses_11 : decode cX4_allLosses 11 = .ok (.aload_n 0, 1) := by decide +kernel
theorem dX4_allLosses_12 : decode cX4_allLosses 12 = .ok (.getfield 18, 3) := by decide +kernel
theorem dX4_allLosses_15 : decode cX4_allLosses 15 = .ok (.iload_n 3, 1) := by decide +kernel
theorem dX4_allLosses_16 : decode cX4_allLosses 16 = .ok (.invokestatic 94, 3) := by decide +kernel
theorem dX4_allLosses_19 : decode cX4_allLosses 19 = .ok (.ladd, 1) := by decide +kernel
theorem dX4_allLosses_20 : decode cX4_allLosses 20 = .ok (.lstore_n 1, 1) := by decide +kernel
theorem dX4_allLosses_21 : decode cX4_allLosses 21 = .ok (.iinc 3 1, 3) := by decide +kernel
theorem dX4_allLosses_24 : decode cX4_allLosses 24 = .ok (.goto (-20), 3) := by decide +kernel
theorem dX4_allLosses_27 : decode cX4_allLosses 27 = .ok (.lload_n 1, 1) := by decide +kernel
theorem dX4_allLosses_28 : decode cX4_allLosses 28 = .ok (.lreturn, 1) := by decide +kernel
abbrev YX4_allLosses : li_Y := (yX4_allLosses, cX4_allLosses, 4, (some .long))
theorem dX4_addTenths_0 : decode cX4_addTenths 0 = .ok (.iconst 0, 1) := by decide +kernel
theorem dX4_addTenths_1 : decode cX4_addTenths 1 = .ok (.istore_n 1, 1) := by decide +kernel
theorem dX4_addTenths_2 : decode cX4_addTenths 2 = .ok (.iload_n 1, 1) := by decide +kernel
theorem dX4_addTenths_3 : decode cX4_addTenths 3 = .ok (.aload_n 0, 1) := by decide +kernel
theorem dX4_addTenths_4 : decode cX4_addTenths 4 = .ok (.getfield 41, 3) := by decide +kernel
theorem dX4_addTenths_7 : decode cX4_addTenths 7 = .ok (.if_icmp .ge 46, 3) := by decide +kernel
theorem dX4_addTenths_10 : decode cX4_addTenths 10 = .ok (.aload_n 0, 1) := by decide +kernel
theorem dX4_addTenths_11 : decode cX4_addTenths 11 = .ok (.iload_n 1, 1) := by decide +kernel
theorem dX4_addTenths_12 : decode cX4_addTenths 12 = .ok (.invokevirtual 90, 3) := by decide +kernel
theorem dX4_addTenths_15 : decode cX4_addTenths 15 = .ok (.ifCond .eq 32, 3) := by decide +kernel
theorem dX4_addTenths_18 : decode cX4_addTenths 18 = .ok (.aload_n 0, 1) := by decide +kernel
theorem dX4_addTenths_19 : decode cX4_addTenths 19 = .ok (.getfield 31, 3) := by decide +kernel
theorem dX4_addTenths_22 : decode cX4_addTenths 22 = .ok (.iload_n 1, 1) := by decide +kernel
theorem dX4_addTenths_23 : decode cX4_addTenths 23 = .ok (.aload_n 0, 1) := by decide +kernel
theorem dX4_addTenths_24 : decode cX4_addTenths 24 = .ok (.getfield 31, 3) := by decide +kernel
theorem dX4_addTenths_27 : decode cX4_addTenths 27 = .ok (.iload_n 1, 1) := by decide +kernel
theorem dX4_addTenths_28 : decode cX4_addTenths 28 = .ok (.invokestatic 94, 3) := by decide +kernel
theorem dX4_addTenths_31 : decode cX4_addTenths 31 = .ok (.aload_n 0, 1) := by decide +kernel
theorem dX4_addTenths_32 : decode cX4_addTenths 32 = .ok (.getfield 31, 3) := by decide +kernel
theorem dX4_addTenths_35 : decode cX4_addTenths 35 = .ok (.iload_n 1, 1) := by decide +kernel
theorem dX4_addTenths_36 : decode cX4_addTenths 36 = .ok (.invokestatic 94, 3) := by decide +kernel
theorem dX4_addTenths_39 : decode cX4_addTenths 39 = .ok (.ldc2_w 119, 3) := by decide +kernel
theorem dX4_addTenths_42 : decode cX4_addTenths 42 = .ok (.ldiv, 1) := by decide +kernel
theorem dX4_addTenths_43 : decode cX4_addTenths 43 = .ok (.ladd, 1) := by decide +kernel
theorem dX4_addTenths_44 : decode cX4_addTenths 44 = .ok (.invokestatic 78, 3) := by decide +kernel
theorem dX4_addTenths_47 : decode cX4_addTenths 47 = .ok (.iinc 1 1, 3) := by decide +kernel
theorem dX4_addTenths_50 : decode cX4_addTenths 50 = .ok (.goto (-48), 3) := by decide +kernel
theorem dX4_addTenths_53 : decode cX4_addTenths 53 = .ok (.return_, 1) := by decide +kernel
abbrev YX4_addTenths : li_Y := (yX4_addTenths, cX4_addTenths, 2, none)
theorem dX4_settle_0 : decode cX4_settle 0 = .ok (.aload_n 0, 1) := by decide +kernel
theorem dX4_settle_1 : decode cX4_settle 1 = .ok (.getfield 22, 3) := by decide +kernel
theorem dX4_settle_4 : decode cX4_settle 4 = .ok (.iload_n 1, 1) := by decide +kernel
theorem dX4_settle_5 : decode cX4_settle 5 = .ok (.invokestatic 61, 3) := by decide +kernel
theorem dX4_settle_8 : decode cX4_settle 8 = .ok (.istore_n 2, 1) := by decide +kernel
theorem dX4_settle_9 : decode cX4_settle 9 = .ok (.aload_n 0, 1) := by decide +kernel
theorem dX4_settle_10 : decode cX4_settle 10 = .ok (.getfield 25, 3) := by decide +kernel
theorem dX4_settle_13 : decode cX4_settle 13 = .ok (.iload_n 1, 1) := by decide +kernel
theorem dX4_settle_14 : decode cX4_settle 14 = .ok (.invokestatic 61, 3) := by decide +kernel
theorem dX4_settle_17 : decode cX4_settle 17 = .ok (.istore_n 3, 1) := by decide +kernel
theorem dX4_settle_18 : decode cX4_settle 18 = .ok (.aload_n 0, 1) := by decide +kernel
theorem dX4_settle_19 : decode cX4_settle 19 = .ok (.getfield 31, 3) := by decide +kernel
theorem dX4_settle_22 : decode cX4_settle 22 = .ok (.iload_n 1, 1) := by decide +kernel
theorem dX4_settle_23 : decode cX4_settle 23 = .ok (.invokestatic 94, 3) := by decide +kernel
theorem dX4_settle_26 : decode cX4_settle 26 = .ok (.aload_n 0, 1) := by decide +kernel
theorem dX4_settle_27 : decode cX4_settle 27 = .ok (.getfield 9, 3) := by decide +kernel
theorem dX4_settle_30 : decode cX4_settle 30 = .ok (.iload_n 3, 1) := by decide +kernel
theorem dX4_settle_31 : decode cX4_settle 31 = .ok (.invokestatic 61, 3) := by decide +kernel
theorem dX4_settle_34 : decode cX4_settle 34 = .ok (.i2l, 1) := by decide +kernel
theorem dX4_settle_35 : decode cX4_settle 35 = .ok (.invokestatic 121, 3) := by decide +kernel
theorem dX4_settle_38 : decode cX4_settle 38 = .ok (.l2i, 1) := by decide +kernel
theorem dX4_settle_39 : decode cX4_settle 39 = .ok (.istore 4, 2) := by decide +kernel
theorem dX4_settle_41 : decode cX4_settle 41 = .ok (.aload_n 0, 1) := by decide +kernel
theorem dX4_settle_42 : decode cX4_settle 42 = .ok (.iload_n 3, 1) := by decide +kernel
theorem dX4_settle_43 : decode cX4_settle 43 = .ok (.iload_n 2, 1) := by decide +kernel
theorem dX4_settle_44 : decode cX4_settle 44 = .ok (.iload 4, 2) := by decide +kernel
theorem dX4_settle_46 : decode cX4_settle 46 = .ok (.invokevirtual 124, 3) := by decide +kernel
theorem dX4_settle_49 : decode cX4_settle 49 = .ok (.aload_n 0, 1) := by decide +kernel
theorem dX4_settle_50 : decode cX4_settle 50 = .ok (.getfield 18, 3) := by decide +kernel
theorem dX4_settle_53 : decode cX4_settle 53 = .ok (.iload_n 2, 1) := by decide +kernel
theorem dX4_settle_54 : decode cX4_settle 54 = .ok (.aload_n 0, 1) := by decide +kernel
theorem dX4_settle_55 : decode cX4_settle 55 = .ok (.getfield 18, 3) := by decide +kernel
theorem dX4_settle_58 : decode cX4_settle 58 = .ok (.iload_n 2, 1) := by decide +kernel
theorem dX4_settle_59 : decode cX4_settle 59 = .ok (.invokestatic 94, 3) := by decide +kernel
theorem dX4_settle_62 : decode cX4_settle 62 = .ok (.aload_n 0, 1) := by decide +kernel
theorem dX4_settle_63 : decode cX4_settle 63 = .ok (.getfield 31, 3) := by decide +kernel
theorem dX4_settle_66 : decode cX4_settle 66 = .ok (.iload_n 1, 1) := by decide +kernel
theorem dX4_settle_67 : decode cX4_settle 67 = .ok (.invokestatic 94, 3) := by decide +kernel
theorem dX4_settle_70 : decode cX4_settle 70 = .ok (.ladd, 1) := by decide +kernel
theorem dX4_settle_71 : decode cX4_settle 71 = .ok (.iload 4, 2) := by decide +kernel
theorem dX4_settle_73 : decode cX4_settle 73 = .ok (.i2l, 1) := by decide +kernel
theorem dX4_settle_74 : decode cX4_settle 74 = .ok (.lsub, 1) := by decide +kernel
theorem dX4_settle_75 : decode cX4_settle 75 = .ok (.invokestatic 78, 3) := by decide +kernel
theorem dX4_settle_78 : decode cX4_settle 78 = .ok (.aload_n 0, 1) := by decide +kernel
theorem dX4_settle_79 : decode cX4_settle 79 = .ok (.dup, 1) := by decide +kernel
theorem dX4_settle_80 : decode cX4_settle 80 = .ok (.getfield 44, 3) := by decide +kernel
theorem dX4_settle_83 : decode cX4_settle 83 = .ok (.iconst 1, 1) := by decide +kernel
theorem dX4_settle_84 : decode cX4_settle 84 = .ok (.iload_n 1, 1) := by decide +kernel
theorem dX4_settle_85 : decode cX4_settle 85 = .ok (.ishl, 1) := by decide +kernel
theorem dX4_settle_86 : decode cX4_settle 86 = .ok (.ior, 1) := by decide +kernel
theorem dX4_settle_87 : decode cX4_settle 87 = .ok (.putfield 44, 3) := by decide +kernel
theorem dX4_settle_90 : decode cX4_settle 90 = .ok (.return_, 1) := by decide +kernel
abbrev YX4_settle : li_Y := (yX4_settle, cX4_settle, 5, none)
theorem dX4_beginYear_0 : decode cX4_beginYear 0 = .ok (.aload_n 0, 1) := by decide +kernel
theorem dX4_beginYear_1 : decode cX4_beginYear 1 = .ok (.iconst 0, 1) := by decide +kernel
theorem dX4_beginYear_2 : decode cX4_beginYear 2 = .ok (.putfield 38, 3) := by decide +kernel
theorem dX4_beginYear_5 : decode cX4_beginYear 5 = .ok (.iconst 0, 1) := by decide +kernel
theorem dX4_beginYear_6 : decode cX4_beginYear 6 = .ok (.istore_n 2, 1) := by decide +kernel
theorem dX4_beginYear_7 : decode cX4_beginYear 7 = .ok (.iload_n 2, 1) := by decide +kernel
theorem dX4_beginYear_8 : decode cX4_beginYear 8 = .ok (.bipush 6, 2) := by decide +kernel
theorem dX4_beginYear_10 : decode cX4_beginYear 10 = .ok (.if_icmp .ge 46, 3) := by decide +kernel
theorem dX4_beginYear_13 : decode cX4_beginYear 13 = .ok (.aload_n 0, 1) := by decide +kernel
theorem dX4_beginYear_14 : decode cX4_beginYear 14 = .ok (.getfield 9, 3) := by decide +kernel
theorem dX4_beginYear_17 : decode cX4_beginYear 17 = .ok (.iload_n 2, 1) := by decide +kernel
theorem dX4_beginYear_18 : decode cX4_beginYear 18 = .ok (.iload_n 2, 1) := by decide +kernel
theorem dX4_beginYear_19 : decode cX4_beginYear 19 = .ok (.aload_n 1, 1) := by decide +kernel
theorem dX4_beginYear_20 : decode cX4_beginYear 20 = .ok (.getfield 53, 3) := by decide +kernel
theorem dX4_beginYear_23 : decode cX4_beginYear 23 = .ok (.if_icmp .ge 14, 3) := by decide +kernel
theorem dX4_beginYear_26 : decode cX4_beginYear 26 = .ok (.aload_n 1, 1) := by decide +kernel
theorem dX4_beginYear_27 : decode cX4_beginYear 27 = .ok (.getfield 58, 3) := by decide +kernel
theorem dX4_beginYear_30 : decode cX4_beginYear 30 = .ok (.iload_n 2, 1) := by decide +kernel
theorem dX4_beginYear_31 : decode cX4_beginYear 31 = .ok (.invokestatic 61, 3) := by decide +kernel
theorem dX4_beginYear_34 : decode cX4_beginYear 34 = .ok (.goto 4, 3) := by decide +kernel
theorem dX4_beginYear_37 : decode cX4_beginYear 37 = .ok (.iconst 0, 1) := by decide +kernel
theorem dX4_beginYear_38 : decode cX4_beginYear 38 = .ok (.invokestatic 65, 3) := by decide +kernel
theorem dX4_beginYear_41 : decode cX4_beginYear 41 = .ok (.aload_n 0, 1) := by decide +kernel
theorem dX4_beginYear_42 : decode cX4_beginYear 42 = .ok (.getfield 15, 3) := by decide +kernel
theorem dX4_beginYear_45 : decode cX4_beginYear 45 = .ok (.iload_n 2, 1) := by decide +kernel
theorem dX4_beginYear_46 : decode cX4_beginYear 46 = .ok (.iconst 0, 1) := by decide +kernel
theorem dX4_beginYear_47 : decode cX4_beginYear 47 = .ok (.invokestatic 65, 3) := by decide +kernel
theorem dX4_beginYear_50 : decode cX4_beginYear 50 = .ok (.iinc 2 1, 3) := by decide +kernel
theorem dX4_beginYear_53 : decode cX4_beginYear 53 = .ok (.goto (-46), 3) := by decide +kernel
theorem dX4_beginYear_56 : decode cX4_beginYear 56 = .ok (.return_, 1) := by decide +kernel
abbrev YX4_beginYear : li_Y := (yX4_beginYear, cX4_beginYear, 3, none)
theorem dX4_passDay_0 : decode cX4_passDay 0 = .ok (.aload_n 0, 1) := by decide +kernel
theorem dX4_passDay_1 : decode cX4_passDay 1 = .ok (.dup, 1) := by decide +kernel
theorem dX4_passDay_2 : decode cX4_passDay 2 = .ok (.getfield 34, 3) := by decide +kernel
theorem dX4_passDay_5 : decode cX4_passDay 5 = .ok (.iconst 1, 1) := by decide +kernel
theorem dX4_passDay_6 : decode cX4_passDay 6 = .ok (.iadd, 1) := by decide +kernel
theorem dX4_passDay_7 : decode cX4_passDay 7 = .ok (.putfield 34, 3) := by decide +kernel
theorem dX4_passDay_10 : decode cX4_passDay 10 = .ok (.aload_n 0, 1) := by decide +kernel
theorem dX4_passDay_11 : decode cX4_passDay 11 = .ok (.getfield 34, 3) := by decide +kernel
theorem dX4_passDay_14 : decode cX4_passDay 14 = .ok (.bipush 30, 2) := by decide +kernel
theorem dX4_passDay_16 : decode cX4_passDay 16 = .ok (.irem, 1) := by decide +kernel
theorem dX4_passDay_17 : decode cX4_passDay 17 = .ok (.ifCond .ne 7, 3) := by decide +kernel
theorem dX4_passDay_20 : decode cX4_passDay 20 = .ok (.aload_n 0, 1) := by decide +kernel
theorem dX4_passDay_21 : decode cX4_passDay 21 = .ok (.invokevirtual 108, 3) := by decide +kernel
theorem dX4_passDay_24 : decode cX4_passDay 24 = .ok (.iconst 0, 1) := by decide +kernel
theorem dX4_passDay_25 : decode cX4_passDay 25 = .ok (.istore_n 2, 1) := by decide +kernel
theorem dX4_passDay_26 : decode cX4_passDay 26 = .ok (.iload_n 2, 1) := by decide +kernel
theorem dX4_passDay_27 : decode cX4_passDay 27 = .ok (.aload_n 0, 1) := by decide +kernel
theorem dX4_passDay_28 : decode cX4_passDay 28 = .ok (.getfield 41, 3) := by decide +kernel
theorem dX4_passDay_31 : decode cX4_passDay 31 = .ok (.if_icmp .ge 37, 3) := by decide +kernel
theorem dX4_passDay_34 : decode cX4_passDay 34 = .ok (.aload_n 0, 1) := by decide +kernel
theorem dX4_passDay_35 : decode cX4_passDay 35 = .ok (.iload_n 2, 1) := by decide +kernel
theorem dX4_passDay_36 : decode cX4_passDay 36 = .ok (.invokevirtual 90, 3) := by decide +kernel
theorem dX4_passDay_39 : decode cX4_passDay 39 = .ok (.ifCond .eq 23, 3) := by decide +kernel
theorem dX4_passDay_42 : decode cX4_passDay 42 = .ok (.aload_n 0, 1) := by decide +kernel
theorem dX4_passDay_43 : decode cX4_passDay 43 = .ok (.getfield 28, 3) := by decide +kernel
theorem dX4_passDay_46 : decode cX4_passDay 46 = .ok (.iload_n 2, 1) := by decide +kernel
theorem dX4_passDay_47 : decode cX4_passDay 47 = .ok (.invokestatic 61, 3) := by decide +kernel
theorem dX4_passDay_50 : decode cX4_passDay 50 = .ok (.aload_n 0, 1) := by decide +kernel
theorem dX4_passDay_51 : decode cX4_passDay 51 = .ok (.getfield 34, 3) := by decide +kernel
theorem dX4_passDay_54 : decode cX4_passDay 54 = .ok (.if_icmp .ne 8, 3) := by decide +kernel
theorem dX4_passDay_57 : decode cX4_passDay 57 = .ok (.aload_n 0, 1) := by decide +kernel
theorem dX4_passDay_58 : decode cX4_passDay 58 = .ok (.iload_n 2, 1) := by decide +kernel
theorem dX4_passDay_59 : decode cX4_passDay 59 = .ok (.invokevirtual 111, 3) := by decide +kernel
theorem dX4_passDay_62 : decode cX4_passDay 62 = .ok (.iinc 2 1, 3) := by decide +kernel
theorem dX4_passDay_65 : decode cX4_passDay 65 = .ok (.goto (-39), 3) := by decide +kernel
theorem dX4_passDay_68 : decode cX4_passDay 68 = .ok (.aload_n 0, 1) := by decide +kernel
theorem dX4_passDay_69 : decode cX4_passDay 69 = .ok (.getfield 34, 3) := by decide +kernel
theorem dX4_passDay_72 : decode cX4_passDay 72 = .ok (.bipush 100, 2) := by decide +kernel
theorem dX4_passDay_74 : decode cX4_passDay 74 = .ok (.irem, 1) := by decide +kernel
theorem dX4_passDay_75 : decode cX4_passDay 75 = .ok (.ifCond .ne 8, 3) := by decide +kernel
theorem dX4_passDay_78 : decode cX4_passDay 78 = .ok (.aload_n 0, 1) := by decide +kernel
theorem dX4_passDay_79 : decode cX4_passDay 79 = .ok (.aload_n 1, 1) := by decide +kernel
theorem dX4_passDay_80 : decode cX4_passDay 80 = .ok (.invokevirtual 115, 3) := by decide +kernel
theorem dX4_passDay_83 : decode cX4_passDay 83 = .ok (.return_, 1) := by decide +kernel
abbrev YX4_passDay : li_Y := (yX4_passDay, cX4_passDay, 3, none)
theorem dX4_isStruckBy_0 : decode cX4_isStruckBy 0 = .ok (.aload_n 0, 1) := by decide +kernel
theorem dX4_isStruckBy_1 : decode cX4_isStruckBy 1 = .ok (.iload_n 1, 1) := by decide +kernel
theorem dX4_isStruckBy_2 : decode cX4_isStruckBy 2 = .ok (.iload_n 2, 1) := by decide +kernel
theorem dX4_isStruckBy_3 : decode cX4_isStruckBy 3 = .ok (.invokevirtual 98, 3) := by decide +kernel
theorem dX4_isStruckBy_6 : decode cX4_isStruckBy 6 = .ok (.lstore_n 3, 1) := by decide +kernel
theorem dX4_isStruckBy_7 : decode cX4_isStruckBy 7 = .ok (.lload_n 3, 1) := by decide +kernel
theorem dX4_isStruckBy_8 : decode cX4_isStruckBy 8 = .ok (.aload_n 0, 1) := by decide +kernel
theorem dX4_isStruckBy_9 : decode cX4_isStruckBy 9 = .ok (.iload_n 1, 1) := by decide +kernel
theorem dX4_isStruckBy_10 : decode cX4_isStruckBy 10 = .ok (.invokevirtual 134, 3) := by decide +kernel
theorem dX4_isStruckBy_13 : decode cX4_isStruckBy 13 = .ok (.lcmp, 1) := by decide +kernel
theorem dX4_isStruckBy_14 : decode cX4_isStruckBy 14 = .ok (.ifCond .ge 27, 3) := by decide +kernel
theorem dX4_isStruckBy_17 : decode cX4_isStruckBy 17 = .ok (.aload_n 0, 1) := by decide +kernel
theorem dX4_isStruckBy_18 : decode cX4_isStruckBy 18 = .ok (.getfield 9, 3) := by decide +kernel
theorem dX4_isStruckBy_21 : decode cX4_isStruckBy 21 = .ok (.iload_n 1, 1) := by decide +kernel
theorem dX4_isStruckBy_22 : decode cX4_isStruckBy 22 = .ok (.invokestatic 61, 3) := by decide +kernel
theorem dX4_isStruckBy_25 : decode cX4_isStruckBy 25 = .ok (.i2l, 1) := by decide +kernel
theorem dX4_isStruckBy_26 : decode cX4_isStruckBy 26 = .ok (.lload_n 3, 1) := by decide +kernel
theorem dX4_isStruckBy_27 : decode cX4_isStruckBy 27 = .ok (.ladd, 1) := by decide +kernel
theorem dX4_isStruckBy_28 : decode cX4_isStruckBy 28 = .ok (.aload_n 0, 1) := by decide +kernel
theorem dX4_isStruckBy_29 : decode cX4_isStruckBy 29 = .ok (.iload_n 1, 1) := by decide +kernel
theorem dX4_isStruckBy_30 : decode cX4_isStruckBy 30 = .ok (.invokevirtual 128, 3) := by decide +kernel
theorem dX4_isStruckBy_33 : decode cX4_isStruckBy 33 = .ok (.lcmp, 1) := by decide +kernel
theorem dX4_isStruckBy_34 : decode cX4_isStruckBy 34 = .ok (.ifCond .ge 7, 3) := by decide +kernel
theorem dX4_isStruckBy_37 : decode cX4_isStruckBy 37 = .ok (.iconst 1, 1) := by decide +kernel
theorem dX4_isStruckBy_38 : decode cX4_isStruckBy 38 = .ok (.goto 4, 3) := by decide +kernel
theorem dX4_isStruckBy_41 : decode cX4_isStruckBy 41 = .ok (.iconst 0, 1) := by decide +kernel
theorem dX4_isStruckBy_42 : decode cX4_isStruckBy 42 = .ok (.ireturn, 1) := by decide +kernel
abbrev YX4_isStruckBy : li_Y := (yX4_isStruckBy, cX4_isStruckBy, 5, (some .boolean))
theorem dX4_struckWith_0 : decode cX4_struckWith 0 = .ok (.aload_n 0, 1) := by decide +kernel
theorem dX4_struckWith_1 : decode cX4_struckWith 1 = .ok (.iload_n 1, 1) := by decide +kernel
theorem dX4_struckWith_2 : decode cX4_struckWith 2 = .ok (.invokevirtual 128, 3) := by decide +kernel
theorem dX4_struckWith_5 : decode cX4_struckWith 5 = .ok (.lconst 0, 1) := by decide +kernel
theorem dX4_struckWith_6 : decode cX4_struckWith 6 = .ok (.lcmp, 1) := by decide +kernel
theorem dX4_struckWith_7 : decode cX4_struckWith 7 = .ok (.ifCond .ne 5, 3) := by decide +kernel
theorem dX4_struckWith_10 : decode cX4_struckWith 10 = .ok (.iconst 0, 1) := by decide +kernel
theorem dX4_struckWith_11 : decode cX4_struckWith 11 = .ok (.ireturn, 1) := by decide +kernel
theorem dX4_struckWith_12 : decode cX4_struckWith 12 = .ok (.iconst 1, 1) := by decide +kernel
theorem dX4_struckWith_13 : decode cX4_struckWith 13 = .ok (.iload_n 1, 1) := by decide +kernel
theorem dX4_struckWith_14 : decode cX4_struckWith 14 = .ok (.ishl, 1) := by decide +kernel
theorem dX4_struckWith_15 : decode cX4_struckWith 15 = .ok (.istore_n 3, 1) := by decide +kernel
theorem dX4_struckWith_16 : decode cX4_struckWith 16 = .ok (.iconst 0, 1) := by decide +kernel
theorem dX4_struckWith_17 : decode cX4_struckWith 17 = .ok (.istore 4, 2) := by decide +kernel
theorem dX4_struckWith_19 : decode cX4_struckWith 19 = .ok (.iload 4, 2) := by decide +kernel
theorem dX4_struckWith_21 : decode cX4_struckWith 21 = .ok (.iload_n 2, 1) := by decide +kernel
theorem dX4_struckWith_22 : decode cX4_struckWith 22 = .ok (.if_icmp .ge 50, 3) := by decide +kernel
theorem dX4_struckWith_25 : decode cX4_struckWith 25 = .ok (.iconst 0, 1) := by decide +kernel
theorem dX4_struckWith_26 : decode cX4_struckWith 26 = .ok (.istore 5, 2) := by decide +kernel
theorem dX4_struckWith_28 : decode cX4_struckWith 28 = .ok (.iload 5, 2) := by decide +kernel
theorem dX4_struckWith_30 : decode cX4_struckWith 30 = .ok (.iload_n 2, 1) := by decide +kernel
theorem dX4_struckWith_31 : decode cX4_struckWith 31 = .ok (.if_icmp .ge 35, 3) := by decide +kernel
theorem dX4_struckWith_34 : decode cX4_struckWith 34 = .ok (.iload_n 3, 1) := by decide +kernel
theorem dX4_struckWith_35 : decode cX4_struckWith 35 = .ok (.iload 5, 2) := by decide +kernel
theorem dX4_struckWith_37 : decode cX4_struckWith 37 = .ok (.invokestatic 82, 3) := by decide +kernel
theorem dX4_struckWith_40 : decode cX4_struckWith 40 = .ok (.ifCond .ne 20, 3) := by decide +kernel
theorem dX4_struckWith_43 : decode cX4_struckWith 43 = .ok (.aload_n 0, 1) := by decide +kernel
theorem dX4_struckWith_44 : decode cX4_struckWith 44 = .ok (.iload 5, 2) := by decide +kernel
theorem dX4_struckWith_46 : decode cX4_struckWith 46 = .ok (.iload_n 3, 1) := by decide +kernel
theorem dX4_struckWith_47 : decode cX4_struckWith 47 = .ok (.invokevirtual 131, 3) := by decide +kernel
theorem dX4_struckWith_50 : decode cX4_struckWith 50 = .ok (.ifCond .eq 10, 3) := by decide +kernel
theorem dX4_struckWith_53 : decode cX4_struckWith 53 = .ok (.iload_n 3, 1) := by decide +kernel
theorem dX4_struckWith_54 : decode cX4_struckWith 54 = .ok (.iconst 1, 1) := by decide +kernel
theorem dX4_struckWith_55 : decode cX4_struckWith 55 = .ok (.iload 5, 2) := by decide +kernel
theorem dX4_struckWith_57 : decode cX4_struckWith 57 = .ok (.ishl, 1) := by decide +kernel
theorem dX4_struckWith_58 : decode cX4_struckWith 58 = .ok (.ior, 1) := by decide +kernel
theorem dX4_struckWith_59 : decode cX4_struckWith 59 = .ok (.istore_n 3, 1) := by decide +kernel
theorem dX4_struckWith_60 : decode cX4_struckWith 60 = .ok (.iinc 5 1, 3) := by decide +kernel
theorem dX4_struckWith_63 : decode cX4_struckWith 63 = .ok (.goto (-35), 3) := by decide +kernel
theorem dX4_struckWith_66 : decode cX4_struckWith 66 = .ok (.iinc 4 1, 3) := by decide +kernel
theorem dX4_struckWith_69 : decode cX4_struckWith 69 = .ok (.goto (-50), 3) := by decide +kernel
theorem dX4_struckWith_72 : decode cX4_struckWith 72 = .ok (.iload_n 3, 1) := by decide +kernel
theorem dX4_struckWith_73 : decode cX4_struckWith 73 = .ok (.ireturn, 1) := by decide +kernel
abbrev YX4_struckWith : li_Y := (yX4_struckWith, cX4_struckWith, 6, (some .int))
set_option maxRecDepth 100000 in
set_option maxHeartbeats 4000000 in
theorem k_X4_welcome {l : Launch} {Z : li_Z} (d : Nat) (hd : 2 ≤ d) (p1 : Int32) (M0 : li_M) : li_Met l Z YX4_welcome d [.ref (Z.2.2 13), .ref (Z.2.2 5), .int p1] M0 (li_SV (fun i => i = 14) M0) := by
  refine li_enter (by decide +kernel) (Nat.le_of_ble_eq_true rfl) ?_
  show li_T l Z YX4_welcome d 0 [(0, .ref (Z.2.2 13)), (1, .ref (Z.2.2 5)), (2, .int p1)] [] M0 _
  have hf : li_fr (fun i => i = 14) M0 M0 := li_fr_refl
  refine li_iconst 0 dX4_welcome_0 (by decide) ?_
  refine li_istore_n [(3, .int 0), (0, .ref (Z.2.2 13)), (1, .ref (Z.2.2 5)), (2, .int p1)] dX4_welcome_1 (by decide) rfl ?_
  have L2 : ∀ (n : Nat) (x1 : Int32) (M2 : li_M), (2147483647 - (x1 : Int32).toInt).toNat < n → li_fr (fun i => i = 14) M0 M2 → li_T l Z YX4_welcome d 2 [(3, .int x1), (0, .ref (Z.2.2 13)), (1, .ref (Z.2.2 5)), (2, .int p1)] [] M2 (li_SV (fun i => i = 14) M0) := by
    intro n
    induction n with
    | zero => intro x1 M2 hn; exact absurd hn (Nat.not_lt_zero _)
    | succ n ih2 =>
      intro x1 M2 hn hf
      refine li_iload_n 0 dX4_welcome_2 rfl ?_
      refine li_iload_n 3 dX4_welcome_3 rfl ?_
      refine li_icmp_ge 39 dX4_welcome_4 (by decide) (fun c3 => ?_) (fun c3 => ?_)
      · exact li_vret dX4_welcome_39 rfl ⟨rfl, hf⟩
      · refine li_aload_n 2 dX4_welcome_7 rfl ?_
        refine li_geti (k := 0) (N := 9) (T := TX8) (C0 := RX8) dX4_welcome_8 (by decide) sh_5 rfl rfl (by decide) li_in8 w_176 ?_
        refine li_top (fun x4 ex4 => ?_)
        refine li_iload_n 0 dX4_welcome_11 rfl ?_
        refine li_iadd dX4_welcome_12 ?_
        refine li_top (fun x5 ex5 => ?_)
        refine li_istore [(4, .int x5), (3, .int x1), (0, .ref (Z.2.2 13)), (1, .ref (Z.2.2 5)), (2, .int p1)] dX4_welcome_13 (by decide) rfl ?_
        refine li_aload_n 2 dX4_welcome_15 rfl ?_
        refine li_getr (k := 4) (N := 11) (T := TX4) (C0 := RX4) dX4_welcome_16 (by decide) sh_13 rfl rfl (by decide) (by decide) li_in4 w_239 ?_
        refine li_iload 0 dX4_welcome_19 rfl ?_
        refine li_aload_n 3 dX4_welcome_21 rfl ?_
        refine li_getr (k := 3) (N := 9) (T := TX8) (C0 := RX8) dX4_welcome_22 (by decide) sh_5 rfl rfl (by decide) (by decide) li_in8 w_186 ?_
        refine li_iload 0 dX4_welcome_25 rfl ?_
        refine li_callN (n := 2) (As := [.ref (Z.2.2 7), .int x5]) dX4_welcome_27 (k_X11_at (d - 1) (by omega) (by decide) sh_7 (by decide) x5 M2) (by omega) (Nat.le_of_ble_eq_true rfl) nw_13 w_569 w_101 w_570 (by decide +kernel) rfl rfl (Nat.le_of_ble_eq_true rfl) (fun r M7 h8 => ?_)
        obtain ⟨⟨x6, rfl⟩, h8⟩ := h8
        have hf := li_fr_trans hf h8 (fun i h => False.elim h)
        refine li_callN (n := 3) (As := [.ref (Z.2.2 14), .int x5, .int x6]) dX4_welcome_30 (k_X11_put (d - 1) (by omega) (by decide) sh_14 (by decide) x5 x6 M7) (by omega) (Nat.le_of_ble_eq_true rfl) nw_14 w_522 w_101 w_523 (by decide +kernel) rfl rfl (Nat.le_of_ble_eq_true rfl) (fun r M10 h11 => ?_)
        obtain ⟨rfl, h11⟩ := h11
        have hf := li_fr_trans hf h11 (fun i (h : i = 14) => (show i = 14 by omega))
        obtain ⟨x12, ex12⟩ : ∃ y : Int32, y = x1 + 1 := ⟨_, rfl⟩
        refine li_iinc 1 [(3, .int x12), (4, .int x5), (0, .ref (Z.2.2 13)), (1, .ref (Z.2.2 5)), (2, .int p1)] x12 dX4_welcome_33 rfl (by rw [ex12]; rfl) (by decide) rfl ?_
        refine li_goto 2 dX4_welcome_36 (by decide) ?_
        refine li_pick [0, 2, 3, 4] [(3, .int x12), (0, .ref (Z.2.2 13)), (1, .ref (Z.2.2 5)), (2, .int p1)] rfl ?_
        exact ih2 x12 M10 (by have h9 := li_up (li_gt c3); rw [← ex12] at h9; omega) hf
  exact L2 _ 0 M0 (Nat.lt_succ_self _) hf
set_option maxRecDepth 100000 in
set_option maxHeartbeats 4000000 in
theorem k_X4_allClocks {l : Launch} {Z : li_Z} (d : Nat) (hd : 2 ≤ d) (p1 : Int32) (M0 : li_M) : li_Met l Z YX4_allClocks d [.ref (Z.2.2 13), .int p1] M0 (li_SI (fun i => False) M0) := by
  refine li_enter (by decide +kernel) (Nat.le_of_ble_eq_true rfl) ?_
  show li_T l Z YX4_allClocks d 0 [(0, .ref (Z.2.2 13)), (1, .int p1)] [] M0 _
  have hf : li_fr (fun i => False) M0 M0 := li_fr_refl
  refine li_iconst 0 dX4_allClocks_0 (by decide) ?_
  refine li_istore_n [(2, .int 0), (0, .ref (Z.2.2 13)), (1, .int p1)] dX4_allClocks_1 (by decide) rfl ?_
  refine li_iconst 0 dX4_allClocks_2 (by decide) ?_
  refine li_istore_n [(3, .int 0), (2, .int 0), (0, .ref (Z.2.2 13)), (1, .int p1)] dX4_allClocks_3 (by decide) rfl ?_
  have L4 : ∀ (n : Nat) (x1 : Int32) (x2 : Int32) (M3 : li_M), (2147483647 - (x1 : Int32).toInt).toNat < n → li_fr (fun i => False) M0 M3 → li_T l Z YX4_allClocks d 4 [(3, .int x1), (2, .int x2), (0, .ref (Z.2.2 13)), (1, .int p1)] [] M3 (li_SI (fun i => False) M0) := by
    intro n
    induction n with
    | zero => intro x1 x2 M3 hn; exact absurd hn (Nat.not_lt_zero _)
    | succ n ih4 =>
      intro x1 x2 M3 hn hf
      refine li_iload_n 0 dX4_allClocks_4 rfl ?_
      refine li_iload_n 3 dX4_allClocks_5 rfl ?_
      refine li_icmp_ge 26 dX4_allClocks_6 (by decide) (fun c4 => ?_) (fun c4 => ?_)
      · refine li_iload_n 1 dX4_allClocks_26 rfl ?_
        exact li_iret dX4_allClocks_27 rfl rfl ⟨⟨_, rfl⟩, hf⟩
      · refine li_iload_n 1 dX4_allClocks_9 rfl ?_
        refine li_aload_n 2 dX4_allClocks_10 rfl ?_
        refine li_getr (k := 4) (N := 11) (T := TX4) (C0 := RX4) dX4_allClocks_11 (by decide) sh_13 rfl rfl (by decide) (by decide) li_in4 w_239 ?_
        refine li_iload_n 0 dX4_allClocks_14 rfl ?_
        refine li_callN (n := 2) (As := [.ref (Z.2.2 14), .int x1]) dX4_allClocks_15 (k_X11_at (d - 1) (by omega) (by decide) sh_14 (by decide) x1 M3) (by omega) (Nat.le_of_ble_eq_true rfl) nw_13 w_569 w_101 w_570 (by decide +kernel) rfl rfl (Nat.le_of_ble_eq_true rfl) (fun r M6 h7 => ?_)
        obtain ⟨⟨x5, rfl⟩, h7⟩ := h7
        have hf := li_fr_trans hf h7 (fun i h => False.elim h)
        refine li_iadd dX4_allClocks_18 ?_
        refine li_top (fun x8 ex8 => ?_)
        refine li_istore_n [(2, .int x8), (3, .int x1), (0, .ref (Z.2.2 13)), (1, .int p1)] dX4_allClocks_19 (by decide) rfl ?_
        obtain ⟨x9, ex9⟩ : ∃ y : Int32, y = x1 + 1 := ⟨_, rfl⟩
        refine li_iinc 1 [(3, .int x9), (2, .int x8), (0, .ref (Z.2.2 13)), (1, .int p1)] x9 dX4_allClocks_20 rfl (by rw [ex9]; rfl) (by decide) rfl ?_
        refine li_goto 4 dX4_allClocks_23 (by decide) ?_
        refine li_pick [0, 1, 2, 3] [(3, .int x9), (2, .int x8), (0, .ref (Z.2.2 13)), (1, .int p1)] rfl ?_
        exact ih4 x9 x8 M6 (by have h9 := li_up (li_gt c4); rw [← ex9] at h9; omega) hf
  exact L4 _ 0 0 M0 (Nat.lt_succ_self _) hf
set_option maxRecDepth 100000 in
set_option maxHeartbeats 4000000 in
theorem k_X4_isLate {l : Launch} {Z : li_Z} (d : Nat) (hd : 2 ≤ d) (p1 : Int32) (M0 : li_M) : li_Met l Z YX4_isLate d [.ref (Z.2.2 13), .ref (Z.2.2 5), .int p1] M0 (li_SZ (fun i => False) M0) := by
  refine li_enter (by decide +kernel) (Nat.le_of_ble_eq_true rfl) ?_
  show li_T l Z YX4_isLate d 0 [(0, .ref (Z.2.2 13)), (1, .ref (Z.2.2 5)), (2, .int p1)] [] M0 _
  have hf : li_fr (fun i => False) M0 M0 := li_fr_refl
  refine li_aload_n 1 dX4_isLate_0 rfl ?_
  refine li_getr (k := 7) (N := 9) (T := TX8) (C0 := RX8) dX4_isLate_1 (by decide) sh_5 rfl rfl (by decide) (by decide) li_in8 w_198 ?_
  refine li_iload_n 2 dX4_isLate_4 rfl ?_
  refine li_callN (n := 2) (As := [.ref (Z.2.2 11), .int p1]) dX4_isLate_5 (k_X11_at (d - 1) (by omega) (by decide) sh_11 (by decide) p1 M0) (by omega) (Nat.le_of_ble_eq_true rfl) nw_13 w_569 w_101 w_570 (by decide +kernel) rfl rfl (Nat.le_of_ble_eq_true rfl) (fun r M2 h3 => ?_)
  obtain ⟨⟨x1, rfl⟩, h3⟩ := h3
  have hf := li_fr_trans hf h3 (fun i h => False.elim h)
  refine li_aload_n 0 dX4_isLate_8 rfl ?_
  refine li_geti (k := 0) (N := 11) (T := TX4) (C0 := RX4) dX4_isLate_9 (by decide) sh_13 rfl rfl (by decide) li_in4 w_229 ?_
  refine li_top (fun x4 ex4 => ?_)
  refine li_bipush 100 dX4_isLate_12 (by decide) ?_
  refine li_irem dX4_isLate_14 (by decide) ?_
  refine li_top (fun x5 ex5 => ?_)
  refine li_icmp_ge 22 dX4_isLate_15 (by decide) (fun c6 => ?_) (fun c6 => ?_)
  · refine li_iconst 0 dX4_isLate_22 (by decide) ?_
    exact li_iret dX4_isLate_23 rfl (li_nz (Or.inl rfl)) ⟨⟨_, rfl, Or.inl rfl⟩, hf⟩
  · refine li_iconst 1 dX4_isLate_18 (by decide) ?_
    refine li_goto 23 dX4_isLate_19 (by decide) ?_
    exact li_iret dX4_isLate_23 rfl (li_nz (Or.inr rfl)) ⟨⟨_, rfl, Or.inr rfl⟩, hf⟩
set_option maxRecDepth 100000 in
set_option maxHeartbeats 4000000 in
theorem k_X4_spend {l : Launch} {Z : li_Z} (d : Nat) (hd : 2 ≤ d) (p1 : Int32) (p2 : Int32) (M0 : li_M) : li_Met l Z YX4_spend d [.ref (Z.2.2 13), .int p1, .int p2] M0 (li_SV (fun i => i = 14 ∨ i = 15) M0) := by
  refine li_enter (by decide +kernel) (Nat.le_of_ble_eq_true rfl) ?_
  show li_T l Z YX4_spend d 0 [(0, .ref (Z.2.2 13)), (1, .int p1), (2, .int p2)] [] M0 _
  have hf : li_fr (fun i => i = 14 ∨ i = 15) M0 M0 := li_fr_refl
  refine li_aload_n 0 dX4_spend_0 rfl ?_
  refine li_getr (k := 4) (N := 11) (T := TX4) (C0 := RX4) dX4_spend_1 (by decide) sh_13 rfl rfl (by decide) (by decide) li_in4 w_239 ?_
  refine li_iload_n 1 dX4_spend_4 rfl ?_
  refine li_aload_n 0 dX4_spend_5 rfl ?_
  refine li_getr (k := 4) (N := 11) (T := TX4) (C0 := RX4) dX4_spend_6 (by decide) sh_13 rfl rfl (by decide) (by decide) li_in4 w_239 ?_
  refine li_iload_n 1 dX4_spend_9 rfl ?_
  refine li_callN (n := 2) (As := [.ref (Z.2.2 14), .int p1]) dX4_spend_10 (k_X11_at (d - 1) (by omega) (by decide) sh_14 (by decide) p1 M0) (by omega) (Nat.le_of_ble_eq_true rfl) nw_13 w_569 w_101 w_570 (by decide +kernel) rfl rfl (Nat.le_of_ble_eq_true rfl) (fun r M2 h3 => ?_)
  obtain ⟨⟨x1, rfl⟩, h3⟩ := h3
  have hf := li_fr_trans hf h3 (fun i h => False.elim h)
  refine li_iload_n 2 dX4_spend_13 rfl ?_
  refine li_isub dX4_spend_14 ?_
  refine li_top (fun x4 ex4 => ?_)
  refine li_callN (n := 3) (As := [.ref (Z.2.2 14), .int p1, .int x4]) dX4_spend_15 (k_X11_put (d - 1) (by omega) (by decide) sh_14 (by decide) p1 x4 M2) (by omega) (Nat.le_of_ble_eq_true rfl) nw_14 w_522 w_101 w_523 (by decide +kernel) rfl rfl (Nat.le_of_ble_eq_true rfl) (fun r M6 h7 => ?_)
  obtain ⟨rfl, h7⟩ := h7
  have hf := li_fr_trans hf h7 (fun i (h : i = 14) => (show i = 14 ∨ i = 15 by omega))
  refine li_aload_n 0 dX4_spend_18 rfl ?_
  refine li_getr (k := 5) (N := 11) (T := TX4) (C0 := RX4) dX4_spend_19 (by decide) sh_13 rfl rfl (by decide) (by decide) li_in4 w_244 ?_
  refine li_iload_n 1 dX4_spend_22 rfl ?_
  refine li_aload_n 0 dX4_spend_23 rfl ?_
  refine li_getr (k := 5) (N := 11) (T := TX4) (C0 := RX4) dX4_spend_24 (by decide) sh_13 rfl rfl (by decide) (by decide) li_in4 w_244 ?_
  refine li_iload_n 1 dX4_spend_27 rfl ?_
  refine li_callN (n := 2) (As := [.ref (Z.2.2 15), .int p1]) dX4_spend_28 (k_X11_at (d - 1) (by omega) (by decide) sh_15 (by decide) p1 M6) (by omega) (Nat.le_of_ble_eq_true rfl) nw_13 w_569 w_101 w_570 (by decide +kernel) rfl rfl (Nat.le_of_ble_eq_true rfl) (fun r M9 h10 => ?_)
  obtain ⟨⟨x8, rfl⟩, h10⟩ := h10
  have hf := li_fr_trans hf h10 (fun i h => False.elim h)
  refine li_iload_n 2 dX4_spend_31 rfl ?_
  refine li_iadd dX4_spend_32 ?_
  refine li_top (fun x11 ex11 => ?_)
  refine li_callN (n := 3) (As := [.ref (Z.2.2 15), .int p1, .int x11]) dX4_spend_33 (k_X11_put (d - 1) (by omega) (by decide) sh_15 (by decide) p1 x11 M9) (by omega) (Nat.le_of_ble_eq_true rfl) nw_14 w_522 w_101 w_523 (by decide +kernel) rfl rfl (Nat.le_of_ble_eq_true rfl) (fun r M13 h14 => ?_)
  obtain ⟨rfl, h14⟩ := h14
  have hf := li_fr_trans hf h14 (fun i (h : i = 15) => (show i = 14 ∨ i = 15 by omega))
  exact li_vret dX4_spend_36 rfl ⟨rfl, hf⟩
set_option maxRecDepth 100000 in
set_option maxHeartbeats 4000000 in
theorem k_X4_carry {l : Launch} {Z : li_Z} (d : Nat) (hd : 2 ≤ d) (p1 : Int32) (p2 : Int32) (p3 : Int32) (M0 : li_M) : li_Met l Z YX4_carry d [.ref (Z.2.2 13), .int p1, .int p2, .int p3] M0 (li_SV (fun i => i = 14) M0) := by
  refine li_enter (by decide +kernel) (Nat.le_of_ble_eq_true rfl) ?_
  show li_T l Z YX4_carry d 0 [(0, .ref (Z.2.2 13)), (1, .int p1), (2, .int p2), (3, .int p3)] [] M0 _
  have hf : li_fr (fun i => i = 14) M0 M0 := li_fr_refl
  refine li_aload_n 0 dX4_carry_0 rfl ?_
  refine li_getr (k := 4) (N := 11) (T := TX4) (C0 := RX4) dX4_carry_1 (by decide) sh_13 rfl rfl (by decide) (by decide) li_in4 w_239 ?_
  refine li_iload_n 1 dX4_carry_4 rfl ?_
  refine li_aload_n 0 dX4_carry_5 rfl ?_
  refine li_getr (k := 4) (N := 11) (T := TX4) (C0 := RX4) dX4_carry_6 (by decide) sh_13 rfl rfl (by decide) (by decide) li_in4 w_239 ?_
  refine li_iload_n 1 dX4_carry_9 rfl ?_
  refine li_callN (n := 2) (As := [.ref (Z.2.2 14), .int p1]) dX4_carry_10 (k_X11_at (d - 1) (by omega) (by decide) sh_14 (by decide) p1 M0) (by omega) (Nat.le_of_ble_eq_true rfl) nw_13 w_569 w_101 w_570 (by decide +kernel) rfl rfl (Nat.le_of_ble_eq_true rfl) (fun r M2 h3 => ?_)
  obtain ⟨⟨x1, rfl⟩, h3⟩ := h3
  have hf := li_fr_trans hf h3 (fun i h => False.elim h)
  refine li_iload_n 3 dX4_carry_13 rfl ?_
  refine li_isub dX4_carry_14 ?_
  refine li_top (fun x4 ex4 => ?_)
  refine li_callN (n := 3) (As := [.ref (Z.2.2 14), .int p1, .int x4]) dX4_carry_15 (k_X11_put (d - 1) (by omega) (by decide) sh_14 (by decide) p1 x4 M2) (by omega) (Nat.le_of_ble_eq_true rfl) nw_14 w_522 w_101 w_523 (by decide +kernel) rfl rfl (Nat.le_of_ble_eq_true rfl) (fun r M6 h7 => ?_)
  obtain ⟨rfl, h7⟩ := h7
  have hf := li_fr_trans hf h7 (fun i (h : i = 14) => (show i = 14 by omega))
  refine li_aload_n 0 dX4_carry_18 rfl ?_
  refine li_getr (k := 4) (N := 11) (T := TX4) (C0 := RX4) dX4_carry_19 (by decide) sh_13 rfl rfl (by decide) (by decide) li_in4 w_239 ?_
  refine li_iload_n 2 dX4_carry_22 rfl ?_
  refine li_aload_n 0 dX4_carry_23 rfl ?_
  refine li_getr (k := 4) (N := 11) (T := TX4) (C0 := RX4) dX4_carry_24 (by decide) sh_13 rfl rfl (by decide) (by decide) li_in4 w_239 ?_
  refine li_iload_n 2 dX4_carry_27 rfl ?_
  refine li_callN (n := 2) (As := [.ref (Z.2.2 14), .int p2]) dX4_carry_28 (k_X11_at (d - 1) (by omega) (by decide) sh_14 (by decide) p2 M6) (by omega) (Nat.le_of_ble_eq_true rfl) nw_13 w_569 w_101 w_570 (by decide +kernel) rfl rfl (Nat.le_of_ble_eq_true rfl) (fun r M9 h10 => ?_)
  obtain ⟨⟨x8, rfl⟩, h10⟩ := h10
  have hf := li_fr_trans hf h10 (fun i h => False.elim h)
  refine li_iload_n 3 dX4_carry_31 rfl ?_
  refine li_iadd dX4_carry_32 ?_
  refine li_top (fun x11 ex11 => ?_)
  refine li_sipush 9999 dX4_carry_33 (by decide) ?_
  refine li_mmin dX4_carry_36 (by omega) w_893 w_726 w_113 w_727 (Nat.le_of_ble_eq_true rfl) ?_
  refine li_top (fun x12 ex12 => ?_)
  refine li_callN (n := 3) (As := [.ref (Z.2.2 14), .int p2, .int x12]) dX4_carry_39 (k_X11_put (d - 1) (by omega) (by decide) sh_14 (by decide) p2 x12 M9) (by omega) (Nat.le_of_ble_eq_true rfl) nw_14 w_522 w_101 w_523 (by decide +kernel) rfl rfl (Nat.le_of_ble_eq_true rfl) (fun r M14 h15 => ?_)
  obtain ⟨rfl, h15⟩ := h15
  have hf := li_fr_trans hf h15 (fun i (h : i = 14) => (show i = 14 by omega))
  exact li_vret dX4_carry_42 rfl ⟨rfl, hf⟩
set_option maxRecDepth 100000 in
set_option maxHeartbeats 4000000 in
theorem k_X4_write {l : Launch} {Z : li_Z} (d : Nat) (hd : 2 ≤ d) (p1 : Int32) (p2 : Int32) (p3 : Int32) (p4 : Int32) (M0 : li_M) : li_Met l Z YX4_write d [.ref (Z.2.2 13), .int p1, .int p2, .int p3, .int p4] M0 (li_SI (fun i => i = 13 ∨ i = 17 ∨ i = 18 ∨ i = 19 ∨ i = 20) M0) := by
  refine li_enter (by decide +kernel) (Nat.le_of_ble_eq_true rfl) ?_
  show li_T l Z YX4_write d 0 [(0, .ref (Z.2.2 13)), (1, .int p1), (2, .int p2), (3, .int p3), (4, .int p4)] [] M0 _
  have hf : li_fr (fun i => i = 13 ∨ i = 17 ∨ i = 18 ∨ i = 19 ∨ i = 20) M0 M0 := li_fr_refl
  refine li_aload_n 0 dX4_write_0 rfl ?_
  refine li_geti (k := 2) (N := 11) (T := TX4) (C0 := RX4) dX4_write_1 (by decide) sh_13 rfl rfl (by decide) li_in4 w_235 ?_
  refine li_top (fun x1 ex1 => ?_)
  refine li_istore [(5, .int x1), (0, .ref (Z.2.2 13)), (1, .int p1), (2, .int p2), (3, .int p3), (4, .int p4)] dX4_write_4 (by decide) rfl ?_
  refine li_aload_n 1 dX4_write_6 rfl ?_
  refine li_getr (k := 7) (N := 11) (T := TX4) (C0 := RX4) dX4_write_7 (by decide) sh_13 rfl rfl (by decide) (by decide) li_in4 w_248 ?_
  refine li_iload 0 dX4_write_10 rfl ?_
  refine li_iload_n 2 dX4_write_12 rfl ?_
  refine li_callN (n := 3) (As := [.ref (Z.2.2 17), .int x1, .int p1]) dX4_write_13 (k_X11_put (d - 1) (by omega) (by decide) sh_17 (by decide) x1 p1 M0) (by omega) (Nat.le_of_ble_eq_true rfl) nw_14 w_522 w_101 w_523 (by decide +kernel) rfl rfl (Nat.le_of_ble_eq_true rfl) (fun r M3 h4 => ?_)
  obtain ⟨rfl, h4⟩ := h4
  have hf := li_fr_trans hf h4 (fun i (h : i = 17) => (show i = 13 ∨ i = 17 ∨ i = 18 ∨ i = 19 ∨ i = 20 by omega))
  refine li_aload_n 1 dX4_write_16 rfl ?_
  refine li_getr (k := 8) (N := 11) (T := TX4) (C0 := RX4) dX4_write_17 (by decide) sh_13 rfl rfl (by decide) (by decide) li_in4 w_250 ?_
  refine li_iload 0 dX4_write_20 rfl ?_
  refine li_iload_n 3 dX4_write_22 rfl ?_
  refine li_callN (n := 3) (As := [.ref (Z.2.2 18), .int x1, .int p2]) dX4_write_23 (k_X11_put (d - 1) (by omega) (by decide) sh_18 (by decide) x1 p2 M3) (by omega) (Nat.le_of_ble_eq_true rfl) nw_14 w_522 w_101 w_523 (by decide +kernel) rfl rfl (Nat.le_of_ble_eq_true rfl) (fun r M6 h7 => ?_)
  obtain ⟨rfl, h7⟩ := h7
  have hf := li_fr_trans hf h7 (fun i (h : i = 18) => (show i = 13 ∨ i = 17 ∨ i = 18 ∨ i = 19 ∨ i = 20 by omega))
  refine li_aload_n 1 dX4_write_26 rfl ?_
  refine li_getr (k := 10) (N := 11) (T := TX4) (C0 := RX4) dX4_write_27 (by decide) sh_13 rfl rfl (by decide) (by decide) li_in4 w_254 ?_
  refine li_iload 0 dX4_write_30 rfl ?_
  refine li_iload_n 4 dX4_write_32 rfl ?_
  refine li_i2l dX4_write_33 ?_
  refine li_topL (fun x8 ex8 => ?_)
  refine li_callN (n := 3) (As := [.ref (Z.2.2 20), .int x1, .long x8]) dX4_write_34 (k_X11_putWord (d - 1) (by omega) (by decide) sh_20 (by decide) x1 x8 M6) (by omega) (Nat.le_of_ble_eq_true rfl) nw_20 w_903 w_101 w_904 (by decide +kernel) rfl rfl (Nat.le_of_ble_eq_true rfl) (fun r M10 h11 => ?_)
  obtain ⟨rfl, h11⟩ := h11
  have hf := li_fr_trans hf h11 (fun i (h : i = 20) => (show i = 13 ∨ i = 17 ∨ i = 18 ∨ i = 19 ∨ i = 20 by omega))
  refine li_aload_n 1 dX4_write_37 rfl ?_
  refine li_getr (k := 9) (N := 11) (T := TX4) (C0 := RX4) dX4_write_38 (by decide) sh_13 rfl rfl (by decide) (by decide) li_in4 w_252 ?_
  refine li_iload 0 dX4_write_41 rfl ?_
  refine li_iload 5 dX4_write_43 rfl ?_
  refine li_callN (n := 3) (As := [.ref (Z.2.2 19), .int x1, .int p4]) dX4_write_45 (k_X11_put (d - 1) (by omega) (by decide) sh_19 (by decide) x1 p4 M10) (by omega) (Nat.le_of_ble_eq_true rfl) nw_14 w_522 w_101 w_523 (by decide +kernel) rfl rfl (Nat.le_of_ble_eq_true rfl) (fun r M13 h14 => ?_)
  obtain ⟨rfl, h14⟩ := h14
  have hf := li_fr_trans hf h14 (fun i (h : i = 19) => (show i = 13 ∨ i = 17 ∨ i = 18 ∨ i = 19 ∨ i = 20 by omega))
  refine li_aload_n 1 dX4_write_48 rfl ?_
  refine li_dup dX4_write_49 rfl ?_
  refine li_geti (k := 2) (N := 11) (T := TX4) (C0 := RX4) dX4_write_50 (by decide) sh_13 rfl rfl (by decide) li_in4 w_235 ?_
  refine li_top (fun x15 ex15 => ?_)
  refine li_iconst 1 dX4_write_53 (by decide) ?_
  refine li_iadd dX4_write_54 ?_
  refine li_top (fun x16 ex16 => ?_)
  refine li_puti (k := 2) (N := 11) (T := TX4) (C0 := RX4) dX4_write_55 (by decide) sh_13 rfl rfl (by decide) li_in4 tyX4_ok nmX4 rfl rfl rfl rfl w_235 ?_
  refine li_nm (fun M17 eM17 => ?_)
  have hf := li_fr_ui hf (show 13 = 13 ∨ 13 = 17 ∨ 13 = 18 ∨ 13 = 19 ∨ 13 = 20 by omega) eM17
  refine li_iload 0 dX4_write_58 rfl ?_
  exact li_iret dX4_write_60 rfl rfl ⟨⟨_, rfl⟩, hf⟩
set_option maxRecDepth 100000 in
set_option maxHeartbeats 4000000 in
theorem k_X4_isOpen {l : Launch} {Z : li_Z} (d : Nat) (hd : 2 ≤ d) (p1 : Int32) (M0 : li_M) : li_Met l Z YX4_isOpen d [.ref (Z.2.2 13), .int p1] M0 (li_SZ (fun i => False) M0) := by
  refine li_enter (by decide +kernel) (Nat.le_of_ble_eq_true rfl) ?_
  show li_T l Z YX4_isOpen d 0 [(0, .ref (Z.2.2 13)), (1, .int p1)] [] M0 _
  have hf : li_fr (fun i => False) M0 M0 := li_fr_refl
  refine li_iload_n 1 dX4_isOpen_0 rfl ?_
  refine li_aload_n 0 dX4_isOpen_1 rfl ?_
  refine li_geti (k := 2) (N := 11) (T := TX4) (C0 := RX4) dX4_isOpen_2 (by decide) sh_13 rfl rfl (by decide) li_in4 w_235 ?_
  refine li_top (fun x1 ex1 => ?_)
  refine li_icmp_ge 23 dX4_isOpen_5 (by decide) (fun c2 => ?_) (fun c2 => ?_)
  · refine li_iconst 0 dX4_isOpen_23 (by decide) ?_
    exact li_iret dX4_isOpen_24 rfl (li_nz (Or.inl rfl)) ⟨⟨_, rfl, Or.inl rfl⟩, hf⟩
  · refine li_aload_n 0 dX4_isOpen_8 rfl ?_
    refine li_geti (k := 3) (N := 11) (T := TX4) (C0 := RX4) dX4_isOpen_9 (by decide) sh_13 rfl rfl (by decide) li_in4 w_237 ?_
    refine li_top (fun x3 ex3 => ?_)
    refine li_iload_n 1 dX4_isOpen_12 rfl ?_
    refine li_callN (n := 2) (As := [.int x3, .int p1]) dX4_isOpen_13 (k_X11_holds (d - 1) (by omega) x3 p1 M0) (by omega) (Nat.le_of_ble_eq_true rfl) nw_22 w_857 w_101 w_858 (by decide +kernel) rfl rfl (Nat.le_of_ble_eq_true rfl) (fun r M5 h6 => ?_)
    obtain ⟨⟨x4, rfl, bx4⟩, h6⟩ := h6
    have hf := li_fr_trans hf h6 (fun i h => False.elim h)
    refine li_if_ne 23 dX4_isOpen_16 (by decide) (fun c7 => ?_) (fun c7 => ?_)
    · refine li_iconst 0 dX4_isOpen_23 (by decide) ?_
      exact li_iret dX4_isOpen_24 rfl (li_nz (Or.inl rfl)) ⟨⟨_, rfl, Or.inl rfl⟩, hf⟩
    · refine li_iconst 1 dX4_isOpen_19 (by decide) ?_
      refine li_goto 24 dX4_isOpen_20 (by decide) ?_
      exact li_iret dX4_isOpen_24 rfl (li_nz (Or.inr rfl)) ⟨⟨_, rfl, Or.inr rfl⟩, hf⟩
set_option maxRecDepth 100000 in
set_option maxHeartbeats 4000000 in
theorem k_X4_owedByAll {l : Launch} {Z : li_Z} (d : Nat) (hd : 3 ≤ d) (p1 : Int32) (M0 : li_M) : li_Met l Z YX4_owedByAll d [.ref (Z.2.2 13), .int p1] M0 (li_SL (fun i => False) M0) := by
  refine li_enter (by decide +kernel) (Nat.le_of_ble_eq_true rfl) ?_
  show li_T l Z YX4_owedByAll d 0 [(0, .ref (Z.2.2 13)), (1, .int p1)] [] M0 _
  have hf : li_fr (fun i => False) M0 M0 := li_fr_refl
  refine li_lconst 0 dX4_owedByAll_0 (by decide) ?_
  refine li_lstore_n [(2, .long 0), (0, .ref (Z.2.2 13)), (1, .int p1)] dX4_owedByAll_1 (by decide) rfl ?_
  refine li_iconst 0 dX4_owedByAll_2 (by decide) ?_
  refine li_istore [(4, .int 0), (2, .long 0), (0, .ref (Z.2.2 13)), (1, .int p1)] dX4_owedByAll_3 (by decide) rfl ?_
  have L5 : ∀ (n : Nat) (x1 : Int32) (x2 : Int64) (M3 : li_M), (2147483647 - (x1 : Int32).toInt).toNat < n → li_fr (fun i => False) M0 M3 → li_T l Z YX4_owedByAll d 5 [(4, .int x1), (2, .long x2), (0, .ref (Z.2.2 13)), (1, .int p1)] [] M3 (li_SL (fun i => False) M0) := by
    intro n
    induction n with
    | zero => intro x1 x2 M3 hn; exact absurd hn (Nat.not_lt_zero _)
    | succ n ih5 =>
      intro x1 x2 M3 hn hf
      refine li_iload 0 dX4_owedByAll_5 rfl ?_
      refine li_aload_n 2 dX4_owedByAll_7 rfl ?_
      refine li_geti (k := 2) (N := 11) (T := TX4) (C0 := RX4) dX4_owedByAll_8 (by decide) sh_13 rfl rfl (by decide) li_in4 w_235 ?_
      refine li_top (fun x4 ex4 => ?_)
      refine li_icmp_ge 57 dX4_owedByAll_11 (by decide) (fun c5 => ?_) (fun c5 => ?_)
      · refine li_lload_n 1 dX4_owedByAll_57 rfl ?_
        exact li_lret dX4_owedByAll_58 rfl ⟨⟨_, rfl⟩, hf⟩
      · refine li_aload_n 2 dX4_owedByAll_14 rfl ?_
        refine li_iload 0 dX4_owedByAll_15 rfl ?_
        refine li_callV (n := 1) (As := [.int x1]) dX4_owedByAll_17 (k_X4_isOpen (d - 1) (by omega) x1 M3) (by omega) (Nat.le_of_ble_eq_true rfl) w_933 w_934 w_935 w_105 w_936 (by decide +kernel) rfl (by decide) sh_13 rfl rfl (Nat.le_of_ble_eq_true rfl) (fun r M7 h8 => ?_)
        obtain ⟨⟨x6, rfl, bx6⟩, h8⟩ := h8
        have hf := li_fr_trans hf h8 (fun i h => False.elim h)
        have J51 : ∀ (x10 : Int64) (M11 : li_M), li_fr (fun i => False) M0 M11 → li_T l Z YX4_owedByAll d 51 [(4, .int x1), (2, .long x10), (0, .ref (Z.2.2 13)), (1, .int p1)] [] M11 (li_SL (fun i => False) M0) := by
          intro x10 M11 hf
          obtain ⟨x12, ex12⟩ : ∃ y : Int32, y = x1 + 1 := ⟨_, rfl⟩
          refine li_iinc 0 [(4, .int x12), (2, .long x10), (0, .ref (Z.2.2 13)), (1, .int p1)] x12 dX4_owedByAll_51 rfl (by rw [ex12]; rfl) (by decide) rfl ?_
          refine li_goto 5 dX4_owedByAll_54 (by decide) ?_
          refine li_pick [0, 1, 2, 3] [(4, .int x12), (2, .long x10), (0, .ref (Z.2.2 13)), (1, .int p1)] rfl ?_
          exact ih5 x12 x10 M11 (by have h9 := li_up (li_gt c5); rw [← ex12] at h9; omega) hf
        refine li_if_eq 51 dX4_owedByAll_20 (by decide) (fun c9 => ?_) (fun c9 => ?_)
        · refine li_pick [0, 1, 2, 3] [(4, .int x1), (2, .long x2), (0, .ref (Z.2.2 13)), (1, .int p1)] rfl ?_
          exact J51 x2 M7 hf
        · refine li_iload_n 3 dX4_owedByAll_23 rfl ?_
          refine li_aload_n 2 dX4_owedByAll_24 rfl ?_
          refine li_getr (k := 8) (N := 11) (T := TX4) (C0 := RX4) dX4_owedByAll_25 (by decide) sh_13 rfl rfl (by decide) (by decide) li_in4 w_250 ?_
          refine li_iload 0 dX4_owedByAll_28 rfl ?_
          refine li_callN (n := 2) (As := [.ref (Z.2.2 18), .int x1]) dX4_owedByAll_30 (k_X11_at (d - 1) (by omega) (by decide) sh_18 (by decide) x1 M7) (by omega) (Nat.le_of_ble_eq_true rfl) nw_13 w_569 w_101 w_570 (by decide +kernel) rfl rfl (Nat.le_of_ble_eq_true rfl) (fun r M14 h15 => ?_)
          obtain ⟨⟨x13, rfl⟩, h15⟩ := h15
          have hf := li_fr_trans hf h15 (fun i h => False.elim h)
          refine li_callN (n := 2) (As := [.int p1, .int x13]) dX4_owedByAll_33 (k_X11_holds (d - 1) (by omega) p1 x13 M14) (by omega) (Nat.le_of_ble_eq_true rfl) nw_22 w_857 w_101 w_858 (by decide +kernel) rfl rfl (Nat.le_of_ble_eq_true rfl) (fun r M17 h18 => ?_)
          obtain ⟨⟨x16, rfl, bx16⟩, h18⟩ := h18
          have hf := li_fr_trans hf h18 (fun i h => False.elim h)
          refine li_if_eq 51 dX4_owedByAll_36 (by decide) (fun c19 => ?_) (fun c19 => ?_)
          · refine li_pick [0, 1, 2, 3] [(4, .int x1), (2, .long x2), (0, .ref (Z.2.2 13)), (1, .int p1)] rfl ?_
            exact J51 x2 M17 hf
          · refine li_lload_n 1 dX4_owedByAll_39 rfl ?_
            refine li_aload_n 2 dX4_owedByAll_40 rfl ?_
            refine li_getr (k := 10) (N := 11) (T := TX4) (C0 := RX4) dX4_owedByAll_41 (by decide) sh_13 rfl rfl (by decide) (by decide) li_in4 w_254 ?_
            refine li_iload 0 dX4_owedByAll_44 rfl ?_
            refine li_callN (n := 2) (As := [.ref (Z.2.2 20), .int x1]) dX4_owedByAll_46 (k_X11_wordAt (d - 1) (by omega) (by decide) sh_20 (by decide) x1 M17) (by omega) (Nat.le_of_ble_eq_true rfl) nw_21 w_919 w_101 w_920 (by decide +kernel) rfl rfl (Nat.le_of_ble_eq_true rfl) (fun r M21 h22 => ?_)
            obtain ⟨⟨x20, rfl⟩, h22⟩ := h22
            have hf := li_fr_trans hf h22 (fun i h => False.elim h)
            refine li_ladd dX4_owedByAll_49 ?_
            refine li_topL (fun x23 ex23 => ?_)
            refine li_lstore_n [(2, .long x23), (4, .int x1), (0, .ref (Z.2.2 13)), (1, .int p1)] dX4_owedByAll_50 (by decide) rfl ?_
            refine li_pick [1, 0, 2, 3] [(4, .int x1), (2, .long x23), (0, .ref (Z.2.2 13)), (1, .int p1)] rfl ?_
            exact J51 x23 M21 hf
  exact L5 _ 0 0 M0 (Nat.lt_succ_self _) hf
set_option maxRecDepth 100000 in
set_option maxHeartbeats 4000000 in
theorem k_X4_owedBy {l : Launch} {Z : li_Z} (d : Nat) (hd : 4 ≤ d) (p1 : Int32) (M0 : li_M) : li_Met l Z YX4_owedBy d [.ref (Z.2.2 13), .int p1] M0 (li_SL (fun i => False) M0) := by
  refine li_enter (by decide +kernel) (Nat.le_of_ble_eq_true rfl) ?_
  show li_T l Z YX4_owedBy d 0 [(0, .ref (Z.2.2 13)), (1, .int p1)] [] M0 _
  have hf : li_fr (fun i => False) M0 M0 := li_fr_refl
  refine li_aload_n 0 dX4_owedBy_0 rfl ?_
  refine li_iconst 1 dX4_owedBy_1 (by decide) ?_
  refine li_iload_n 1 dX4_owedBy_2 rfl ?_
  refine li_ishl dX4_owedBy_3 ?_
  refine li_top (fun x1 ex1 => ?_)
  refine li_callV (n := 1) (As := [.int x1]) dX4_owedBy_4 (k_X4_owedByAll (d - 1) (by omega) x1 M0) (by omega) (Nat.le_of_ble_eq_true rfl) w_1248 w_1249 w_1250 w_105 w_1251 (by decide +kernel) rfl (by decide) sh_13 rfl rfl (Nat.le_of_ble_eq_true rfl) (fun r M3 h4 => ?_)
  obtain ⟨⟨x2, rfl⟩, h4⟩ := h4
  have hf := li_fr_trans hf h4 (fun i h => False.elim h)
  exact li_lret dX4_owedBy_7 rfl ⟨⟨_, rfl⟩, hf⟩
set_option maxRecDepth 100000 in
set_option maxHeartbeats 4000000 in
theorem k_X4_owedToBut {l : Launch} {Z : li_Z} (d : Nat) (hd : 3 ≤ d) (p1 : Int32) (p2 : Int32) (M0 : li_M) : li_Met l Z YX4_owedToBut d [.ref (Z.2.2 13), .int p1, .int p2] M0 (li_SL (fun i => False) M0) := by
  refine li_enter (by decide +kernel) (Nat.le_of_ble_eq_true rfl) ?_
  show li_T l Z YX4_owedToBut d 0 [(0, .ref (Z.2.2 13)), (1, .int p1), (2, .int p2)] [] M0 _
  have hf : li_fr (fun i => False) M0 M0 := li_fr_refl
  refine li_lconst 0 dX4_owedToBut_0 (by decide) ?_
  refine li_lstore_n [(3, .long 0), (0, .ref (Z.2.2 13)), (1, .int p1), (2, .int p2)] dX4_owedToBut_1 (by decide) rfl ?_
  refine li_iconst 0 dX4_owedToBut_2 (by decide) ?_
  refine li_istore [(5, .int 0), (3, .long 0), (0, .ref (Z.2.2 13)), (1, .int p1), (2, .int p2)] dX4_owedToBut_3 (by decide) rfl ?_
  have L5 : ∀ (n : Nat) (x1 : Int32) (x2 : Int64) (M3 : li_M), (2147483647 - (x1 : Int32).toInt).toNat < n → li_fr (fun i => False) M0 M3 → li_T l Z YX4_owedToBut d 5 [(5, .int x1), (3, .long x2), (0, .ref (Z.2.2 13)), (1, .int p1), (2, .int p2)] [] M3 (li_SL (fun i => False) M0) := by
    intro n
    induction n with
    | zero => intro x1 x2 M3 hn; exact absurd hn (Nat.not_lt_zero _)
    | succ n ih5 =>
      intro x1 x2 M3 hn hf
      refine li_iload 0 dX4_owedToBut_5 rfl ?_
      refine li_aload_n 2 dX4_owedToBut_7 rfl ?_
      refine li_geti (k := 2) (N := 11) (T := TX4) (C0 := RX4) dX4_owedToBut_8 (by decide) sh_13 rfl rfl (by decide) li_in4 w_235 ?_
      refine li_top (fun x4 ex4 => ?_)
      refine li_icmp_ge 70 dX4_owedToBut_11 (by decide) (fun c5 => ?_) (fun c5 => ?_)
      · refine li_lload_n 1 dX4_owedToBut_70 rfl ?_
        exact li_lret dX4_owedToBut_71 rfl ⟨⟨_, rfl⟩, hf⟩
      · refine li_aload_n 2 dX4_owedToBut_14 rfl ?_
        refine li_iload 0 dX4_owedToBut_15 rfl ?_
        refine li_callV (n := 1) (As := [.int x1]) dX4_owedToBut_17 (k_X4_isOpen (d - 1) (by omega) x1 M3) (by omega) (Nat.le_of_ble_eq_true rfl) w_933 w_934 w_935 w_105 w_936 (by decide +kernel) rfl (by decide) sh_13 rfl rfl (Nat.le_of_ble_eq_true rfl) (fun r M7 h8 => ?_)
        obtain ⟨⟨x6, rfl, bx6⟩, h8⟩ := h8
        have hf := li_fr_trans hf h8 (fun i h => False.elim h)
        have J64 : ∀ (x10 : Int64) (M11 : li_M), li_fr (fun i => False) M0 M11 → li_T l Z YX4_owedToBut d 64 [(5, .int x1), (3, .long x10), (0, .ref (Z.2.2 13)), (1, .int p1), (2, .int p2)] [] M11 (li_SL (fun i => False) M0) := by
          intro x10 M11 hf
          obtain ⟨x12, ex12⟩ : ∃ y : Int32, y = x1 + 1 := ⟨_, rfl⟩
          refine li_iinc 0 [(5, .int x12), (3, .long x10), (0, .ref (Z.2.2 13)), (1, .int p1), (2, .int p2)] x12 dX4_owedToBut_64 rfl (by rw [ex12]; rfl) (by decide) rfl ?_
          refine li_goto 5 dX4_owedToBut_67 (by decide) ?_
          refine li_pick [0, 1, 2, 3, 4] [(5, .int x12), (3, .long x10), (0, .ref (Z.2.2 13)), (1, .int p1), (2, .int p2)] rfl ?_
          exact ih5 x12 x10 M11 (by have h9 := li_up (li_gt c5); rw [← ex12] at h9; omega) hf
        refine li_if_eq 64 dX4_owedToBut_20 (by decide) (fun c9 => ?_) (fun c9 => ?_)
        · refine li_pick [0, 1, 2, 3, 4] [(5, .int x1), (3, .long x2), (0, .ref (Z.2.2 13)), (1, .int p1), (2, .int p2)] rfl ?_
          exact J64 x2 M7 hf
        · refine li_aload_n 2 dX4_owedToBut_23 rfl ?_
          refine li_getr (k := 7) (N := 11) (T := TX4) (C0 := RX4) dX4_owedToBut_24 (by decide) sh_13 rfl rfl (by decide) (by decide) li_in4 w_248 ?_
          refine li_iload 0 dX4_owedToBut_27 rfl ?_
          refine li_callN (n := 2) (As := [.ref (Z.2.2 17), .int x1]) dX4_owedToBut_29 (k_X11_at (d - 1) (by omega) (by decide) sh_17 (by decide) x1 M7) (by omega) (Nat.le_of_ble_eq_true rfl) nw_13 w_569 w_101 w_570 (by decide +kernel) rfl rfl (Nat.le_of_ble_eq_true rfl) (fun r M14 h15 => ?_)
          obtain ⟨⟨x13, rfl⟩, h15⟩ := h15
          have hf := li_fr_trans hf h15 (fun i h => False.elim h)
          refine li_iload_n 3 dX4_owedToBut_32 rfl ?_
          refine li_icmp_ne 64 dX4_owedToBut_33 (by decide) (fun c16 => ?_) (fun c16 => ?_)
          · refine li_pick [0, 1, 2, 3, 4] [(5, .int x1), (3, .long x2), (0, .ref (Z.2.2 13)), (1, .int p1), (2, .int p2)] rfl ?_
            exact J64 x2 M14 hf
          · refine li_iload_n 4 dX4_owedToBut_36 rfl ?_
            refine li_aload_n 2 dX4_owedToBut_37 rfl ?_
            refine li_getr (k := 8) (N := 11) (T := TX4) (C0 := RX4) dX4_owedToBut_38 (by decide) sh_13 rfl rfl (by decide) (by decide) li_in4 w_250 ?_
            refine li_iload 0 dX4_owedToBut_41 rfl ?_
            refine li_callN (n := 2) (As := [.ref (Z.2.2 18), .int x1]) dX4_owedToBut_43 (k_X11_at (d - 1) (by omega) (by decide) sh_18 (by decide) x1 M14) (by omega) (Nat.le_of_ble_eq_true rfl) nw_13 w_569 w_101 w_570 (by decide +kernel) rfl rfl (Nat.le_of_ble_eq_true rfl) (fun r M18 h19 => ?_)
            obtain ⟨⟨x17, rfl⟩, h19⟩ := h19
            have hf := li_fr_trans hf h19 (fun i h => False.elim h)
            refine li_callN (n := 2) (As := [.int p2, .int x17]) dX4_owedToBut_46 (k_X11_holds (d - 1) (by omega) p2 x17 M18) (by omega) (Nat.le_of_ble_eq_true rfl) nw_22 w_857 w_101 w_858 (by decide +kernel) rfl rfl (Nat.le_of_ble_eq_true rfl) (fun r M21 h22 => ?_)
            obtain ⟨⟨x20, rfl, bx20⟩, h22⟩ := h22
            have hf := li_fr_trans hf h22 (fun i h => False.elim h)
            refine li_if_ne 64 dX4_owedToBut_49 (by decide) (fun c23 => ?_) (fun c23 => ?_)
            · refine li_pick [0, 1, 2, 3, 4] [(5, .int x1), (3, .long x2), (0, .ref (Z.2.2 13)), (1, .int p1), (2, .int p2)] rfl ?_
              exact J64 x2 M21 hf
            · refine li_lload_n 1 dX4_owedToBut_52 rfl ?_
              refine li_aload_n 2 dX4_owedToBut_53 rfl ?_
              refine li_getr (k := 10) (N := 11) (T := TX4) (C0 := RX4) dX4_owedToBut_54 (by decide) sh_13 rfl rfl (by decide) (by decide) li_in4 w_254 ?_
              refine li_iload 0 dX4_owedToBut_57 rfl ?_
              refine li_callN (n := 2) (As := [.ref (Z.2.2 20), .int x1]) dX4_owedToBut_59 (k_X11_wordAt (d - 1) (by omega) (by decide) sh_20 (by decide) x1 M21) (by omega) (Nat.le_of_ble_eq_true rfl) nw_21 w_919 w_101 w_920 (by decide +kernel) rfl rfl (Nat.le_of_ble_eq_true rfl) (fun r M25 h26 => ?_)
              obtain ⟨⟨x24, rfl⟩, h26⟩ := h26
              have hf := li_fr_trans hf h26 (fun i h => False.elim h)
              refine li_ladd dX4_owedToBut_62 ?_
              refine li_topL (fun x27 ex27 => ?_)
              refine li_lstore_n [(3, .long x27), (5, .int x1), (0, .ref (Z.2.2 13)), (1, .int p1), (2, .int p2)] dX4_owedToBut_63 (by decide) rfl ?_
              refine li_pick [1, 0, 2, 3, 4] [(5, .int x1), (3, .long x27), (0, .ref (Z.2.2 13)), (1, .int p1), (2, .int p2)] rfl ?_
              exact J64 x27 M25 hf
  exact L5 _ 0 0 M0 (Nat.lt_succ_self _) hf
set_option maxRecDepth 100000 in
set_option maxHeartbeats 4000000 in
theorem k_X4_owedTo {l : Launch} {Z : li_Z} (d : Nat) (hd : 4 ≤ d) (p1 : Int32) (M0 : li_M) : li_Met l Z YX4_owedTo d [.ref (Z.2.2 13), .int p1] M0 (li_SL (fun i => False) M0) := by
  refine li_enter (by decide +kernel) (Nat.le_of_ble_eq_true rfl) ?_
  show li_T l Z YX4_owedTo d 0 [(0, .ref (Z.2.2 13)), (1, .int p1)] [] M0 _
  have hf : li_fr (fun i => False) M0 M0 := li_fr_refl
  refine li_aload_n 0 dX4_owedTo_0 rfl ?_
  refine li_iload_n 1 dX4_owedTo_1 rfl ?_
  refine li_iconst 0 dX4_owedTo_2 (by decide) ?_
  refine li_callV (n := 2) (As := [.int p1, .int 0]) dX4_owedTo_3 (k_X4_owedToBut (d - 1) (by omega) p1 0 M0) (by omega) (Nat.le_of_ble_eq_true rfl) w_1256 w_1257 w_1258 w_105 w_1259 (by decide +kernel) rfl (by decide) sh_13 rfl rfl (Nat.le_of_ble_eq_true rfl) (fun r M2 h3 => ?_)
  obtain ⟨⟨x1, rfl⟩, h3⟩ := h3
  have hf := li_fr_trans hf h3 (fun i h => False.elim h)
  exact li_lret dX4_owedTo_6 rfl ⟨⟨_, rfl⟩, hf⟩
set_option maxRecDepth 100000 in
set_option maxHeartbeats 4000000 in
theorem k_X4_endedLoans {l : Launch} {Z : li_Z} (d : Nat) (hd : 2 ≤ d) (M0 : li_M) : li_Met l Z YX4_endedLoans d [.ref (Z.2.2 13)] M0 (li_SI (fun i => False) M0) := by
  refine li_enter (by decide +kernel) (Nat.le_of_ble_eq_true rfl) ?_
  show li_T l Z YX4_endedLoans d 0 [(0, .ref (Z.2.2 13))] [] M0 _
  have hf : li_fr (fun i => False) M0 M0 := li_fr_refl
  refine li_aload_n 0 dX4_endedLoans_0 rfl ?_
  refine li_geti (k := 3) (N := 11) (T := TX4) (C0 := RX4) dX4_endedLoans_1 (by decide) sh_13 rfl rfl (by decide) li_in4 w_237 ?_
  refine li_top (fun x1 ex1 => ?_)
  refine li_callS (n := 1) (As := [.int x1]) dX4_endedLoans_4 (k_J6_bitCount_0f7a4 (d - 1) (by omega) x1 M0) (by omega) (Nat.le_of_ble_eq_true rfl) w_913 w_822 w_123 w_823 (by decide +kernel) rfl rfl (Nat.le_of_ble_eq_true rfl) (fun r M3 h4 => ?_)
  obtain ⟨⟨x2, rfl⟩, h4⟩ := h4
  have hf := li_fr_trans hf h4 (fun i h => False.elim h)
  exact li_iret dX4_endedLoans_7 rfl rfl ⟨⟨_, rfl⟩, hf⟩
set_option maxRecDepth 100000 in
set_option maxHeartbeats 4000000 in
theorem k_X4_allLosses {l : Launch} {Z : li_Z} (d : Nat) (hd : 2 ≤ d) (M0 : li_M) : li_Met l Z YX4_allLosses d [.ref (Z.2.2 13)] M0 (li_SL (fun i => False) M0) := by
  refine li_enter (by decide +kernel) (Nat.le_of_ble_eq_true rfl) ?_
  show li_T l Z YX4_allLosses d 0 [(0, .ref (Z.2.2 13))] [] M0 _
  have hf : li_fr (fun i => False) M0 M0 := li_fr_refl
  refine li_lconst 0 dX4_allLosses_0 (by decide) ?_
  refine li_lstore_n [(1, .long 0), (0, .ref (Z.2.2 13))] dX4_allLosses_1 (by decide) rfl ?_
  refine li_iconst 0 dX4_allLosses_2 (by decide) ?_
  refine li_istore_n [(3, .int 0), (1, .long 0), (0, .ref (Z.2.2 13))] dX4_allLosses_3 (by decide) rfl ?_
  have L4 : ∀ (n : Nat) (x1 : Int32) (x2 : Int64) (M3 : li_M), (2147483647 - (x1 : Int32).toInt).toNat < n → li_fr (fun i => False) M0 M3 → li_T l Z YX4_allLosses d 4 [(3, .int x1), (1, .long x2), (0, .ref (Z.2.2 13))] [] M3 (li_SL (fun i => False) M0) := by
    intro n
    induction n with
    | zero => intro x1 x2 M3 hn; exact absurd hn (Nat.not_lt_zero _)
    | succ n ih4 =>
      intro x1 x2 M3 hn hf
      refine li_iload_n 0 dX4_allLosses_4 rfl ?_
      refine li_bipush 6 dX4_allLosses_5 (by decide) ?_
      refine li_icmp_ge 27 dX4_allLosses_7 (by decide) (fun c4 => ?_) (fun c4 => ?_)
      · refine li_lload_n 1 dX4_allLosses_27 rfl ?_
        exact li_lret dX4_allLosses_28 rfl ⟨⟨_, rfl⟩, hf⟩
      · refine li_lload_n 1 dX4_allLosses_10 rfl ?_
        refine li_aload_n 2 dX4_allLosses_11 rfl ?_
        refine li_getr (k := 6) (N := 11) (T := TX4) (C0 := RX4) dX4_allLosses_12 (by decide) sh_13 rfl rfl (by decide) (by decide) li_in4 w_246 ?_
        refine li_iload_n 0 dX4_allLosses_15 rfl ?_
        refine li_callN (n := 2) (As := [.ref (Z.2.2 16), .int x1]) dX4_allLosses_16 (k_X11_wordAt (d - 1) (by omega) (by decide) sh_16 (by decide) x1 M3) (by omega) (Nat.le_of_ble_eq_true rfl) nw_21 w_919 w_101 w_920 (by decide +kernel) rfl rfl (Nat.le_of_ble_eq_true rfl) (fun r M6 h7 => ?_)
        obtain ⟨⟨x5, rfl⟩, h7⟩ := h7
        have hf := li_fr_trans hf h7 (fun i h => False.elim h)
        refine li_ladd dX4_allLosses_19 ?_
        refine li_topL (fun x8 ex8 => ?_)
        refine li_lstore_n [(1, .long x8), (3, .int x1), (0, .ref (Z.2.2 13))] dX4_allLosses_20 (by decide) rfl ?_
        obtain ⟨x9, ex9⟩ : ∃ y : Int32, y = x1 + 1 := ⟨_, rfl⟩
        refine li_iinc 1 [(3, .int x9), (1, .long x8), (0, .ref (Z.2.2 13))] x9 dX4_allLosses_21 rfl (by rw [ex9]; rfl) (by decide) rfl ?_
        refine li_goto 4 dX4_allLosses_24 (by decide) ?_
        refine li_pick [0, 1, 2] [(3, .int x9), (1, .long x8), (0, .ref (Z.2.2 13))] rfl ?_
        exact ih4 x9 x8 M6 (by have h9 := li_up (li_gt c4); rw [← ex9] at h9; omega) hf
  exact L4 _ 0 0 M0 (Nat.lt_succ_self _) hf
set_option maxRecDepth 100000 in
set_option maxHeartbeats 4000000 in
theorem k_X4_addTenths {l : Launch} {Z : li_Z} (d : Nat) (hd : 3 ≤ d) (M0 : li_M) : li_Met l Z YX4_addTenths d [.ref (Z.2.2 13)] M0 (li_SV (fun i => i = 20) M0) := by
  refine li_enter (by decide +kernel) (Nat.le_of_ble_eq_true rfl) ?_
  show li_T l Z YX4_addTenths d 0 [(0, .ref (Z.2.2 13))] [] M0 _
  have hf : li_fr (fun i => i = 20) M0 M0 := li_fr_refl
  refine li_iconst 0 dX4_addTenths_0 (by decide) ?_
  refine li_istore_n [(1, .int 0), (0, .ref (Z.2.2 13))] dX4_addTenths_1 (by decide) rfl ?_
  have L2 : ∀ (n : Nat) (x1 : Int32) (M2 : li_M), (2147483647 - (x1 : Int32).toInt).toNat < n → li_fr (fun i => i = 20) M0 M2 → li_T l Z YX4_addTenths d 2 [(1, .int x1), (0, .ref (Z.2.2 13))] [] M2 (li_SV (fun i => i = 20) M0) := by
    intro n
    induction n with
    | zero => intro x1 M2 hn; exact absurd hn (Nat.not_lt_zero _)
    | succ n ih2 =>
      intro x1 M2 hn hf
      refine li_iload_n 0 dX4_addTenths_2 rfl ?_
      refine li_aload_n 1 dX4_addTenths_3 rfl ?_
      refine li_geti (k := 2) (N := 11) (T := TX4) (C0 := RX4) dX4_addTenths_4 (by decide) sh_13 rfl rfl (by decide) li_in4 w_235 ?_
      refine li_top (fun x3 ex3 => ?_)
      refine li_icmp_ge 53 dX4_addTenths_7 (by decide) (fun c4 => ?_) (fun c4 => ?_)
      · exact li_vret dX4_addTenths_53 rfl ⟨rfl, hf⟩
      · refine li_aload_n 1 dX4_addTenths_10 rfl ?_
        refine li_iload_n 0 dX4_addTenths_11 rfl ?_
        refine li_callV (n := 1) (As := [.int x1]) dX4_addTenths_12 (k_X4_isOpen (d - 1) (by omega) x1 M2) (by omega) (Nat.le_of_ble_eq_true rfl) w_933 w_934 w_935 w_105 w_936 (by decide +kernel) rfl (by decide) sh_13 rfl rfl (Nat.le_of_ble_eq_true rfl) (fun r M6 h7 => ?_)
        obtain ⟨⟨x5, rfl, bx5⟩, h7⟩ := h7
        have hf := li_fr_trans hf h7 (fun i h => False.elim h)
        have J47 : ∀  (M9 : li_M), li_fr (fun i => i = 20) M0 M9 → li_T l Z YX4_addTenths d 47 [(1, .int x1), (0, .ref (Z.2.2 13))] [] M9 (li_SV (fun i => i = 20) M0) := by
          intro  M9 hf
          obtain ⟨x10, ex10⟩ : ∃ y : Int32, y = x1 + 1 := ⟨_, rfl⟩
          refine li_iinc 0 [(1, .int x10), (0, .ref (Z.2.2 13))] x10 dX4_addTenths_47 rfl (by rw [ex10]; rfl) (by decide) rfl ?_
          refine li_goto 2 dX4_addTenths_50 (by decide) ?_
          refine li_pick [0, 1] [(1, .int x10), (0, .ref (Z.2.2 13))] rfl ?_
          exact ih2 x10 M9 (by have h9 := li_up (li_gt c4); rw [← ex10] at h9; omega) hf
        refine li_if_eq 47 dX4_addTenths_15 (by decide) (fun c8 => ?_) (fun c8 => ?_)
        · refine li_pick [0, 1] [(1, .int x1), (0, .ref (Z.2.2 13))] rfl ?_
          exact J47  M6 hf
        · refine li_aload_n 1 dX4_addTenths_18 rfl ?_
          refine li_getr (k := 10) (N := 11) (T := TX4) (C0 := RX4) dX4_addTenths_19 (by decide) sh_13 rfl rfl (by decide) (by decide) li_in4 w_254 ?_
          refine li_iload_n 0 dX4_addTenths_22 rfl ?_
          refine li_aload_n 1 dX4_addTenths_23 rfl ?_
          refine li_getr (k := 10) (N := 11) (T := TX4) (C0 := RX4) dX4_addTenths_24 (by decide) sh_13 rfl rfl (by decide) (by decide) li_in4 w_254 ?_
          refine li_iload_n 0 dX4_addTenths_27 rfl ?_
          refine li_callN (n := 2) (As := [.ref (Z.2.2 20), .int x1]) dX4_addTenths_28 (k_X11_wordAt (d - 1) (by omega) (by decide) sh_20 (by decide) x1 M6) (by omega) (Nat.le_of_ble_eq_true rfl) nw_21 w_919 w_101 w_920 (by decide +kernel) rfl rfl (Nat.le_of_ble_eq_true rfl) (fun r M12 h13 => ?_)
          obtain ⟨⟨x11, rfl⟩, h13⟩ := h13
          have hf := li_fr_trans hf h13 (fun i h => False.elim h)
          refine li_aload_n 1 dX4_addTenths_31 rfl ?_
          refine li_getr (k := 10) (N := 11) (T := TX4) (C0 := RX4) dX4_addTenths_32 (by decide) sh_13 rfl rfl (by decide) (by decide) li_in4 w_254 ?_
          refine li_iload_n 0 dX4_addTenths_35 rfl ?_
          refine li_callN (n := 2) (As := [.ref (Z.2.2 20), .int x1]) dX4_addTenths_36 (k_X11_wordAt (d - 1) (by omega) (by decide) sh_20 (by decide) x1 M12) (by omega) (Nat.le_of_ble_eq_true rfl) nw_21 w_919 w_101 w_920 (by decide +kernel) rfl rfl (Nat.le_of_ble_eq_true rfl) (fun r M15 h16 => ?_)
          obtain ⟨⟨x14, rfl⟩, h16⟩ := h16
          have hf := li_fr_trans hf h16 (fun i h => False.elim h)
          refine li_ldc2 10 dX4_addTenths_39 w_938 ?_
          refine li_ldiv dX4_addTenths_42 (by decide) ?_
          refine li_topL (fun x17 ex17 => ?_)
          refine li_ladd dX4_addTenths_43 ?_
          refine li_topL (fun x18 ex18 => ?_)
          refine li_callN (n := 3) (As := [.ref (Z.2.2 20), .int x1, .long x18]) dX4_addTenths_44 (k_X11_putWord (d - 1) (by omega) (by decide) sh_20 (by decide) x1 x18 M15) (by omega) (Nat.le_of_ble_eq_true rfl) nw_20 w_903 w_101 w_904 (by decide +kernel) rfl rfl (Nat.le_of_ble_eq_true rfl) (fun r M20 h21 => ?_)
          obtain ⟨rfl, h21⟩ := h21
          have hf := li_fr_trans hf h21 (fun i (h : i = 20) => (show i = 20 by omega))
          refine li_pick [0, 1] [(1, .int x1), (0, .ref (Z.2.2 13))] rfl ?_
          exact J47  M20 hf
  exact L2 _ 0 M0 (Nat.lt_succ_self _) hf
set_option maxRecDepth 100000 in
set_option maxHeartbeats 4000000 in
theorem k_X4_settle {l : Launch} {Z : li_Z} (d : Nat) (hd : 3 ≤ d) (p1 : Int32) (M0 : li_M) : li_Met l Z YX4_settle d [.ref (Z.2.2 13), .int p1] M0 (li_SV (fun i => i = 13 ∨ i = 14 ∨ i = 16) M0) := by
  refine li_enter (by decide +kernel) (Nat.le_of_ble_eq_true rfl) ?_
  show li_T l Z YX4_settle d 0 [(0, .ref (Z.2.2 13)), (1, .int p1)] [] M0 _
  have hf : li_fr (fun i => i = 13 ∨ i = 14 ∨ i = 16) M0 M0 := li_fr_refl
  refine li_aload_n 0 dX4_settle_0 rfl ?_
  refine li_getr (k := 7) (N := 11) (T := TX4) (C0 := RX4) dX4_settle_1 (by decide) sh_13 rfl rfl (by decide) (by decide) li_in4 w_248 ?_
  refine li_iload_n 1 dX4_settle_4 rfl ?_
  refine li_callN (n := 2) (As := [.ref (Z.2.2 17), .int p1]) dX4_settle_5 (k_X11_at (d - 1) (by omega) (by decide) sh_17 (by decide) p1 M0) (by omega) (Nat.le_of_ble_eq_true rfl) nw_13 w_569 w_101 w_570 (by decide +kernel) rfl rfl (Nat.le_of_ble_eq_true rfl) (fun r M2 h3 => ?_)
  obtain ⟨⟨x1, rfl⟩, h3⟩ := h3
  have hf := li_fr_trans hf h3 (fun i h => False.elim h)
  refine li_istore_n [(2, .int x1), (0, .ref (Z.2.2 13)), (1, .int p1)] dX4_settle_8 (by decide) rfl ?_
  refine li_aload_n 1 dX4_settle_9 rfl ?_
  refine li_getr (k := 8) (N := 11) (T := TX4) (C0 := RX4) dX4_settle_10 (by decide) sh_13 rfl rfl (by decide) (by decide) li_in4 w_250 ?_
  refine li_iload_n 2 dX4_settle_13 rfl ?_
  refine li_callN (n := 2) (As := [.ref (Z.2.2 18), .int p1]) dX4_settle_14 (k_X11_at (d - 1) (by omega) (by decide) sh_18 (by decide) p1 M2) (by omega) (Nat.le_of_ble_eq_true rfl) nw_13 w_569 w_101 w_570 (by decide +kernel) rfl rfl (Nat.le_of_ble_eq_true rfl) (fun r M5 h6 => ?_)
  obtain ⟨⟨x4, rfl⟩, h6⟩ := h6
  have hf := li_fr_trans hf h6 (fun i h => False.elim h)
  refine li_istore_n [(3, .int x4), (2, .int x1), (0, .ref (Z.2.2 13)), (1, .int p1)] dX4_settle_17 (by decide) rfl ?_
  refine li_aload_n 2 dX4_settle_18 rfl ?_
  refine li_getr (k := 10) (N := 11) (T := TX4) (C0 := RX4) dX4_settle_19 (by decide) sh_13 rfl rfl (by decide) (by decide) li_in4 w_254 ?_
  refine li_iload_n 3 dX4_settle_22 rfl ?_
  refine li_callN (n := 2) (As := [.ref (Z.2.2 20), .int p1]) dX4_settle_23 (k_X11_wordAt (d - 1) (by omega) (by decide) sh_20 (by decide) p1 M5) (by omega) (Nat.le_of_ble_eq_true rfl) nw_21 w_919 w_101 w_920 (by decide +kernel) rfl rfl (Nat.le_of_ble_eq_true rfl) (fun r M8 h9 => ?_)
  obtain ⟨⟨x7, rfl⟩, h9⟩ := h9
  have hf := li_fr_trans hf h9 (fun i h => False.elim h)
  refine li_aload_n 2 dX4_settle_26 rfl ?_
  refine li_getr (k := 4) (N := 11) (T := TX4) (C0 := RX4) dX4_settle_27 (by decide) sh_13 rfl rfl (by decide) (by decide) li_in4 w_239 ?_
  refine li_iload_n 0 dX4_settle_30 rfl ?_
  refine li_callN (n := 2) (As := [.ref (Z.2.2 14), .int x4]) dX4_settle_31 (k_X11_at (d - 1) (by omega) (by decide) sh_14 (by decide) x4 M8) (by omega) (Nat.le_of_ble_eq_true rfl) nw_13 w_569 w_101 w_570 (by decide +kernel) rfl rfl (Nat.le_of_ble_eq_true rfl) (fun r M11 h12 => ?_)
  obtain ⟨⟨x10, rfl⟩, h12⟩ := h12
  have hf := li_fr_trans hf h12 (fun i h => False.elim h)
  refine li_i2l dX4_settle_34 ?_
  refine li_topL (fun x13 ex13 => ?_)
  refine li_mminL dX4_settle_35 (by omega) w_943 w_944 w_113 w_945 (Nat.le_of_ble_eq_true rfl) ?_
  refine li_topL (fun x14 ex14 => ?_)
  refine li_l2i dX4_settle_38 ?_
  refine li_top (fun x15 ex15 => ?_)
  refine li_istore [(4, .int x15), (3, .int x4), (2, .int x1), (0, .ref (Z.2.2 13)), (1, .int p1)] dX4_settle_39 (by decide) rfl ?_
  refine li_aload_n 3 dX4_settle_41 rfl ?_
  refine li_iload_n 1 dX4_settle_42 rfl ?_
  refine li_iload_n 2 dX4_settle_43 rfl ?_
  refine li_iload 0 dX4_settle_44 rfl ?_
  refine li_callV (n := 3) (As := [.int x4, .int x1, .int x15]) dX4_settle_46 (k_X4_carry (d - 1) (by omega) x4 x1 x15 M11) (by omega) (Nat.le_of_ble_eq_true rfl) w_946 w_890 w_891 w_105 w_892 (by decide +kernel) rfl (by decide) sh_13 rfl rfl (Nat.le_of_ble_eq_true rfl) (fun r M17 h18 => ?_)
  obtain ⟨rfl, h18⟩ := h18
  have hf := li_fr_trans hf h18 (fun i (h : i = 14) => (show i = 13 ∨ i = 14 ∨ i = 16 by omega))
  refine li_aload_n 3 dX4_settle_49 rfl ?_
  refine li_getr (k := 6) (N := 11) (T := TX4) (C0 := RX4) dX4_settle_50 (by decide) sh_13 rfl rfl (by decide) (by decide) li_in4 w_246 ?_
  refine li_iload_n 2 dX4_settle_53 rfl ?_
  refine li_aload_n 3 dX4_settle_54 rfl ?_
  refine li_getr (k := 6) (N := 11) (T := TX4) (C0 := RX4) dX4_settle_55 (by decide) sh_13 rfl rfl (by decide) (by decide) li_in4 w_246 ?_
  refine li_iload_n 2 dX4_settle_58 rfl ?_
  refine li_callN (n := 2) (As := [.ref (Z.2.2 16), .int x1]) dX4_settle_59 (k_X11_wordAt (d - 1) (by omega) (by decide) sh_16 (by decide) x1 M17) (by omega) (Nat.le_of_ble_eq_true rfl) nw_21 w_919 w_101 w_920 (by decide +kernel) rfl rfl (Nat.le_of_ble_eq_true rfl) (fun r M20 h21 => ?_)
  obtain ⟨⟨x19, rfl⟩, h21⟩ := h21
  have hf := li_fr_trans hf h21 (fun i h => False.elim h)
  refine li_aload_n 3 dX4_settle_62 rfl ?_
  refine li_getr (k := 10) (N := 11) (T := TX4) (C0 := RX4) dX4_settle_63 (by decide) sh_13 rfl rfl (by decide) (by decide) li_in4 w_254 ?_
  refine li_iload_n 4 dX4_settle_66 rfl ?_
  refine li_callN (n := 2) (As := [.ref (Z.2.2 20), .int p1]) dX4_settle_67 (k_X11_wordAt (d - 1) (by omega) (by decide) sh_20 (by decide) p1 M20) (by omega) (Nat.le_of_ble_eq_true rfl) nw_21 w_919 w_101 w_920 (by decide +kernel) rfl rfl (Nat.le_of_ble_eq_true rfl) (fun r M23 h24 => ?_)
  obtain ⟨⟨x22, rfl⟩, h24⟩ := h24
  have hf := li_fr_trans hf h24 (fun i h => False.elim h)
  refine li_ladd dX4_settle_70 ?_
  refine li_topL (fun x25 ex25 => ?_)
  refine li_iload 0 dX4_settle_71 rfl ?_
  refine li_i2l dX4_settle_73 ?_
  refine li_topL (fun x26 ex26 => ?_)
  refine li_lsub dX4_settle_74 ?_
  refine li_topL (fun x27 ex27 => ?_)
  refine li_callN (n := 3) (As := [.ref (Z.2.2 16), .int x1, .long x27]) dX4_settle_75 (k_X11_putWord (d - 1) (by omega) (by decide) sh_16 (by decide) x1 x27 M23) (by omega) (Nat.le_of_ble_eq_true rfl) nw_20 w_903 w_101 w_904 (by decide +kernel) rfl rfl (Nat.le_of_ble_eq_true rfl) (fun r M29 h30 => ?_)
  obtain ⟨rfl, h30⟩ := h30
  have hf := li_fr_trans hf h30 (fun i (h : i = 16) => (show i = 13 ∨ i = 14 ∨ i = 16 by omega))
  refine li_aload_n 3 dX4_settle_78 rfl ?_
  refine li_dup dX4_settle_79 rfl ?_
  refine li_geti (k := 3) (N := 11) (T := TX4) (C0 := RX4) dX4_settle_80 (by decide) sh_13 rfl rfl (by decide) li_in4 w_237 ?_
  refine li_top (fun x31 ex31 => ?_)
  refine li_iconst 1 dX4_settle_83 (by decide) ?_
  refine li_iload_n 4 dX4_settle_84 rfl ?_
  refine li_ishl dX4_settle_85 ?_
  refine li_top (fun x32 ex32 => ?_)
  refine li_ior dX4_settle_86 ?_
  refine li_top (fun x33 ex33 => ?_)
  refine li_puti (k := 3) (N := 11) (T := TX4) (C0 := RX4) dX4_settle_87 (by decide) sh_13 rfl rfl (by decide) li_in4 tyX4_ok nmX4 rfl rfl rfl rfl w_237 ?_
  refine li_nm (fun M34 eM34 => ?_)
  have hf := li_fr_ui hf (show 13 = 13 ∨ 13 = 14 ∨ 13 = 16 by omega) eM34
  exact li_vret dX4_settle_90 rfl ⟨rfl, hf⟩
set_option maxRecDepth 100000 in
set_option maxHeartbeats 4000000 in
theorem k_X4_beginYear {l : Launch} {Z : li_Z} (d : Nat) (hd : 2 ≤ d) (M0 : li_M) : li_Met l Z YX4_beginYear d [.ref (Z.2.2 13), .ref (Z.2.2 5)] M0 (li_SV (fun i => i = 13 ∨ i = 14 ∨ i = 15) M0) := by
  refine li_enter (by decide +kernel) (Nat.le_of_ble_eq_true rfl) ?_
  show li_T l Z YX4_beginYear d 0 [(0, .ref (Z.2.2 13)), (1, .ref (Z.2.2 5))] [] M0 _
  have hf : li_fr (fun i => i = 13 ∨ i = 14 ∨ i = 15) M0 M0 := li_fr_refl
  refine li_aload_n 0 dX4_beginYear_0 rfl ?_
  refine li_iconst 0 dX4_beginYear_1 (by decide) ?_
  refine li_puti (k := 1) (N := 11) (T := TX4) (C0 := RX4) dX4_beginYear_2 (by decide) sh_13 rfl rfl (by decide) li_in4 tyX4_ok nmX4 rfl rfl rfl rfl w_232 ?_
  refine li_nm (fun M1 eM1 => ?_)
  have hf := li_fr_ui hf (show 13 = 13 ∨ 13 = 14 ∨ 13 = 15 by omega) eM1
  refine li_iconst 0 dX4_beginYear_5 (by decide) ?_
  refine li_istore_n [(2, .int 0), (0, .ref (Z.2.2 13)), (1, .ref (Z.2.2 5))] dX4_beginYear_6 (by decide) rfl ?_
  have L7 : ∀ (n : Nat) (x2 : Int32) (M3 : li_M), (2147483647 - (x2 : Int32).toInt).toNat < n → li_fr (fun i => i = 13 ∨ i = 14 ∨ i = 15) M0 M3 → li_T l Z YX4_beginYear d 7 [(2, .int x2), (0, .ref (Z.2.2 13)), (1, .ref (Z.2.2 5))] [] M3 (li_SV (fun i => i = 13 ∨ i = 14 ∨ i = 15) M0) := by
    intro n
    induction n with
    | zero => intro x2 M3 hn; exact absurd hn (Nat.not_lt_zero _)
    | succ n ih7 =>
      intro x2 M3 hn hf
      refine li_iload_n 0 dX4_beginYear_7 rfl ?_
      refine li_bipush 6 dX4_beginYear_8 (by decide) ?_
      refine li_icmp_ge 56 dX4_beginYear_10 (by decide) (fun c4 => ?_) (fun c4 => ?_)
      · exact li_vret dX4_beginYear_56 rfl ⟨rfl, hf⟩
      · refine li_aload_n 1 dX4_beginYear_13 rfl ?_
        refine li_getr (k := 4) (N := 11) (T := TX4) (C0 := RX4) dX4_beginYear_14 (by decide) sh_13 rfl rfl (by decide) (by decide) li_in4 w_239 ?_
        refine li_iload_n 0 dX4_beginYear_17 rfl ?_
        refine li_iload_n 0 dX4_beginYear_18 rfl ?_
        refine li_aload_n 2 dX4_beginYear_19 rfl ?_
        refine li_geti (k := 0) (N := 9) (T := TX8) (C0 := RX8) dX4_beginYear_20 (by decide) sh_5 rfl rfl (by decide) li_in8 w_176 ?_
        refine li_top (fun x5 ex5 => ?_)
        have J38 : ∀ (x7 : Int32) (M8 : li_M), li_fr (fun i => i = 13 ∨ i = 14 ∨ i = 15) M0 M8 → li_T l Z YX4_beginYear d 38 [(2, .int x2), (0, .ref (Z.2.2 13)), (1, .ref (Z.2.2 5))] [.int x7, .int x2, .ref (Z.2.2 14)] M8 (li_SV (fun i => i = 13 ∨ i = 14 ∨ i = 15) M0) := by
          intro x7 M8 hf
          refine li_callN (n := 3) (As := [.ref (Z.2.2 14), .int x2, .int x7]) dX4_beginYear_38 (k_X11_put (d - 1) (by omega) (by decide) sh_14 (by decide) x2 x7 M8) (by omega) (Nat.le_of_ble_eq_true rfl) nw_14 w_522 w_101 w_523 (by decide +kernel) rfl rfl (Nat.le_of_ble_eq_true rfl) (fun r M10 h11 => ?_)
          obtain ⟨rfl, h11⟩ := h11
          have hf := li_fr_trans hf h11 (fun i (h : i = 14) => (show i = 13 ∨ i = 14 ∨ i = 15 by omega))
          refine li_aload_n 1 dX4_beginYear_41 rfl ?_
          refine li_getr (k := 5) (N := 11) (T := TX4) (C0 := RX4) dX4_beginYear_42 (by decide) sh_13 rfl rfl (by decide) (by decide) li_in4 w_244 ?_
          refine li_iload_n 0 dX4_beginYear_45 rfl ?_
          refine li_iconst 0 dX4_beginYear_46 (by decide) ?_
          refine li_callN (n := 3) (As := [.ref (Z.2.2 15), .int x2, .int 0]) dX4_beginYear_47 (k_X11_put (d - 1) (by omega) (by decide) sh_15 (by decide) x2 0 M10) (by omega) (Nat.le_of_ble_eq_true rfl) nw_14 w_522 w_101 w_523 (by decide +kernel) rfl rfl (Nat.le_of_ble_eq_true rfl) (fun r M13 h14 => ?_)
          obtain ⟨rfl, h14⟩ := h14
          have hf := li_fr_trans hf h14 (fun i (h : i = 15) => (show i = 13 ∨ i = 14 ∨ i = 15 by omega))
          obtain ⟨x15, ex15⟩ : ∃ y : Int32, y = x2 + 1 := ⟨_, rfl⟩
          refine li_iinc 0 [(2, .int x15), (0, .ref (Z.2.2 13)), (1, .ref (Z.2.2 5))] x15 dX4_beginYear_50 rfl (by rw [ex15]; rfl) (by decide) rfl ?_
          refine li_goto 7 dX4_beginYear_53 (by decide) ?_
          refine li_pick [0, 1, 2] [(2, .int x15), (0, .ref (Z.2.2 13)), (1, .ref (Z.2.2 5))] rfl ?_
          exact ih7 x15 M13 (by have h9 := li_up (li_gt c4); rw [← ex15] at h9; omega) hf
        refine li_icmp_ge 37 dX4_beginYear_23 (by decide) (fun c6 => ?_) (fun c6 => ?_)
        · refine li_iconst 0 dX4_beginYear_37 (by decide) ?_
          refine li_pick [0, 1, 2] [(2, .int x2), (0, .ref (Z.2.2 13)), (1, .ref (Z.2.2 5))] rfl ?_
          exact J38 0 M3 hf
        · refine li_aload_n 2 dX4_beginYear_26 rfl ?_
          refine li_getr (k := 3) (N := 9) (T := TX8) (C0 := RX8) dX4_beginYear_27 (by decide) sh_5 rfl rfl (by decide) (by decide) li_in8 w_186 ?_
          refine li_iload_n 0 dX4_beginYear_30 rfl ?_
          refine li_callN (n := 2) (As := [.ref (Z.2.2 7), .int x2]) dX4_beginYear_31 (k_X11_at (d - 1) (by omega) (by decide) sh_7 (by decide) x2 M3) (by omega) (Nat.le_of_ble_eq_true rfl) nw_13 w_569 w_101 w_570 (by decide +kernel) rfl rfl (Nat.le_of_ble_eq_true rfl) (fun r M17 h18 => ?_)
          obtain ⟨⟨x16, rfl⟩, h18⟩ := h18
          have hf := li_fr_trans hf h18 (fun i h => False.elim h)
          refine li_goto 38 dX4_beginYear_34 (by decide) ?_
          refine li_pick [0, 1, 2] [(2, .int x2), (0, .ref (Z.2.2 13)), (1, .ref (Z.2.2 5))] rfl ?_
          exact J38 x16 M17 hf
  exact L7 _ 0 M1 (Nat.lt_succ_self _) hf
set_option maxRecDepth 100000 in
set_option maxHeartbeats 4000000 in
theorem k_X4_passDay {l : Launch} {Z : li_Z} (d : Nat) (hd : 4 ≤ d) (M0 : li_M) : li_Met l Z YX4_passDay d [.ref (Z.2.2 13), .ref (Z.2.2 5)] M0 (li_SV (fun i => i = 13 ∨ i = 14 ∨ i = 15 ∨ i = 16 ∨ i = 20) M0) := by
  refine li_enter (by decide +kernel) (Nat.le_of_ble_eq_true rfl) ?_
  show li_T l Z YX4_passDay d 0 [(0, .ref (Z.2.2 13)), (1, .ref (Z.2.2 5))] [] M0 _
  have hf : li_fr (fun i => i = 13 ∨ i = 14 ∨ i = 15 ∨ i = 16 ∨ i = 20) M0 M0 := li_fr_refl
  refine li_aload_n 0 dX4_passDay_0 rfl ?_
  refine li_dup dX4_passDay_1 rfl ?_
  refine li_geti (k := 0) (N := 11) (T := TX4) (C0 := RX4) dX4_passDay_2 (by decide) sh_13 rfl rfl (by decide) li_in4 w_229 ?_
  refine li_top (fun x1 ex1 => ?_)
  refine li_iconst 1 dX4_passDay_5 (by decide) ?_
  refine li_iadd dX4_passDay_6 ?_
  refine li_top (fun x2 ex2 => ?_)
  refine li_puti (k := 0) (N := 11) (T := TX4) (C0 := RX4) dX4_passDay_7 (by decide) sh_13 rfl rfl (by decide) li_in4 tyX4_ok nmX4 rfl rfl rfl rfl w_229 ?_
  refine li_nm (fun M3 eM3 => ?_)
  have hf := li_fr_ui hf (show 13 = 13 ∨ 13 = 14 ∨ 13 = 15 ∨ 13 = 16 ∨ 13 = 20 by omega) eM3
  refine li_aload_n 0 dX4_passDay_10 rfl ?_
  refine li_geti (k := 0) (N := 11) (T := TX4) (C0 := RX4) dX4_passDay_11 (by decide) sh_13 rfl rfl (by decide) li_in4 w_229 ?_
  refine li_top (fun x4 ex4 => ?_)
  refine li_bipush 30 dX4_passDay_14 (by decide) ?_
  refine li_irem dX4_passDay_16 (by decide) ?_
  refine li_top (fun x5 ex5 => ?_)
  have J24 : ∀  (M7 : li_M), li_fr (fun i => i = 13 ∨ i = 14 ∨ i = 15 ∨ i = 16 ∨ i = 20) M0 M7 → li_T l Z YX4_passDay d 24 [(0, .ref (Z.2.2 13)), (1, .ref (Z.2.2 5))] [] M7 (li_SV (fun i => i = 13 ∨ i = 14 ∨ i = 15 ∨ i = 16 ∨ i = 20) M0) := by
    intro  M7 hf
    refine li_iconst 0 dX4_passDay_24 (by decide) ?_
    refine li_istore_n [(2, .int 0), (0, .ref (Z.2.2 13)), (1, .ref (Z.2.2 5))] dX4_passDay_25 (by decide) rfl ?_
    have L26 : ∀ (n : Nat) (x8 : Int32) (M9 : li_M), (2147483647 - (x8 : Int32).toInt).toNat < n → li_fr (fun i => i = 13 ∨ i = 14 ∨ i = 15 ∨ i = 16 ∨ i = 20) M0 M9 → li_T l Z YX4_passDay d 26 [(2, .int x8), (0, .ref (Z.2.2 13)), (1, .ref (Z.2.2 5))] [] M9 (li_SV (fun i => i = 13 ∨ i = 14 ∨ i = 15 ∨ i = 16 ∨ i = 20) M0) := by
      intro n
      induction n with
      | zero => intro x8 M9 hn; exact absurd hn (Nat.not_lt_zero _)
      | succ n ih26 =>
        intro x8 M9 hn hf
        refine li_iload_n 0 dX4_passDay_26 rfl ?_
        refine li_aload_n 1 dX4_passDay_27 rfl ?_
        refine li_geti (k := 2) (N := 11) (T := TX4) (C0 := RX4) dX4_passDay_28 (by decide) sh_13 rfl rfl (by decide) li_in4 w_235 ?_
        refine li_top (fun x10 ex10 => ?_)
        refine li_icmp_ge 68 dX4_passDay_31 (by decide) (fun c11 => ?_) (fun c11 => ?_)
        · refine li_aload_n 1 dX4_passDay_68 rfl ?_
          refine li_geti (k := 0) (N := 11) (T := TX4) (C0 := RX4) dX4_passDay_69 (by decide) sh_13 rfl rfl (by decide) li_in4 w_229 ?_
          refine li_top (fun x12 ex12 => ?_)
          refine li_bipush 100 dX4_passDay_72 (by decide) ?_
          refine li_irem dX4_passDay_74 (by decide) ?_
          refine li_top (fun x13 ex13 => ?_)
          refine li_if_ne 83 dX4_passDay_75 (by decide) (fun c14 => ?_) (fun c14 => ?_)
          · exact li_vret dX4_passDay_83 rfl ⟨rfl, hf⟩
          · refine li_aload_n 1 dX4_passDay_78 rfl ?_
            refine li_aload_n 2 dX4_passDay_79 rfl ?_
            refine li_callV (n := 1) (As := [.ref (Z.2.2 5)]) dX4_passDay_80 (k_X4_beginYear (d - 1) (by omega)  M9) (by omega) (Nat.le_of_ble_eq_true rfl) w_947 w_949 w_21 w_105 w_950 (by decide +kernel) rfl (by decide) sh_13 rfl rfl (Nat.le_of_ble_eq_true rfl) (fun r M16 h17 => ?_)
            obtain ⟨rfl, h17⟩ := h17
            have hf := li_fr_trans hf h17 (fun i (h : i = 13 ∨ i = 14 ∨ i = 15) => (show i = 13 ∨ i = 14 ∨ i = 15 ∨ i = 16 ∨ i = 20 by omega))
            exact li_vret dX4_passDay_83 rfl ⟨rfl, hf⟩
        · refine li_aload_n 1 dX4_passDay_34 rfl ?_
          refine li_iload_n 0 dX4_passDay_35 rfl ?_
          refine li_callV (n := 1) (As := [.int x8]) dX4_passDay_36 (k_X4_isOpen (d - 1) (by omega) x8 M9) (by omega) (Nat.le_of_ble_eq_true rfl) w_933 w_934 w_935 w_105 w_936 (by decide +kernel) rfl (by decide) sh_13 rfl rfl (Nat.le_of_ble_eq_true rfl) (fun r M19 h20 => ?_)
          obtain ⟨⟨x18, rfl, bx18⟩, h20⟩ := h20
          have hf := li_fr_trans hf h20 (fun i h => False.elim h)
          have J62 : ∀  (M22 : li_M), li_fr (fun i => i = 13 ∨ i = 14 ∨ i = 15 ∨ i = 16 ∨ i = 20) M0 M22 → li_T l Z YX4_passDay d 62 [(2, .int x8), (0, .ref (Z.2.2 13)), (1, .ref (Z.2.2 5))] [] M22 (li_SV (fun i => i = 13 ∨ i = 14 ∨ i = 15 ∨ i = 16 ∨ i = 20) M0) := by
            intro  M22 hf
            obtain ⟨x23, ex23⟩ : ∃ y : Int32, y = x8 + 1 := ⟨_, rfl⟩
            refine li_iinc 0 [(2, .int x23), (0, .ref (Z.2.2 13)), (1, .ref (Z.2.2 5))] x23 dX4_passDay_62 rfl (by rw [ex23]; rfl) (by decide) rfl ?_
            refine li_goto 26 dX4_passDay_65 (by decide) ?_
            refine li_pick [0, 1, 2] [(2, .int x23), (0, .ref (Z.2.2 13)), (1, .ref (Z.2.2 5))] rfl ?_
            exact ih26 x23 M22 (by have h9 := li_up (li_gt c11); rw [← ex23] at h9; omega) hf
          refine li_if_eq 62 dX4_passDay_39 (by decide) (fun c21 => ?_) (fun c21 => ?_)
          · refine li_pick [0, 1, 2] [(2, .int x8), (0, .ref (Z.2.2 13)), (1, .ref (Z.2.2 5))] rfl ?_
            exact J62  M19 hf
          · refine li_aload_n 1 dX4_passDay_42 rfl ?_
            refine li_getr (k := 9) (N := 11) (T := TX4) (C0 := RX4) dX4_passDay_43 (by decide) sh_13 rfl rfl (by decide) (by decide) li_in4 w_252 ?_
            refine li_iload_n 0 dX4_passDay_46 rfl ?_
            refine li_callN (n := 2) (As := [.ref (Z.2.2 19), .int x8]) dX4_passDay_47 (k_X11_at (d - 1) (by omega) (by decide) sh_19 (by decide) x8 M19) (by omega) (Nat.le_of_ble_eq_true rfl) nw_13 w_569 w_101 w_570 (by decide +kernel) rfl rfl (Nat.le_of_ble_eq_true rfl) (fun r M25 h26 => ?_)
            obtain ⟨⟨x24, rfl⟩, h26⟩ := h26
            have hf := li_fr_trans hf h26 (fun i h => False.elim h)
            refine li_aload_n 1 dX4_passDay_50 rfl ?_
            refine li_geti (k := 0) (N := 11) (T := TX4) (C0 := RX4) dX4_passDay_51 (by decide) sh_13 rfl rfl (by decide) li_in4 w_229 ?_
            refine li_top (fun x27 ex27 => ?_)
            refine li_icmp_ne 62 dX4_passDay_54 (by decide) (fun c28 => ?_) (fun c28 => ?_)
            · refine li_pick [0, 1, 2] [(2, .int x8), (0, .ref (Z.2.2 13)), (1, .ref (Z.2.2 5))] rfl ?_
              exact J62  M25 hf
            · refine li_aload_n 1 dX4_passDay_57 rfl ?_
              refine li_iload_n 0 dX4_passDay_58 rfl ?_
              refine li_callV (n := 1) (As := [.int x8]) dX4_passDay_59 (k_X4_settle (d - 1) (by omega) x8 M25) (by omega) (Nat.le_of_ble_eq_true rfl) w_939 w_941 w_20 w_105 w_942 (by decide +kernel) rfl (by decide) sh_13 rfl rfl (Nat.le_of_ble_eq_true rfl) (fun r M30 h31 => ?_)
              obtain ⟨rfl, h31⟩ := h31
              have hf := li_fr_trans hf h31 (fun i (h : i = 13 ∨ i = 14 ∨ i = 16) => (show i = 13 ∨ i = 14 ∨ i = 15 ∨ i = 16 ∨ i = 20 by omega))
              refine li_pick [0, 1, 2] [(2, .int x8), (0, .ref (Z.2.2 13)), (1, .ref (Z.2.2 5))] rfl ?_
              exact J62  M30 hf
    exact L26 _ 0 M7 (Nat.lt_succ_self _) hf
  refine li_if_ne 24 dX4_passDay_17 (by decide) (fun c6 => ?_) (fun c6 => ?_)
  · refine li_pick [0, 1] [(0, .ref (Z.2.2 13)), (1, .ref (Z.2.2 5))] rfl ?_
    exact J24  M3 hf
  · refine li_aload_n 0 dX4_passDay_20 rfl ?_
    refine li_callV (n := 0) (As := []) dX4_passDay_21 (k_X4_addTenths (d - 1) (by omega)  M3) (by omega) (Nat.le_of_ble_eq_true rfl) w_929 w_931 w_19 w_105 w_932 (by decide +kernel) rfl (by decide) sh_13 rfl rfl (Nat.le_of_ble_eq_true rfl) (fun r M33 h34 => ?_)
    obtain ⟨rfl, h34⟩ := h34
    have hf := li_fr_trans hf h34 (fun i (h : i = 20) => (show i = 13 ∨ i = 14 ∨ i = 15 ∨ i = 16 ∨ i = 20 by omega))
    refine li_pick [0, 1] [(0, .ref (Z.2.2 13)), (1, .ref (Z.2.2 5))] rfl ?_
    exact J24  M33 hf
set_option maxRecDepth 100000 in
set_option maxHeartbeats 4000000 in
theorem k_X4_isStruckBy {l : Launch} {Z : li_Z} (d : Nat) (hd : 5 ≤ d) (p1 : Int32) (p2 : Int32) (M0 : li_M) : li_Met l Z YX4_isStruckBy d [.ref (Z.2.2 13), .int p1, .int p2] M0 (li_SZ (fun i => False) M0) := by
  refine li_enter (by decide +kernel) (Nat.le_of_ble_eq_true rfl) ?_
  show li_T l Z YX4_isStruckBy d 0 [(0, .ref (Z.2.2 13)), (1, .int p1), (2, .int p2)] [] M0 _
  have hf : li_fr (fun i => False) M0 M0 := li_fr_refl
  refine li_aload_n 0 dX4_isStruckBy_0 rfl ?_
  refine li_iload_n 1 dX4_isStruckBy_1 rfl ?_
  refine li_iload_n 2 dX4_isStruckBy_2 rfl ?_
  refine li_callV (n := 2) (As := [.int p1, .int p2]) dX4_isStruckBy_3 (k_X4_owedToBut (d - 1) (by omega) p1 p2 M0) (by omega) (Nat.le_of_ble_eq_true rfl) w_1256 w_1257 w_1258 w_105 w_1259 (by decide +kernel) rfl (by decide) sh_13 rfl rfl (Nat.le_of_ble_eq_true rfl) (fun r M2 h3 => ?_)
  obtain ⟨⟨x1, rfl⟩, h3⟩ := h3
  have hf := li_fr_trans hf h3 (fun i h => False.elim h)
  refine li_lstore_n [(3, .long x1), (0, .ref (Z.2.2 13)), (1, .int p1), (2, .int p2)] dX4_isStruckBy_6 (by decide) rfl ?_
  refine li_lload_n 0 dX4_isStruckBy_7 rfl ?_
  refine li_aload_n 1 dX4_isStruckBy_8 rfl ?_
  refine li_iload_n 2 dX4_isStruckBy_9 rfl ?_
  refine li_callV (n := 1) (As := [.int p1]) dX4_isStruckBy_10 (k_X4_owedTo (d - 1) (by omega) p1 M2) (by omega) (Nat.le_of_ble_eq_true rfl) w_1260 w_1261 w_1262 w_105 w_1263 (by decide +kernel) rfl (by decide) sh_13 rfl rfl (Nat.le_of_ble_eq_true rfl) (fun r M5 h6 => ?_)
  obtain ⟨⟨x4, rfl⟩, h6⟩ := h6
  have hf := li_fr_trans hf h6 (fun i h => False.elim h)
  refine li_lcmp dX4_isStruckBy_13 ?_
  refine li_top (fun x7 ex7 => ?_)
  refine li_if_ge 41 dX4_isStruckBy_14 (by decide) (fun c8 => ?_) (fun c8 => ?_)
  · refine li_iconst 0 dX4_isStruckBy_41 (by decide) ?_
    exact li_iret dX4_isStruckBy_42 rfl (li_nz (Or.inl rfl)) ⟨⟨_, rfl, Or.inl rfl⟩, hf⟩
  · refine li_aload_n 1 dX4_isStruckBy_17 rfl ?_
    refine li_getr (k := 4) (N := 11) (T := TX4) (C0 := RX4) dX4_isStruckBy_18 (by decide) sh_13 rfl rfl (by decide) (by decide) li_in4 w_239 ?_
    refine li_iload_n 2 dX4_isStruckBy_21 rfl ?_
    refine li_callN (n := 2) (As := [.ref (Z.2.2 14), .int p1]) dX4_isStruckBy_22 (k_X11_at (d - 1) (by omega) (by decide) sh_14 (by decide) p1 M5) (by omega) (Nat.le_of_ble_eq_true rfl) nw_13 w_569 w_101 w_570 (by decide +kernel) rfl rfl (Nat.le_of_ble_eq_true rfl) (fun r M10 h11 => ?_)
    obtain ⟨⟨x9, rfl⟩, h11⟩ := h11
    have hf := li_fr_trans hf h11 (fun i h => False.elim h)
    refine li_i2l dX4_isStruckBy_25 ?_
    refine li_topL (fun x12 ex12 => ?_)
    refine li_lload_n 0 dX4_isStruckBy_26 rfl ?_
    refine li_ladd dX4_isStruckBy_27 ?_
    refine li_topL (fun x13 ex13 => ?_)
    refine li_aload_n 1 dX4_isStruckBy_28 rfl ?_
    refine li_iload_n 2 dX4_isStruckBy_29 rfl ?_
    refine li_callV (n := 1) (As := [.int p1]) dX4_isStruckBy_30 (k_X4_owedBy (d - 1) (by omega) p1 M10) (by omega) (Nat.le_of_ble_eq_true rfl) w_1244 w_1245 w_1246 w_105 w_1247 (by decide +kernel) rfl (by decide) sh_13 rfl rfl (Nat.le_of_ble_eq_true rfl) (fun r M15 h16 => ?_)
    obtain ⟨⟨x14, rfl⟩, h16⟩ := h16
    have hf := li_fr_trans hf h16 (fun i h => False.elim h)
    refine li_lcmp dX4_isStruckBy_33 ?_
    refine li_top (fun x17 ex17 => ?_)
    refine li_if_ge 41 dX4_isStruckBy_34 (by decide) (fun c18 => ?_) (fun c18 => ?_)
    · refine li_iconst 0 dX4_isStruckBy_41 (by decide) ?_
      exact li_iret dX4_isStruckBy_42 rfl (li_nz (Or.inl rfl)) ⟨⟨_, rfl, Or.inl rfl⟩, hf⟩
    · refine li_iconst 1 dX4_isStruckBy_37 (by decide) ?_
      refine li_goto 42 dX4_isStruckBy_38 (by decide) ?_
      exact li_iret dX4_isStruckBy_42 rfl (li_nz (Or.inr rfl)) ⟨⟨_, rfl, Or.inr rfl⟩, hf⟩
set_option maxRecDepth 100000 in
set_option maxHeartbeats 4000000 in
theorem k_X4_struckWith {l : Launch} {Z : li_Z} (d : Nat) (hd : 6 ≤ d) (p1 : Int32) (p2 : Int32) (M0 : li_M) : li_Met l Z YX4_struckWith d [.ref (Z.2.2 13), .int p1, .int p2] M0 (li_SI (fun i => False) M0) := by
  refine li_enter (by decide +kernel) (Nat.le_of_ble_eq_true rfl) ?_
  show li_T l Z YX4_struckWith d 0 [(0, .ref (Z.2.2 13)), (1, .int p1), (2, .int p2)] [] M0 _
  have hf : li_fr (fun i => False) M0 M0 := li_fr_refl
  refine li_aload_n 0 dX4_struckWith_0 rfl ?_
  refine li_iload_n 1 dX4_struckWith_1 rfl ?_
  refine li_callV (n := 1) (As := [.int p1]) dX4_struckWith_2 (k_X4_owedBy (d - 1) (by omega) p1 M0) (by omega) (Nat.le_of_ble_eq_true rfl) w_1244 w_1245 w_1246 w_105 w_1247 (by decide +kernel) rfl (by decide) sh_13 rfl rfl (Nat.le_of_ble_eq_true rfl) (fun r M2 h3 => ?_)
  obtain ⟨⟨x1, rfl⟩, h3⟩ := h3
  have hf := li_fr_trans hf h3 (fun i h => False.elim h)
  refine li_lconst 0 dX4_struckWith_5 (by decide) ?_
  refine li_lcmp dX4_struckWith_6 ?_
  refine li_top (fun x4 ex4 => ?_)
  refine li_if_ne 12 dX4_struckWith_7 (by decide) (fun c5 => ?_) (fun c5 => ?_)
  · refine li_iconst 1 dX4_struckWith_12 (by decide) ?_
    refine li_iload_n 1 dX4_struckWith_13 rfl ?_
    refine li_ishl dX4_struckWith_14 ?_
    refine li_top (fun x6 ex6 => ?_)
    refine li_istore_n [(3, .int x6), (0, .ref (Z.2.2 13)), (1, .int p1), (2, .int p2)] dX4_struckWith_15 (by decide) rfl ?_
    refine li_iconst 0 dX4_struckWith_16 (by decide) ?_
    refine li_istore [(4, .int 0), (3, .int x6), (0, .ref (Z.2.2 13)), (1, .int p1), (2, .int p2)] dX4_struckWith_17 (by decide) rfl ?_
    have L19 : ∀ (n : Nat) (x7 : Int32) (x8 : Int32) (M9 : li_M), (2147483647 - (x7 : Int32).toInt).toNat < n → li_fr (fun i => False) M0 M9 → li_T l Z YX4_struckWith d 19 [(4, .int x7), (3, .int x8), (0, .ref (Z.2.2 13)), (1, .int p1), (2, .int p2)] [] M9 (li_SI (fun i => False) M0) := by
      intro n
      induction n with
      | zero => intro x7 x8 M9 hn; exact absurd hn (Nat.not_lt_zero _)
      | succ n ih19 =>
        intro x7 x8 M9 hn hf
        refine li_iload 0 dX4_struckWith_19 rfl ?_
        refine li_iload_n 4 dX4_struckWith_21 rfl ?_
        refine li_icmp_ge 72 dX4_struckWith_22 (by decide) (fun c10 => ?_) (fun c10 => ?_)
        · refine li_iload_n 1 dX4_struckWith_72 rfl ?_
          exact li_iret dX4_struckWith_73 rfl rfl ⟨⟨_, rfl⟩, hf⟩
        · refine li_iconst 0 dX4_struckWith_25 (by decide) ?_
          refine li_istore [(5, .int 0), (4, .int x7), (3, .int x8), (0, .ref (Z.2.2 13)), (1, .int p1), (2, .int p2)] dX4_struckWith_26 (by decide) rfl ?_
          have L28 : ∀ (n : Nat) (x11 : Int32) (x12 : Int32) (M13 : li_M), (2147483647 - (x11 : Int32).toInt).toNat < n → li_fr (fun i => False) M0 M13 → li_T l Z YX4_struckWith d 28 [(5, .int x11), (4, .int x7), (3, .int x12), (0, .ref (Z.2.2 13)), (1, .int p1), (2, .int p2)] [] M13 (li_SI (fun i => False) M0) := by
            intro n
            induction n with
            | zero => intro x11 x12 M13 hn; exact absurd hn (Nat.not_lt_zero _)
            | succ n ih28 =>
              intro x11 x12 M13 hn hf
              refine li_iload 0 dX4_struckWith_28 rfl ?_
              refine li_iload_n 5 dX4_struckWith_30 rfl ?_
              refine li_icmp_ge 66 dX4_struckWith_31 (by decide) (fun c14 => ?_) (fun c14 => ?_)
              · obtain ⟨x15, ex15⟩ : ∃ y : Int32, y = x7 + 1 := ⟨_, rfl⟩
                refine li_iinc 1 [(4, .int x15), (5, .int x11), (3, .int x12), (0, .ref (Z.2.2 13)), (1, .int p1), (2, .int p2)] x15 dX4_struckWith_66 rfl (by rw [ex15]; rfl) (by decide) rfl ?_
                refine li_goto 19 dX4_struckWith_69 (by decide) ?_
                refine li_pick [0, 2, 3, 4, 5] [(4, .int x15), (3, .int x12), (0, .ref (Z.2.2 13)), (1, .int p1), (2, .int p2)] rfl ?_
                exact ih19 x15 x12 M13 (by have h9 := li_up (li_gt c10); rw [← ex15] at h9; omega) hf
              · refine li_iload_n 2 dX4_struckWith_34 rfl ?_
                refine li_iload 0 dX4_struckWith_35 rfl ?_
                refine li_callN (n := 2) (As := [.int x12, .int x11]) dX4_struckWith_37 (k_X11_holds (d - 1) (by omega) x12 x11 M13) (by omega) (Nat.le_of_ble_eq_true rfl) nw_22 w_857 w_101 w_858 (by decide +kernel) rfl rfl (Nat.le_of_ble_eq_true rfl) (fun r M17 h18 => ?_)
                obtain ⟨⟨x16, rfl, bx16⟩, h18⟩ := h18
                have hf := li_fr_trans hf h18 (fun i h => False.elim h)
                have J60 : ∀ (x20 : Int32) (M21 : li_M), li_fr (fun i => False) M0 M21 → li_T l Z YX4_struckWith d 60 [(5, .int x11), (4, .int x7), (3, .int x20), (0, .ref (Z.2.2 13)), (1, .int p1), (2, .int p2)] [] M21 (li_SI (fun i => False) M0) := by
                  intro x20 M21 hf
                  obtain ⟨x22, ex22⟩ : ∃ y : Int32, y = x11 + 1 := ⟨_, rfl⟩
                  refine li_iinc 0 [(5, .int x22), (4, .int x7), (3, .int x20), (0, .ref (Z.2.2 13)), (1, .int p1), (2, .int p2)] x22 dX4_struckWith_60 rfl (by rw [ex22]; rfl) (by decide) rfl ?_
                  refine li_goto 28 dX4_struckWith_63 (by decide) ?_
                  refine li_pick [0, 1, 2, 3, 4, 5] [(5, .int x22), (4, .int x7), (3, .int x20), (0, .ref (Z.2.2 13)), (1, .int p1), (2, .int p2)] rfl ?_
                  exact ih28 x22 x20 M21 (by have h9 := li_up (li_gt c14); rw [← ex22] at h9; omega) hf
                refine li_if_ne 60 dX4_struckWith_40 (by decide) (fun c19 => ?_) (fun c19 => ?_)
                · refine li_pick [0, 1, 2, 3, 4, 5] [(5, .int x11), (4, .int x7), (3, .int x12), (0, .ref (Z.2.2 13)), (1, .int p1), (2, .int p2)] rfl ?_
                  exact J60 x12 M17 hf
                · refine li_aload_n 3 dX4_struckWith_43 rfl ?_
                  refine li_iload 0 dX4_struckWith_44 rfl ?_
                  refine li_iload_n 2 dX4_struckWith_46 rfl ?_
                  refine li_callV (n := 2) (As := [.int x11, .int x12]) dX4_struckWith_47 (k_X4_isStruckBy (d - 1) (by omega) x11 x12 M17) (by omega) (Nat.le_of_ble_eq_true rfl) w_1252 w_1254 w_40 w_105 w_1255 (by decide +kernel) rfl (by decide) sh_13 rfl rfl (Nat.le_of_ble_eq_true rfl) (fun r M24 h25 => ?_)
                  obtain ⟨⟨x23, rfl, bx23⟩, h25⟩ := h25
                  have hf := li_fr_trans hf h25 (fun i h => False.elim h)
                  refine li_if_eq 60 dX4_struckWith_50 (by decide) (fun c26 => ?_) (fun c26 => ?_)
                  · refine li_pick [0, 1, 2, 3, 4, 5] [(5, .int x11), (4, .int x7), (3, .int x12), (0, .ref (Z.2.2 13)), (1, .int p1), (2, .int p2)] rfl ?_
                    exact J60 x12 M24 hf
                  · refine li_iload_n 2 dX4_struckWith_53 rfl ?_
                    refine li_iconst 1 dX4_struckWith_54 (by decide) ?_
                    refine li_iload 0 dX4_struckWith_55 rfl ?_
                    refine li_ishl dX4_struckWith_57 ?_
                    refine li_top (fun x27 ex27 => ?_)
                    refine li_ior dX4_struckWith_58 ?_
                    refine li_top (fun x28 ex28 => ?_)
                    refine li_istore_n [(3, .int x28), (5, .int x11), (4, .int x7), (0, .ref (Z.2.2 13)), (1, .int p1), (2, .int p2)] dX4_struckWith_59 (by decide) rfl ?_
                    refine li_pick [1, 2, 0, 3, 4, 5] [(5, .int x11), (4, .int x7), (3, .int x28), (0, .ref (Z.2.2 13)), (1, .int p1), (2, .int p2)] rfl ?_
                    exact J60 x28 M24 hf
          exact L28 _ 0 x8 M9 (Nat.lt_succ_self _) hf
    exact L19 _ 0 x6 M2 (Nat.lt_succ_self _) hf
  · refine li_iconst 0 dX4_struckWith_10 (by decide) ?_
    exact li_iret dX4_struckWith_11 rfl rfl ⟨⟨_, rfl⟩, hf⟩
