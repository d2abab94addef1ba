theorem w_29 : (Jvm.Cond.selects "ClockForTalk$Wordings" ({ cls := "ClockForTalk$Wordings", name := "joined", desc := "(II)I" } : Jvm.MethodName) ({ cls := "ClockForTalk$Wordings", name := "joined", desc := "(II)I" } : Jvm.MethodName)) ∈ li_ws := li_mem 29 (by decide +kernel) (by decide +kernel)
theorem w_30 : (Jvm.Cond.selects "ClockForTalk$Wordings" ({ cls := "ClockForTalk$Wordings", name := "tryFirst", desc := "(II)V" } : Jvm.MethodName) ({ cls := "ClockForTalk$Wordings", name := "tryFirst", desc := "(II)V" } : Jvm.MethodName)) ∈ li_ws := li_mem 30 (by decide +kernel) (by decide +kernel)
theorem w_31 : (Jvm.Cond.selects "ClockForTalk$Wordings" ({ cls := "ClockForTalk$Wordings", name := "isTrialLess", desc := "(II)Z" } : Jvm.MethodName) ({ cls := "ClockForTalk$Wordings", name := "isTrialLess", desc := "(II)Z" } : Jvm.MethodName)) ∈ li_ws := li_mem 31 (by decide +kernel) (by decide +kernel)
theorem w_108 : (Jvm.Cond.initialized "ClockForTalk$Wordings") ∈ li_ws := li_mem 108 (by decide +kernel) (by decide +kernel)
theorem w_335 : (Jvm.Cond.fieldLink "ClockForTalk$Wordings" (11 : Nat) "ClockForTalk$Wordings" "grammar" "[I") ∈ li_ws := li_mem 335 (by decide +kernel) (by decide +kernel)
theorem w_336 : (Jvm.Cond.fieldLink "ClockForTalk$Wordings" (15 : Nat) "ClockForTalk$Wordings" "draft" "[I") ∈ li_ws := li_mem 336 (by decide +kernel) (by decide +kernel)
theorem w_337 : (Jvm.Cond.fieldLink "ClockForTalk$Wordings" (18 : Nat) "ClockForTalk$Wordings" "letters" "[I") ∈ li_ws := li_mem 337 (by decide +kernel) (by decide +kernel)
theorem w_338 : (Jvm.Cond.fieldLink "ClockForTalk$Wordings" (21 : Nat) "ClockForTalk$Wordings" "masks" "[I") ∈ li_ws := li_mem 338 (by decide +kernel) (by decide +kernel)
theorem w_339 : (Jvm.Cond.fieldLink "ClockForTalk$Wordings" (24 : Nat) "ClockForTalk$Wordings" "fewest" "[I") ∈ li_ws := li_mem 339 (by decide +kernel) (by decide +kernel)
theorem w_340 : (Jvm.Cond.fieldLink "ClockForTalk$Wordings" (27 : Nat) "ClockForTalk$Wordings" "rows" "[I") ∈ li_ws := li_mem 340 (by decide +kernel) (by decide +kernel)
theorem w_342 : (Jvm.Cond.fieldLink "ClockForTalk$Wordings" (30 : Nat) "ClockForTalk$Wordings" "trial" "[I") ∈ li_ws := li_mem 342 (by decide +kernel) (by decide +kernel)
theorem w_343 : (Jvm.Cond.fieldLink "ClockForTalk$Wordings" (53 : Nat) "ClockForTalk$Wordings" "lines" "I") ∈ li_ws := li_mem 343 (by decide +kernel) (by decide +kernel)
theorem w_545 : (Jvm.Cond.instanceMethod ({ cls := "ClockForTalk$Text", name := "atEnd", desc := "()Z" } : Jvm.MethodName)) ∈ li_ws := li_mem 545 (by decide +kernel) (by decide +kernel)
theorem w_546 : (Jvm.Cond.selects "ClockForTalk$Text" ({ cls := "ClockForTalk$Text", name := "atEnd", desc := "()Z" } : Jvm.MethodName) ({ cls := "ClockForTalk$Text", name := "atEnd", desc := "()Z" } : Jvm.MethodName)) ∈ li_ws := li_mem 546 (by decide +kernel) (by decide +kernel)
theorem w_547 : (Jvm.Cond.code ({ cls := "ClockForTalk$Text", name := "atEnd", desc := "()Z" } : Jvm.MethodName) prog_8_method_4_code (1 : Nat) (Option.some Jvm.ClassFile.FieldType.boolean)) ∈ li_ws := li_mem 547 (by decide +kernel) (by decide +kernel)
theorem w_657 : (Jvm.Cond.methodLink "ClockForTalk$Wordings" (57 : Nat) ({ cls := "ClockForTalk$Text", name := "atEnd", desc := "()Z" } : Jvm.MethodName)) ∈ li_ws := li_mem 657 (by decide +kernel) (by decide +kernel)
theorem w_658 : (Jvm.Cond.methodLink "ClockForTalk$Wordings" (33 : Nat) ({ cls := "ClockForTalk$Text", name := "takeOneOf", desc := "(II)I" } : Jvm.MethodName)) ∈ li_ws := li_mem 658 (by decide +kernel) (by decide +kernel)
theorem w_720 : (Jvm.Cond.methodLink "ClockForTalk$Wordings" (39 : Nat) ({ cls := "ClockForTalk$Text", name := "skip", desc := "(I)Z" } : Jvm.MethodName)) ∈ li_ws := li_mem 720 (by decide +kernel) (by decide +kernel)
theorem w_1120 : (Jvm.Cond.methodLink "ClockForTalk$Wordings" (47 : Nat) ({ cls := "java/lang/System", name := "arraycopy", desc := "(Ljava/lang/Object;ILjava/lang/Object;II)V" } : Jvm.MethodName)) ∈ li_ws := li_mem 1120 (by decide +kernel) (by decide +kernel)
theorem w_1130 : (Jvm.Cond.methodLink "ClockForTalk$Wordings" (65 : Nat) ({ cls := "ClockForTalk$Wordings", name := "joined", desc := "(II)I" } : Jvm.MethodName)) ∈ li_ws := li_mem 1130 (by decide +kernel) (by decide +kernel)
theorem w_1132 : (Jvm.Cond.instanceMethod ({ cls := "ClockForTalk$Wordings", name := "joined", desc := "(II)I" } : Jvm.MethodName)) ∈ li_ws := li_mem 1132 (by decide +kernel) (by decide +kernel)
theorem w_1133 : (Jvm.Cond.code ({ cls := "ClockForTalk$Wordings", name := "joined", desc := "(II)I" } : Jvm.MethodName) prog_11_method_7_code (9 : Nat) (Option.some Jvm.ClassFile.FieldType.int)) ∈ li_ws := li_mem 1133 (by decide +kernel) (by decide +kernel)
theorem w_1134 : (Jvm.Cond.methodLink "ClockForTalk$Wordings" (68 : Nat) ({ cls := "ClockForTalk$Wordings", name := "mask", desc := "(II)I" } : Jvm.MethodName)) ∈ li_ws := li_mem 1134 (by decide +kernel) (by decide +kernel)
theorem w_1135 : (Jvm.Cond.instanceMethod ({ cls := "ClockForTalk$Wordings", name := "mask", desc := "(II)I" } : Jvm.MethodName)) ∈ li_ws := li_mem 1135 (by decide +kernel) (by decide +kernel)
theorem w_1136 : (Jvm.Cond.selects "ClockForTalk$Wordings" ({ cls := "ClockForTalk$Wordings", name := "mask", desc := "(II)I" } : Jvm.MethodName) ({ cls := "ClockForTalk$Wordings", name := "mask", desc := "(II)I" } : Jvm.MethodName)) ∈ li_ws := li_mem 1136 (by decide +kernel) (by decide +kernel)
theorem w_1137 : (Jvm.Cond.code ({ cls := "ClockForTalk$Wordings", name := "mask", desc := "(II)I" } : Jvm.MethodName) prog_11_method_5_code (3 : Nat) (Option.some Jvm.ClassFile.FieldType.int)) ∈ li_ws := li_mem 1137 (by decide +kernel) (by decide +kernel)
theorem w_1143 : (Jvm.Cond.methodLink "ClockForTalk$Wordings" (75 : Nat) ({ cls := "ClockForTalk$Wordings", name := "tryFirst", desc := "(II)V" } : Jvm.MethodName)) ∈ li_ws := li_mem 1143 (by decide +kernel) (by decide +kernel)
theorem w_1145 : (Jvm.Cond.instanceMethod ({ cls := "ClockForTalk$Wordings", name := "tryFirst", desc := "(II)V" } : Jvm.MethodName)) ∈ li_ws := li_mem 1145 (by decide +kernel) (by decide +kernel)
theorem w_1146 : (Jvm.Cond.code ({ cls := "ClockForTalk$Wordings", name := "tryFirst", desc := "(II)V" } : Jvm.MethodName) prog_11_method_9_code (5 : Nat) (Option.none : Option Jvm.ClassFile.FieldType)) ∈ li_ws := li_mem 1146 (by decide +kernel) (by decide +kernel)
theorem w_1147 : (Jvm.Cond.methodLink "ClockForTalk$Wordings" (79 : Nat) ({ cls := "java/lang/Integer", name := "numberOfTrailingZeros", desc := "(I)I" } : Jvm.MethodName)) ∈ li_ws := li_mem 1147 (by decide +kernel) (by decide +kernel)
theorem w_1148 : (Jvm.Cond.static ({ cls := "java/lang/Integer", name := "numberOfTrailingZeros", desc := "(I)I" } : Jvm.MethodName)) ∈ li_ws := li_mem 1148 (by decide +kernel) (by decide +kernel)
theorem w_1149 : (Jvm.Cond.code ({ cls := "java/lang/Integer", name := "numberOfTrailingZeros", desc := "(I)I" } : Jvm.MethodName) prog_18_method_48_code (2 : Nat) (Option.some Jvm.ClassFile.FieldType.int)) ∈ li_ws := li_mem 1149 (by decide +kernel) (by decide +kernel)
theorem w_1151 : (Jvm.Cond.methodLink "ClockForTalk$Wordings" (85 : Nat) ({ cls := "ClockForTalk$Wordings", name := "isTrialLess", desc := "(II)Z" } : Jvm.MethodName)) ∈ li_ws := li_mem 1151 (by decide +kernel) (by decide +kernel)
theorem w_1153 : (Jvm.Cond.instanceMethod ({ cls := "ClockForTalk$Wordings", name := "isTrialLess", desc := "(II)Z" } : Jvm.MethodName)) ∈ li_ws := li_mem 1153 (by decide +kernel) (by decide +kernel)
theorem w_1154 : (Jvm.Cond.code ({ cls := "ClockForTalk$Wordings", name := "isTrialLess", desc := "(II)Z" } : Jvm.MethodName) prog_11_method_10_code (5 : Nat) (Option.some Jvm.ClassFile.FieldType.boolean)) ∈ li_ws := li_mem 1154 (by decide +kernel) (by decide +kernel)
theorem dX10_readLine_0 : decode cX10_readLine 0 = .ok (.aload_n 1, 1) := by decide +kernel
theorem dX10_readLine_1 : decode cX10_readLine 1 = .ok (.bipush 97, 2) := by decide +kernel
theorem dX10_readLine_3 : decode cX10_readLine 3 = .ok (.bipush 7, 2) := by decide +kernel
theorem dX10_readLine_5 : decode cX10_readLine 5 = .ok (.invokevirtual 33, 3) := by decide +kernel
theorem dX10_readLine_8 : decode cX10_readLine 8 = .ok (.istore_n 3, 1) := by decide +kernel
theorem dX10_readLine_9 : decode cX10_readLine 9 = .ok (.iload_n 3, 1) := by decide +kernel
theorem dX10_readLine_10 : decode cX10_readLine 10 = .ok (.ifCond .ge 5, 3) := by decide +kernel
theorem dX10_readLine_13 : decode cX10_readLine 13 = .ok (.iconst 0, 1) := by decide +kernel
theorem dX10_readLine_14 : decode cX10_readLine 14 = .ok (.ireturn, 1) := by decide +kernel
theorem dX10_readLine_15 : decode cX10_readLine 15 = .ok (.aload_n 1, 1) := by decide +kernel
theorem dX10_readLine_16 : decode cX10_readLine 16 = .ok (.bipush 97, 2) := by decide +kernel
theorem dX10_readLine_18 : decode cX10_readLine 18 = .ok (.bipush 7, 2) := by decide +kernel
theorem dX10_readLine_20 : decode cX10_readLine 20 = .ok (.invokevirtual 33, 3) := by decide +kernel
theorem dX10_readLine_23 : decode cX10_readLine 23 = .ok (.istore 4, 2) := by decide +kernel
theorem dX10_readLine_25 : decode cX10_readLine 25 = .ok (.iload 4, 2) := by decide +kernel
theorem dX10_readLine_27 : decode cX10_readLine 27 = .ok (.ifCond .lt 12, 3) := by decide +kernel
theorem dX10_readLine_30 : decode cX10_readLine 30 = .ok (.aload_n 1, 1) := by decide +kernel
theorem dX10_readLine_31 : decode cX10_readLine 31 = .ok (.bipush 62, 2) := by decide +kernel
theorem dX10_readLine_33 : decode cX10_readLine 33 = .ok (.invokevirtual 39, 3) := by decide +kernel
theorem dX10_readLine_36 : decode cX10_readLine 36 = .ok (.ifCond .ne 5, 3) := by decide +kernel
theorem dX10_readLine_39 : decode cX10_readLine 39 = .ok (.iconst 0, 1) := by decide +kernel
theorem dX10_readLine_40 : decode cX10_readLine 40 = .ok (.ireturn, 1) := by decide +kernel
theorem dX10_readLine_41 : decode cX10_readLine 41 = .ok (.aload_n 1, 1) := by decide +kernel
theorem dX10_readLine_42 : decode cX10_readLine 42 = .ok (.bipush 97, 2) := by decide +kernel
theorem dX10_readLine_44 : decode cX10_readLine 44 = .ok (.bipush 7, 2) := by decide +kernel
theorem dX10_readLine_46 : decode cX10_readLine 46 = .ok (.invokevirtual 33, 3) := by decide +kernel
theorem dX10_readLine_49 : decode cX10_readLine 49 = .ok (.istore 5, 2) := by decide +kernel
theorem dX10_readLine_51 : decode cX10_readLine 51 = .ok (.aload_n 0, 1) := by decide +kernel
theorem dX10_readLine_52 : decode cX10_readLine 52 = .ok (.getfield 15, 3) := by decide +kernel
theorem dX10_readLine_55 : decode cX10_readLine 55 = .ok (.iload_n 2, 1) := by decide +kernel
theorem dX10_readLine_56 : decode cX10_readLine 56 = .ok (.iconst 3, 1) := by decide +kernel
theorem dX10_readLine_57 : decode cX10_readLine 57 = .ok (.imul, 1) := by decide +kernel
theorem dX10_readLine_58 : decode cX10_readLine 58 = .ok (.iload_n 3, 1) := by decide +kernel
theorem dX10_readLine_59 : decode cX10_readLine 59 = .ok (.invokestatic 43, 3) := by decide +kernel
theorem dX10_readLine_62 : decode cX10_readLine 62 = .ok (.aload_n 0, 1) := by decide +kernel
theorem dX10_readLine_63 : decode cX10_readLine 63 = .ok (.getfield 15, 3) := by decide +kernel
theorem dX10_readLine_66 : decode cX10_readLine 66 = .ok (.iload_n 2, 1) := by decide +kernel
theorem dX10_readLine_67 : decode cX10_readLine 67 = .ok (.iconst 3, 1) := by decide +kernel
theorem dX10_readLine_68 : decode cX10_readLine 68 = .ok (.imul, 1) := by decide +kernel
theorem dX10_readLine_69 : decode cX10_readLine 69 = .ok (.iconst 1, 1) := by decide +kernel
theorem dX10_readLine_70 : decode cX10_readLine 70 = .ok (.iadd, 1) := by decide +kernel
theorem dX10_readLine_71 : decode cX10_readLine 71 = .ok (.iload 4, 2) := by decide +kernel
theorem dX10_readLine_73 : decode cX10_readLine 73 = .ok (.invokestatic 43, 3) := by decide +kernel
theorem dX10_readLine_76 : decode cX10_readLine 76 = .ok (.aload_n 0, 1) := by decide +kernel
theorem dX10_readLine_77 : decode cX10_readLine 77 = .ok (.getfield 15, 3) := by decide +kernel
theorem dX10_readLine_80 : decode cX10_readLine 80 = .ok (.iload_n 2, 1) := by decide +kernel
theorem dX10_readLine_81 : decode cX10_readLine 81 = .ok (.iconst 3, 1) := by decide +kernel
theorem dX10_readLine_82 : decode cX10_readLine 82 = .ok (.imul, 1) := by decide +kernel
theorem dX10_readLine_83 : decode cX10_readLine 83 = .ok (.iconst 2, 1) := by decide +kernel
theorem dX10_readLine_84 : decode cX10_readLine 84 = .ok (.iadd, 1) := by decide +kernel
theorem dX10_readLine_85 : decode cX10_readLine 85 = .ok (.iload 5, 2) := by decide +kernel
theorem dX10_readLine_87 : decode cX10_readLine 87 = .ok (.invokestatic 43, 3) := by decide +kernel
theorem dX10_readLine_90 : decode cX10_readLine 90 = .ok (.iload 5, 2) := by decide +kernel
theorem dX10_readLine_92 : decode cX10_readLine 92 = .ok (.ifCond .lt 7, 3) := by decide +kernel
theorem dX10_readLine_95 : decode cX10_readLine 95 = .ok (.iconst 1, 1) := by decide +kernel
theorem dX10_readLine_96 : decode cX10_readLine 96 = .ok (.goto 4, 3) := by decide +kernel
theorem dX10_readLine_99 : decode cX10_readLine 99 = .ok (.iconst 0, 1) := by decide +kernel
theorem dX10_readLine_100 : decode cX10_readLine 100 = .ok (.ireturn, 1) := by decide +kernel
abbrev YX10_readLine : li_Y := (yX10_readLine, cX10_readLine, 6, (some .boolean))
theorem dX10_adopt_0 : decode cX10_adopt 0 = .ok (.aload_n 0, 1) := by decide +kernel
theorem dX10_adopt_1 : decode cX10_adopt 1 = .ok (.getfield 15, 3) := by decide +kernel
theorem dX10_adopt_4 : decode cX10_adopt 4 = .ok (.iconst 0, 1) := by decide +kernel
theorem dX10_adopt_5 : decode cX10_adopt 5 = .ok (.aload_n 0, 1) := by decide +kernel
theorem dX10_adopt_6 : decode cX10_adopt 6 = .ok (.getfield 11, 3) := by decide +kernel
theorem dX10_adopt_9 : decode cX10_adopt 9 = .ok (.iconst 0, 1) := by decide +kernel
theorem dX10_adopt_10 : decode cX10_adopt 10 = .ok (.bipush 30, 2) := by decide +kernel
theorem dX10_adopt_12 : decode cX10_adopt 12 = .ok (.invokestatic 47, 3) := by decide +kernel
theorem dX10_adopt_15 : decode cX10_adopt 15 = .ok (.aload_n 0, 1) := by decide +kernel
theorem dX10_adopt_16 : decode cX10_adopt 16 = .ok (.iload_n 1, 1) := by decide +kernel
theorem dX10_adopt_17 : decode cX10_adopt 17 = .ok (.putfield 53, 3) := by decide +kernel
theorem dX10_adopt_20 : decode cX10_adopt 20 = .ok (.return_, 1) := by decide +kernel
abbrev YX10_adopt : li_Y := (yX10_adopt, cX10_adopt, 2, none)
theorem dX10_readWording_0 : decode cX10_readWording 0 = .ok (.iconst 0, 1) := by decide +kernel
theorem dX10_readWording_1 : decode cX10_readWording 1 = .ok (.istore_n 2, 1) := by decide +kernel
theorem dX10_readWording_2 : decode cX10_readWording 2 = .ok (.iconst 0, 1) := by decide +kernel
theorem dX10_readWording_3 : decode cX10_readWording 3 = .ok (.istore_n 3, 1) := by decide +kernel
theorem dX10_readWording_4 : decode cX10_readWording 4 = .ok (.iload_n 3, 1) := by decide +kernel
theorem dX10_readWording_5 : decode cX10_readWording 5 = .ok (.bipush 80, 2) := by decide +kernel
theorem dX10_readWording_7 : decode cX10_readWording 7 = .ok (.if_icmp .ge 46, 3) := by decide +kernel
theorem dX10_readWording_10 : decode cX10_readWording 10 = .ok (.aload_n 1, 1) := by decide +kernel
theorem dX10_readWording_11 : decode cX10_readWording 11 = .ok (.invokevirtual 57, 3) := by decide +kernel
theorem dX10_readWording_14 : decode cX10_readWording 14 = .ok (.ifCond .ne 39, 3) := by decide +kernel
theorem dX10_readWording_17 : decode cX10_readWording 17 = .ok (.aload_n 1, 1) := by decide +kernel
theorem dX10_readWording_18 : decode cX10_readWording 18 = .ok (.bipush 97, 2) := by decide +kernel
theorem dX10_readWording_20 : decode cX10_readWording 20 = .ok (.bipush 7, 2) := by decide +kernel
theorem dX10_readWording_22 : decode cX10_readWording 22 = .ok (.invokevirtual 33, 3) := by decide +kernel
theorem dX10_readWording_25 : decode cX10_readWording 25 = .ok (.istore 4, 2) := by decide +kernel
theorem dX10_readWording_27 : decode cX10_readWording 27 = .ok (.iload 4, 2) := by decide +kernel
theorem dX10_readWording_29 : decode cX10_readWording 29 = .ok (.ifCond .ge 5, 3) := by decide +kernel
theorem dX10_readWording_32 : decode cX10_readWording 32 = .ok (.iconst (-1), 1) := by decide +kernel
theorem dX10_readWording_33 : decode cX10_readWording 33 = .ok (.ireturn, 1) := by decide +kernel
theorem dX10_readWording_34 : decode cX10_readWording 34 = .ok (.aload_n 0, 1) := by decide +kernel
theorem dX10_readWording_35 : decode cX10_readWording 35 = .ok (.getfield 18, 3) := by decide +kernel
theorem dX10_readWording_38 : decode cX10_readWording 38 = .ok (.iload_n 2, 1) := by decide +kernel
theorem dX10_readWording_39 : decode cX10_readWording 39 = .ok (.iload 4, 2) := by decide +kernel
theorem dX10_readWording_41 : decode cX10_readWording 41 = .ok (.invokestatic 43, 3) := by decide +kernel
theorem dX10_readWording_44 : decode cX10_readWording 44 = .ok (.iinc 2 1, 3) := by decide +kernel
theorem dX10_readWording_47 : decode cX10_readWording 47 = .ok (.iinc 3 1, 3) := by decide +kernel
theorem dX10_readWording_50 : decode cX10_readWording 50 = .ok (.goto (-46), 3) := by decide +kernel
theorem dX10_readWording_53 : decode cX10_readWording 53 = .ok (.iload_n 2, 1) := by decide +kernel
theorem dX10_readWording_54 : decode cX10_readWording 54 = .ok (.ifCond .le 7, 3) := by decide +kernel
theorem dX10_readWording_57 : decode cX10_readWording 57 = .ok (.iload_n 2, 1) := by decide +kernel
theorem dX10_readWording_58 : decode cX10_readWording 58 = .ok (.goto 4, 3) := by decide +kernel
theorem dX10_readWording_61 : decode cX10_readWording 61 = .ok (.iconst (-1), 1) := by decide +kernel
theorem dX10_readWording_62 : decode cX10_readWording 62 = .ok (.ireturn, 1) := by decide +kernel
abbrev YX10_readWording : li_Y := (yX10_readWording, cX10_readWording, 5, (some .int))
theorem dX10_mask_0 : decode cX10_mask 0 = .ok (.aload_n 0, 1) := by decide +kernel
theorem dX10_mask_1 : decode cX10_mask 1 = .ok (.getfield 21, 3) := by decide +kernel
theorem dX10_mask_4 : decode cX10_mask 4 = .ok (.iload_n 1, 1) := by decide +kernel
theorem dX10_mask_5 : decode cX10_mask 5 = .ok (.bipush 15, 2) := by decide +kernel
theorem dX10_mask_7 : decode cX10_mask 7 = .ok (.imul, 1) := by decide +kernel
theorem dX10_mask_8 : decode cX10_mask 8 = .ok (.iload_n 2, 1) := by decide +kernel
theorem dX10_mask_9 : decode cX10_mask 9 = .ok (.iadd, 1) := by decide +kernel
theorem dX10_mask_10 : decode cX10_mask 10 = .ok (.invokestatic 61, 3) := by decide +kernel
theorem dX10_mask_13 : decode cX10_mask 13 = .ok (.ireturn, 1) := by decide +kernel
abbrev YX10_mask : li_Y := (yX10_mask, cX10_mask, 3, (some .int))
theorem dX10_joined_0 : decode cX10_joined 0 = .ok (.iconst 0, 1) := by decide +kernel
theorem dX10_joined_1 : decode cX10_joined 1 = .ok (.istore_n 3, 1) := by decide +kernel
theorem dX10_joined_2 : decode cX10_joined 2 = .ok (.iload_n 1, 1) := by decide +kernel
theorem dX10_joined_3 : decode cX10_joined 3 = .ok (.iconst 1, 1) := by decide +kernel
theorem dX10_joined_4 : decode cX10_joined 4 = .ok (.iadd, 1) := by decide +kernel
theorem dX10_joined_5 : decode cX10_joined 5 = .ok (.istore 4, 2) := by decide +kernel
theorem dX10_joined_7 : decode cX10_joined 7 = .ok (.iload 4, 2) := by decide +kernel
theorem dX10_joined_9 : decode cX10_joined 9 = .ok (.iload_n 2, 1) := by decide +kernel
theorem dX10_joined_10 : decode cX10_joined 10 = .ok (.if_icmp .ge 103, 3) := by decide +kernel
theorem dX10_joined_13 : decode cX10_joined 13 = .ok (.aload_n 0, 1) := by decide +kernel
theorem dX10_joined_14 : decode cX10_joined 14 = .ok (.iload_n 1, 1) := by decide +kernel
theorem dX10_joined_15 : decode cX10_joined 15 = .ok (.iload 4, 2) := by decide +kernel
theorem dX10_joined_17 : decode cX10_joined 17 = .ok (.invokevirtual 68, 3) := by decide +kernel
theorem dX10_joined_20 : decode cX10_joined 20 = .ok (.istore 5, 2) := by decide +kernel
theorem dX10_joined_22 : decode cX10_joined 22 = .ok (.aload_n 0, 1) := by decide +kernel
theorem dX10_joined_23 : decode cX10_joined 23 = .ok (.iload 4, 2) := by decide +kernel
theorem dX10_joined_25 : decode cX10_joined 25 = .ok (.iload_n 2, 1) := by decide +kernel
theorem dX10_joined_26 : decode cX10_joined 26 = .ok (.invokevirtual 68, 3) := by decide +kernel
theorem dX10_joined_29 : decode cX10_joined 29 = .ok (.istore 6, 2) := by decide +kernel
theorem dX10_joined_31 : decode cX10_joined 31 = .ok (.iconst 0, 1) := by decide +kernel
theorem dX10_joined_32 : decode cX10_joined 32 = .ok (.istore 7, 2) := by decide +kernel
theorem dX10_joined_34 : decode cX10_joined 34 = .ok (.iload 7, 2) := by decide +kernel
theorem dX10_joined_36 : decode cX10_joined 36 = .ok (.aload_n 0, 1) := by decide +kernel
theorem dX10_joined_37 : decode cX10_joined 37 = .ok (.getfield 53, 3) := by decide +kernel
theorem dX10_joined_40 : decode cX10_joined 40 = .ok (.if_icmp .ge 67, 3) := by decide +kernel
theorem dX10_joined_43 : decode cX10_joined 43 = .ok (.iload 7, 2) := by decide +kernel
theorem dX10_joined_45 : decode cX10_joined 45 = .ok (.iconst 3, 1) := by decide +kernel
theorem dX10_joined_46 : decode cX10_joined 46 = .ok (.imul, 1) := by decide +kernel
theorem dX10_joined_47 : decode cX10_joined 47 = .ok (.istore 8, 2) := by decide +kernel
theorem dX10_joined_49 : decode cX10_joined 49 = .ok (.iload 5, 2) := by decide +kernel
theorem dX10_joined_51 : decode cX10_joined 51 = .ok (.aload_n 0, 1) := by decide +kernel
theorem dX10_joined_52 : decode cX10_joined 52 = .ok (.getfield 11, 3) := by decide +kernel
theorem dX10_joined_55 : decode cX10_joined 55 = .ok (.iload 8, 2) := by decide +kernel
theorem dX10_joined_57 : decode cX10_joined 57 = .ok (.invokestatic 61, 3) := by decide +kernel
theorem dX10_joined_60 : decode cX10_joined 60 = .ok (.invokestatic 71, 3) := by decide +kernel
theorem dX10_joined_63 : decode cX10_joined 63 = .ok (.ifCond .eq 38, 3) := by decide +kernel
theorem dX10_joined_66 : decode cX10_joined 66 = .ok (.iload 6, 2) := by decide +kernel
theorem dX10_joined_68 : decode cX10_joined 68 = .ok (.aload_n 0, 1) := by decide +kernel
theorem dX10_joined_69 : decode cX10_joined 69 = .ok (.getfield 11, 3) := by decide +kernel
theorem dX10_joined_72 : decode cX10_joined 72 = .ok (.iload 8, 2) := by decide +kernel
theorem dX10_joined_74 : decode cX10_joined 74 = .ok (.iconst 1, 1) := by decide +kernel
theorem dX10_joined_75 : decode cX10_joined 75 = .ok (.iadd, 1) := by decide +kernel
theorem dX10_joined_76 : decode cX10_joined 76 = .ok (.invokestatic 61, 3) := by decide +kernel
theorem dX10_joined_79 : decode cX10_joined 79 = .ok (.invokestatic 71, 3) := by decide +kernel
theorem dX10_joined_82 : decode cX10_joined 82 = .ok (.ifCond .eq 19, 3) := by decide +kernel
theorem dX10_joined_85 : decode cX10_joined 85 = .ok (.iload_n 3, 1) := by decide +kernel
theorem dX10_joined_86 : decode cX10_joined 86 = .ok (.iconst 1, 1) := by decide +kernel
theorem dX10_joined_87 : decode cX10_joined 87 = .ok (.aload_n 0, 1) := by decide +kernel
theorem dX10_joined_88 : decode cX10_joined 88 = .ok (.getfield 11, 3) := by decide +kernel
theorem dX10_joined_91 : decode cX10_joined 91 = .ok (.iload 8, 2) := by decide +kernel
theorem dX10_joined_93 : decode cX10_joined 93 = .ok (.iconst 2, 1) := by decide +kernel
theorem dX10_joined_94 : decode cX10_joined 94 = .ok (.iadd, 1) := by decide +kernel
theorem dX10_joined_95 : decode cX10_joined 95 = .ok (.invokestatic 61, 3) := by decide +kernel
theorem dX10_joined_98 : decode cX10_joined 98 = .ok (.ishl, 1) := by decide +kernel
theorem dX10_joined_99 : decode cX10_joined 99 = .ok (.ior, 1) := by decide +kernel
theorem dX10_joined_100 : decode cX10_joined 100 = .ok (.istore_n 3, 1) := by decide +kernel
theorem dX10_joined_101 : decode cX10_joined 101 = .ok (.iinc 7 1, 3) := by decide +kernel
theorem dX10_joined_104 : decode cX10_joined 104 = .ok (.goto (-70), 3) := by decide +kernel
theorem dX10_joined_107 : decode cX10_joined 107 = .ok (.iinc 4 1, 3) := by decide +kernel
theorem dX10_joined_110 : decode cX10_joined 110 = .ok (.goto (-103), 3) := by decide +kernel
theorem dX10_joined_113 : decode cX10_joined 113 = .ok (.iload_n 3, 1) := by decide +kernel
theorem dX10_joined_114 : decode cX10_joined 114 = .ok (.ireturn, 1) := by decide +kernel
abbrev YX10_joined : li_Y := (yX10_joined, cX10_joined, 9, (some .int))
theorem dX10_fillMasks_0 : decode cX10_fillMasks 0 = .ok (.iconst 0, 1) := by decide +kernel
theorem dX10_fillMasks_1 : decode cX10_fillMasks 1 = .ok (.istore_n 2, 1) := by decide +kernel
theorem dX10_fillMasks_2 : decode cX10_fillMasks 2 = .ok (.iload_n 2, 1) := by decide +kernel
theorem dX10_fillMasks_3 : decode cX10_fillMasks 3 = .ok (.iload_n 1, 1) := by decide +kernel
theorem dX10_fillMasks_4 : decode cX10_fillMasks 4 = .ok (.if_icmp .ge 34, 3) := by decide +kernel
theorem dX10_fillMasks_7 : decode cX10_fillMasks 7 = .ok (.aload_n 0, 1) := by decide +kernel
theorem dX10_fillMasks_8 : decode cX10_fillMasks 8 = .ok (.getfield 21, 3) := by decide +kernel
theorem dX10_fillMasks_11 : decode cX10_fillMasks 11 = .ok (.iload_n 2, 1) := by decide +kernel
theorem dX10_fillMasks_12 : decode cX10_fillMasks 12 = .ok (.bipush 15, 2) := by decide +kernel
theorem dX10_fillMasks_14 : decode cX10_fillMasks 14 = .ok (.imul, 1) := by decide +kernel
theorem dX10_fillMasks_15 : decode cX10_fillMasks 15 = .ok (.iload_n 2, 1) := by decide +kernel
theorem dX10_fillMasks_16 : decode cX10_fillMasks 16 = .ok (.iadd, 1) := by decide +kernel
theorem dX10_fillMasks_17 : decode cX10_fillMasks 17 = .ok (.iconst 1, 1) := by decide +kernel
theorem dX10_fillMasks_18 : decode cX10_fillMasks 18 = .ok (.iadd, 1) := by decide +kernel
theorem dX10_fillMasks_19 : decode cX10_fillMasks 19 = .ok (.iconst 1, 1) := by decide +kernel
theorem dX10_fillMasks_20 : decode cX10_fillMasks 20 = .ok (.aload_n 0, 1) := by decide +kernel
theorem dX10_fillMasks_21 : decode cX10_fillMasks 21 = .ok (.getfield 18, 3) := by decide +kernel
theorem dX10_fillMasks_24 : decode cX10_fillMasks 24 = .ok (.iload_n 2, 1) := by decide +kernel
theorem dX10_fillMasks_25 : decode cX10_fillMasks 25 = .ok (.invokestatic 61, 3) := by decide +kernel
theorem dX10_fillMasks_28 : decode cX10_fillMasks 28 = .ok (.ishl, 1) := by decide +kernel
theorem dX10_fillMasks_29 : decode cX10_fillMasks 29 = .ok (.invokestatic 43, 3) := by decide +kernel
theorem dX10_fillMasks_32 : decode cX10_fillMasks 32 = .ok (.iinc 2 1, 3) := by decide +kernel
theorem dX10_fillMasks_35 : decode cX10_fillMasks 35 = .ok (.goto (-33), 3) := by decide +kernel
theorem dX10_fillMasks_38 : decode cX10_fillMasks 38 = .ok (.iconst 2, 1) := by decide +kernel
theorem dX10_fillMasks_39 : decode cX10_fillMasks 39 = .ok (.istore_n 2, 1) := by decide +kernel
theorem dX10_fillMasks_40 : decode cX10_fillMasks 40 = .ok (.iload_n 2, 1) := by decide +kernel
theorem dX10_fillMasks_41 : decode cX10_fillMasks 41 = .ok (.iload_n 1, 1) := by decide +kernel
theorem dX10_fillMasks_42 : decode cX10_fillMasks 42 = .ok (.if_icmp .gt 47, 3) := by decide +kernel
theorem dX10_fillMasks_45 : decode cX10_fillMasks 45 = .ok (.iconst 0, 1) := by decide +kernel
theorem dX10_fillMasks_46 : decode cX10_fillMasks 46 = .ok (.istore_n 3, 1) := by decide +kernel
theorem dX10_fillMasks_47 : decode cX10_fillMasks 47 = .ok (.iload_n 3, 1) := by decide +kernel
theorem dX10_fillMasks_48 : decode cX10_fillMasks 48 = .ok (.iload_n 2, 1) := by decide +kernel
theorem dX10_fillMasks_49 : decode cX10_fillMasks 49 = .ok (.iadd, 1) := by decide +kernel
theorem dX10_fillMasks_50 : decode cX10_fillMasks 50 = .ok (.iload_n 1, 1) := by decide +kernel
theorem dX10_fillMasks_51 : decode cX10_fillMasks 51 = .ok (.if_icmp .gt 32, 3) := by decide +kernel
theorem dX10_fillMasks_54 : decode cX10_fillMasks 54 = .ok (.aload_n 0, 1) := by decide +kernel
theorem dX10_fillMasks_55 : decode cX10_fillMasks 55 = .ok (.getfield 21, 3) := by decide +kernel
theorem dX10_fillMasks_58 : decode cX10_fillMasks 58 = .ok (.iload_n 3, 1) := by decide +kernel
theorem dX10_fillMasks_59 : decode cX10_fillMasks 59 = .ok (.bipush 15, 2) := by decide +kernel
theorem dX10_fillMasks_61 : decode cX10_fillMasks 61 = .ok (.imul, 1) := by decide +kernel
theorem dX10_fillMasks_62 : decode cX10_fillMasks 62 = .ok (.iload_n 3, 1) := by decide +kernel
theorem dX10_fillMasks_63 : decode cX10_fillMasks 63 = .ok (.iadd, 1) := by decide +kernel
theorem dX10_fillMasks_64 : decode cX10_fillMasks 64 = .ok (.iload_n 2, 1) := by decide +kernel
theorem dX10_fillMasks_65 : decode cX10_fillMasks 65 = .ok (.iadd, 1) := by decide +kernel
theorem dX10_fillMasks_66 : decode cX10_fillMasks 66 = .ok (.aload_n 0, 1) := by decide +kernel
theorem dX10_fillMasks_67 : decode cX10_fillMasks 67 = .ok (.iload_n 3, 1) := by decide +kernel
theorem dX10_fillMasks_68 : decode cX10_fillMasks 68 = .ok (.iload_n 3, 1) := by decide +kernel
theorem dX10_fillMasks_69 : decode cX10_fillMasks 69 = .ok (.iload_n 2, 1) := by decide +kernel
theorem dX10_fillMasks_70 : decode cX10_fillMasks 70 = .ok (.iadd, 1) := by decide +kernel
theorem dX10_fillMasks_71 : decode cX10_fillMasks 71 = .ok (.invokevirtual 65, 3) := by decide +kernel
theorem dX10_fillMasks_74 : decode cX10_fillMasks 74 = .ok (.invokestatic 43, 3) := by decide +kernel
theorem dX10_fillMasks_77 : decode cX10_fillMasks 77 = .ok (.iinc 3 1, 3) := by decide +kernel
theorem dX10_fillMasks_80 : decode cX10_fillMasks 80 = .ok (.goto (-33), 3) := by decide +kernel
theorem dX10_fillMasks_83 : decode cX10_fillMasks 83 = .ok (.iinc 2 1, 3) := by decide +kernel
theorem dX10_fillMasks_86 : decode cX10_fillMasks 86 = .ok (.goto (-46), 3) := by decide +kernel
theorem dX10_fillMasks_89 : decode cX10_fillMasks 89 = .ok (.return_, 1) := by decide +kernel
abbrev YX10_fillMasks : li_Y := (yX10_fillMasks, cX10_fillMasks, 4, none)
theorem dX10_isTrialLess_0 : decode cX10_isTrialLess 0 = .ok (.iconst 0, 1) := by decide +kernel
theorem dX10_isTrialLess_1 : decode cX10_isTrialLess 1 = .ok (.istore_n 3, 1) := by decide +kernel
theorem dX10_isTrialLess_2 : decode cX10_isTrialLess 2 = .ok (.iload_n 3, 1) := by decide +kernel
theorem dX10_isTrialLess_3 : decode cX10_isTrialLess 3 = .ok (.iload_n 2, 1) := by decide +kernel
theorem dX10_isTrialLess_4 : decode cX10_isTrialLess 4 = .ok (.if_icmp .ge 49, 3) := by decide +kernel
theorem dX10_isTrialLess_7 : decode cX10_isTrialLess 7 = .ok (.aload_n 0, 1) := by decide +kernel
theorem dX10_isTrialLess_8 : decode cX10_isTrialLess 8 = .ok (.getfield 30, 3) := by decide +kernel
theorem dX10_isTrialLess_11 : decode cX10_isTrialLess 11 = .ok (.iload_n 3, 1) := by decide +kernel
theorem dX10_isTrialLess_12 : decode cX10_isTrialLess 12 = .ok (.invokestatic 61, 3) := by decide +kernel
theorem dX10_isTrialLess_15 : decode cX10_isTrialLess 15 = .ok (.aload_n 0, 1) := by decide +kernel
theorem dX10_isTrialLess_16 : decode cX10_isTrialLess 16 = .ok (.getfield 27, 3) := by decide +kernel
theorem dX10_isTrialLess_19 : decode cX10_isTrialLess 19 = .ok (.iload_n 1, 1) := by decide +kernel
theorem dX10_isTrialLess_20 : decode cX10_isTrialLess 20 = .ok (.bipush 15, 2) := by decide +kernel
theorem dX10_isTrialLess_22 : decode cX10_isTrialLess 22 = .ok (.imul, 1) := by decide +kernel
theorem dX10_isTrialLess_23 : decode cX10_isTrialLess 23 = .ok (.iload_n 3, 1) := by decide +kernel
theorem dX10_isTrialLess_24 : decode cX10_isTrialLess 24 = .ok (.iadd, 1) := by decide +kernel
theorem dX10_isTrialLess_25 : decode cX10_isTrialLess 25 = .ok (.invokestatic 61, 3) := by decide +kernel
theorem dX10_isTrialLess_28 : decode cX10_isTrialLess 28 = .ok (.isub, 1) := by decide +kernel
theorem dX10_isTrialLess_29 : decode cX10_isTrialLess 29 = .ok (.istore 4, 2) := by decide +kernel
theorem dX10_isTrialLess_31 : decode cX10_isTrialLess 31 = .ok (.iload 4, 2) := by decide +kernel
theorem dX10_isTrialLess_33 : decode cX10_isTrialLess 33 = .ok (.ifCond .eq 14, 3) := by decide +kernel
theorem dX10_isTrialLess_36 : decode cX10_isTrialLess 36 = .ok (.iload 4, 2) := by decide +kernel
theorem dX10_isTrialLess_38 : decode cX10_isTrialLess 38 = .ok (.ifCond .ge 7, 3) := by decide +kernel
theorem dX10_isTrialLess_41 : decode cX10_isTrialLess 41 = .ok (.iconst 1, 1) := by decide +kernel
theorem dX10_isTrialLess_42 : decode cX10_isTrialLess 42 = .ok (.goto 4, 3) := by decide +kernel
theorem dX10_isTrialLess_45 : decode cX10_isTrialLess 45 = .ok (.iconst 0, 1) := by decide +kernel
theorem dX10_isTrialLess_46 : decode cX10_isTrialLess 46 = .ok (.ireturn, 1) := by decide +kernel
theorem dX10_isTrialLess_47 : decode cX10_isTrialLess 47 = .ok (.iinc 3 1, 3) := by decide +kernel
theorem dX10_isTrialLess_50 : decode cX10_isTrialLess 50 = .ok (.goto (-48), 3) := by decide +kernel
theorem dX10_isTrialLess_53 : decode cX10_isTrialLess 53 = .ok (.iconst 0, 1) := by decide +kernel
theorem dX10_isTrialLess_54 : decode cX10_isTrialLess 54 = .ok (.ireturn, 1) := by decide +kernel
abbrev YX10_isTrialLess : li_Y := (yX10_isTrialLess, cX10_isTrialLess, 5, (some .boolean))
theorem dX10_tryFirst_0 : decode cX10_tryFirst 0 = .ok (.iconst 1, 1) := by decide +kernel
theorem dX10_tryFirst_1 : decode cX10_tryFirst 1 = .ok (.aload_n 0, 1) := by decide +kernel
theorem dX10_tryFirst_2 : decode cX10_tryFirst 2 = .ok (.getfield 24, 3) := by decide +kernel
theorem dX10_tryFirst_5 : decode cX10_tryFirst 5 = .ok (.iload_n 2, 1) := by decide +kernel
theorem dX10_tryFirst_6 : decode cX10_tryFirst 6 = .ok (.invokestatic 61, 3) := by decide +kernel
theorem dX10_tryFirst_9 : decode cX10_tryFirst 9 = .ok (.iadd, 1) := by decide +kernel
theorem dX10_tryFirst_10 : decode cX10_tryFirst 10 = .ok (.istore_n 3, 1) := by decide +kernel
theorem dX10_tryFirst_11 : decode cX10_tryFirst 11 = .ok (.iload_n 3, 1) := by decide +kernel
theorem dX10_tryFirst_12 : decode cX10_tryFirst 12 = .ok (.aload_n 0, 1) := by decide +kernel
theorem dX10_tryFirst_13 : decode cX10_tryFirst 13 = .ok (.getfield 24, 3) := by decide +kernel
theorem dX10_tryFirst_16 : decode cX10_tryFirst 16 = .ok (.iload_n 1, 1) := by decide +kernel
theorem dX10_tryFirst_17 : decode cX10_tryFirst 17 = .ok (.invokestatic 61, 3) := by decide +kernel
theorem dX10_tryFirst_20 : decode cX10_tryFirst 20 = .ok (.if_icmp .le 4, 3) := by decide +kernel
theorem dX10_tryFirst_23 : decode cX10_tryFirst 23 = .ok (.return_, 1) := by decide +kernel
theorem dX10_tryFirst_24 : decode cX10_tryFirst 24 = .ok (.aload_n 0, 1) := by decide +kernel
theorem dX10_tryFirst_25 : decode cX10_tryFirst 25 = .ok (.getfield 30, 3) := by decide +kernel
theorem dX10_tryFirst_28 : decode cX10_tryFirst 28 = .ok (.iconst 0, 1) := by decide +kernel
theorem dX10_tryFirst_29 : decode cX10_tryFirst 29 = .ok (.aload_n 0, 1) := by decide +kernel
theorem dX10_tryFirst_30 : decode cX10_tryFirst 30 = .ok (.iload_n 1, 1) := by decide +kernel
theorem dX10_tryFirst_31 : decode cX10_tryFirst 31 = .ok (.iload_n 2, 1) := by decide +kernel
theorem dX10_tryFirst_32 : decode cX10_tryFirst 32 = .ok (.invokevirtual 68, 3) := by decide +kernel
theorem dX10_tryFirst_35 : decode cX10_tryFirst 35 = .ok (.invokestatic 79, 3) := by decide +kernel
theorem dX10_tryFirst_38 : decode cX10_tryFirst 38 = .ok (.invokestatic 43, 3) := by decide +kernel
theorem dX10_tryFirst_41 : decode cX10_tryFirst 41 = .ok (.iconst 1, 1) := by decide +kernel
theorem dX10_tryFirst_42 : decode cX10_tryFirst 42 = .ok (.istore 4, 2) := by decide +kernel
theorem dX10_tryFirst_44 : decode cX10_tryFirst 44 = .ok (.iload 4, 2) := by decide +kernel
theorem dX10_tryFirst_46 : decode cX10_tryFirst 46 = .ok (.iload_n 3, 1) := by decide +kernel
theorem dX10_tryFirst_47 : decode cX10_tryFirst 47 = .ok (.if_icmp .ge 34, 3) := by decide +kernel
theorem dX10_tryFirst_50 : decode cX10_tryFirst 50 = .ok (.aload_n 0, 1) := by decide +kernel
theorem dX10_tryFirst_51 : decode cX10_tryFirst 51 = .ok (.getfield 30, 3) := by decide +kernel
theorem dX10_tryFirst_54 : decode cX10_tryFirst 54 = .ok (.iload 4, 2) := by decide +kernel
theorem dX10_tryFirst_56 : decode cX10_tryFirst 56 = .ok (.aload_n 0, 1) := by decide +kernel
theorem dX10_tryFirst_57 : decode cX10_tryFirst 57 = .ok (.getfield 27, 3) := by decide +kernel
theorem dX10_tryFirst_60 : decode cX10_tryFirst 60 = .ok (.iload_n 2, 1) := by decide +kernel
theorem dX10_tryFirst_61 : decode cX10_tryFirst 61 = .ok (.bipush 15, 2) := by decide +kernel
theorem dX10_tryFirst_63 : decode cX10_tryFirst 63 = .ok (.imul, 1) := by decide +kernel
theorem dX10_tryFirst_64 : decode cX10_tryFirst 64 = .ok (.iload 4, 2) := by decide +kernel
theorem dX10_tryFirst_66 : decode cX10_tryFirst 66 = .ok (.iadd, 1) := by decide +kernel
theorem dX10_tryFirst_67 : decode cX10_tryFirst 67 = .ok (.iconst 1, 1) := by decide +kernel
theorem dX10_tryFirst_68 : decode cX10_tryFirst 68 = .ok (.isub, 1) := by decide +kernel
theorem dX10_tryFirst_69 : decode cX10_tryFirst 69 = .ok (.invokestatic 61, 3) := by decide +kernel
theorem dX10_tryFirst_72 : decode cX10_tryFirst 72 = .ok (.invokestatic 43, 3) := by decide +kernel
theorem dX10_tryFirst_75 : decode cX10_tryFirst 75 = .ok (.iinc 4 1, 3) := by decide +kernel
theorem dX10_tryFirst_78 : decode cX10_tryFirst 78 = .ok (.goto (-34), 3) := by decide +kernel
theorem dX10_tryFirst_81 : decode cX10_tryFirst 81 = .ok (.iload_n 3, 1) := by decide +kernel
theorem dX10_tryFirst_82 : decode cX10_tryFirst 82 = .ok (.aload_n 0, 1) := by decide +kernel
theorem dX10_tryFirst_83 : decode cX10_tryFirst 83 = .ok (.getfield 24, 3) := by decide +kernel
theorem dX10_tryFirst_86 : decode cX10_tryFirst 86 = .ok (.iload_n 1, 1) := by decide +kernel
theorem dX10_tryFirst_87 : decode cX10_tryFirst 87 = .ok (.invokestatic 61, 3) := by decide +kernel
theorem dX10_tryFirst_90 : decode cX10_tryFirst 90 = .ok (.if_icmp .lt 12, 3) := by decide +kernel
theorem dX10_tryFirst_93 : decode cX10_tryFirst 93 = .ok (.aload_n 0, 1) := by decide +kernel
theorem dX10_tryFirst_94 : decode cX10_tryFirst 94 = .ok (.iload_n 1, 1) := by decide +kernel
theorem dX10_tryFirst_95 : decode cX10_tryFirst 95 = .ok (.iload_n 3, 1) := by decide +kernel
theorem dX10_tryFirst_96 : decode cX10_tryFirst 96 = .ok (.invokevirtual 85, 3) := by decide +kernel
theorem dX10_tryFirst_99 : decode cX10_tryFirst 99 = .ok (.ifCond .eq 50, 3) := by decide +kernel
theorem dX10_tryFirst_102 : decode cX10_tryFirst 102 = .ok (.iconst 0, 1) := by decide +kernel
theorem dX10_tryFirst_103 : decode cX10_tryFirst 103 = .ok (.istore 4, 2) := by decide +kernel
theorem dX10_tryFirst_105 : decode cX10_tryFirst 105 = .ok (.iload 4, 2) := by decide +kernel
theorem dX10_tryFirst_107 : decode cX10_tryFirst 107 = .ok (.iload_n 3, 1) := by decide +kernel
theorem dX10_tryFirst_108 : decode cX10_tryFirst 108 = .ok (.if_icmp .ge 32, 3) := by decide +kernel
theorem dX10_tryFirst_111 : decode cX10_tryFirst 111 = .ok (.aload_n 0, 1) := by decide +kernel
theorem dX10_tryFirst_112 : decode cX10_tryFirst 112 = .ok (.getfield 27, 3) := by decide +kernel
theorem dX10_tryFirst_115 : decode cX10_tryFirst 115 = .ok (.iload_n 1, 1) := by decide +kernel
theorem dX10_tryFirst_116 : decode cX10_tryFirst 116 = .ok (.bipush 15, 2) := by decide +kernel
theorem dX10_tryFirst_118 : decode cX10_tryFirst 118 = .ok (.imul, 1) := by decide +kernel
theorem dX10_tryFirst_119 : decode cX10_tryFirst 119 = .ok (.iload 4, 2) := by decide +kernel
theorem dX10_tryFirst_121 : decode cX10_tryFirst 121 = .ok (.iadd, 1) := by decide +kernel
theorem dX10_tryFirst_122 : decode cX10_tryFirst 122 = .ok (.aload_n 0, 1) := by decide +kernel
theorem dX10_tryFirst_123 : decode cX10_tryFirst 123 = .ok (.getfield 30, 3) := by decide +kernel
theorem dX10_tryFirst_126 : decode cX10_tryFirst 126 = .ok (.iload 4, 2) := by decide +kernel
theorem dX10_tryFirst_128 : decode cX10_tryFirst 128 = .ok (.invokestatic 61, 3) := by decide +kernel
theorem dX10_tryFirst_131 : decode cX10_tryFirst 131 = .ok (.invokestatic 43, 3) := by decide +kernel
theorem dX10_tryFirst_134 : decode cX10_tryFirst 134 = .ok (.iinc 4 1, 3) := by decide +kernel
theorem dX10_tryFirst_137 : decode cX10_tryFirst 137 = .ok (.goto (-32), 3) := by decide +kernel
theorem dX10_tryFirst_140 : decode cX10_tryFirst 140 = .ok (.aload_n 0, 1) := by decide +kernel
theorem dX10_tryFirst_141 : decode cX10_tryFirst 141 = .ok (.getfield 24, 3) := by decide +kernel
theorem dX10_tryFirst_144 : decode cX10_tryFirst 144 = .ok (.iload_n 1, 1) := by decide +kernel
theorem dX10_tryFirst_145 : decode cX10_tryFirst 145 = .ok (.iload_n 3, 1) := by decide +kernel
theorem dX10_tryFirst_146 : decode cX10_tryFirst 146 = .ok (.invokestatic 43, 3) := by decide +kernel
theorem dX10_tryFirst_149 : decode cX10_tryFirst 149 = .ok (.return_, 1) := by decide +kernel
abbrev YX10_tryFirst : li_Y := (yX10_tryFirst, cX10_tryFirst, 5, none)
theorem dX10_shorten_0 : decode cX10_shorten 0 = .ok (.aload_n 0, 1) := by decide +kernel
theorem dX10_shorten_1 : decode cX10_shorten 1 = .ok (.getfield 24, 3) := by decide +kernel
theorem dX10_shorten_4 : decode cX10_shorten 4 = .ok (.iload_n 1, 1) := by decide +kernel
theorem dX10_shorten_5 : decode cX10_shorten 5 = .ok (.iconst 0, 1) := by decide +kernel
theorem dX10_shorten_6 : decode cX10_shorten 6 = .ok (.invokestatic 43, 3) := by decide +kernel
theorem dX10_shorten_9 : decode cX10_shorten 9 = .ok (.iload_n 1, 1) := by decide +kernel
theorem dX10_shorten_10 : decode cX10_shorten 10 = .ok (.iconst 1, 1) := by decide +kernel
theorem dX10_shorten_11 : decode cX10_shorten 11 = .ok (.isub, 1) := by decide +kernel
theorem dX10_shorten_12 : decode cX10_shorten 12 = .ok (.istore_n 2, 1) := by decide +kernel
theorem dX10_shorten_13 : decode cX10_shorten 13 = .ok (.iload_n 2, 1) := by decide +kernel
theorem dX10_shorten_14 : decode cX10_shorten 14 = .ok (.ifCond .lt 49, 3) := by decide +kernel
theorem dX10_shorten_17 : decode cX10_shorten 17 = .ok (.aload_n 0, 1) := by decide +kernel
theorem dX10_shorten_18 : decode cX10_shorten 18 = .ok (.getfield 24, 3) := by decide +kernel
theorem dX10_shorten_21 : decode cX10_shorten 21 = .ok (.iload_n 2, 1) := by decide +kernel
theorem dX10_shorten_22 : decode cX10_shorten 22 = .ok (.bipush 15, 2) := by decide +kernel
theorem dX10_shorten_24 : decode cX10_shorten 24 = .ok (.invokestatic 43, 3) := by decide +kernel
theorem dX10_shorten_27 : decode cX10_shorten 27 = .ok (.iload_n 2, 1) := by decide +kernel
theorem dX10_shorten_28 : decode cX10_shorten 28 = .ok (.iconst 1, 1) := by decide +kernel
theorem dX10_shorten_29 : decode cX10_shorten 29 = .ok (.iadd, 1) := by decide +kernel
theorem dX10_shorten_30 : decode cX10_shorten 30 = .ok (.istore_n 3, 1) := by decide +kernel
theorem dX10_shorten_31 : decode cX10_shorten 31 = .ok (.iload_n 3, 1) := by decide +kernel
theorem dX10_shorten_32 : decode cX10_shorten 32 = .ok (.iload_n 1, 1) := by decide +kernel
theorem dX10_shorten_33 : decode cX10_shorten 33 = .ok (.if_icmp .gt 24, 3) := by decide +kernel
theorem dX10_shorten_36 : decode cX10_shorten 36 = .ok (.aload_n 0, 1) := by decide +kernel
theorem dX10_shorten_37 : decode cX10_shorten 37 = .ok (.iload_n 2, 1) := by decide +kernel
theorem dX10_shorten_38 : decode cX10_shorten 38 = .ok (.iload_n 3, 1) := by decide +kernel
theorem dX10_shorten_39 : decode cX10_shorten 39 = .ok (.invokevirtual 68, 3) := by decide +kernel
theorem dX10_shorten_42 : decode cX10_shorten 42 = .ok (.ifCond .eq 9, 3) := by decide +kernel
theorem dX10_shorten_45 : decode cX10_shorten 45 = .ok (.aload_n 0, 1) := by decide +kernel
theorem dX10_shorten_46 : decode cX10_shorten 46 = .ok (.iload_n 2, 1) := by decide +kernel
theorem dX10_shorten_47 : decode cX10_shorten 47 = .ok (.iload_n 3, 1) := by decide +kernel
theorem dX10_shorten_48 : decode cX10_shorten 48 = .ok (.invokevirtual 75, 3) := by decide +kernel
theorem dX10_shorten_51 : decode cX10_shorten 51 = .ok (.iinc 3 1, 3) := by decide +kernel
theorem dX10_shorten_54 : decode cX10_shorten 54 = .ok (.goto (-23), 3) := by decide +kernel
theorem dX10_shorten_57 : decode cX10_shorten 57 = .ok (.iinc 2 (-1), 3) := by decide +kernel
theorem dX10_shorten_60 : decode cX10_shorten 60 = .ok (.goto (-47), 3) := by decide +kernel
theorem dX10_shorten_63 : decode cX10_shorten 63 = .ok (.aload_n 0, 1) := by decide +kernel
theorem dX10_shorten_64 : decode cX10_shorten 64 = .ok (.getfield 24, 3) := by decide +kernel
theorem dX10_shorten_67 : decode cX10_shorten 67 = .ok (.iconst 0, 1) := by decide +kernel
theorem dX10_shorten_68 : decode cX10_shorten 68 = .ok (.invokestatic 61, 3) := by decide +kernel
theorem dX10_shorten_71 : decode cX10_shorten 71 = .ok (.ireturn, 1) := by decide +kernel
abbrev YX10_shorten : li_Y := (yX10_shorten, cX10_shorten, 4, (some .int))
set_option maxRecDepth 100000 in
set_option maxHeartbeats 4000000 in
theorem k_X10_readLine {l : Launch} {Z : li_Z} (d : Nat) (hd : 3 ≤ d) (p1 : Int32) (M0 : li_M) : li_Met l Z YX10_readLine d [.ref (Z.2.2 163), .ref (Z.2.2 1), .int p1] M0 (li_SZ (fun i => i = 1 ∨ i = 165) M0) := by
  refine li_enter (by decide +kernel) (Nat.le_of_ble_eq_true rfl) ?_
  show li_T l Z YX10_readLine d 0 [(0, .ref (Z.2.2 163)), (1, .ref (Z.2.2 1)), (2, .int p1)] [] M0 _
  have hf : li_fr (fun i => i = 1 ∨ i = 165) M0 M0 := li_fr_refl
  refine li_aload_n 1 dX10_readLine_0 rfl ?_
  refine li_bipush 97 dX10_readLine_1 (by decide) ?_
  refine li_bipush 7 dX10_readLine_3 (by decide) ?_
  refine li_callV (n := 2) (As := [.int 97, .int 7]) dX10_readLine_5 (k_X7_takeOneOf (d - 1) (by omega) 97 7 M0) (by omega) (Nat.le_of_ble_eq_true rfl) w_658 w_659 w_660 w_102 w_661 (by decide +kernel) rfl (by decide) sh_1 rfl rfl (Nat.le_of_ble_eq_true rfl) (fun r M2 h3 => ?_)
  obtain ⟨⟨x1, rfl⟩, h3⟩ := h3
  have hf := li_fr_trans hf h3 (fun i (h : i = 1) => (show i = 1 ∨ i = 165 by omega))
  refine li_istore_n [(3, .int x1), (0, .ref (Z.2.2 163)), (1, .ref (Z.2.2 1)), (2, .int p1)] dX10_readLine_8 (by decide) rfl ?_
  refine li_iload_n 0 dX10_readLine_9 rfl ?_
  refine li_if_ge 15 dX10_readLine_10 (by decide) (fun c4 => ?_) (fun c4 => ?_)
  · refine li_aload_n 2 dX10_readLine_15 rfl ?_
    refine li_bipush 97 dX10_readLine_16 (by decide) ?_
    refine li_bipush 7 dX10_readLine_18 (by decide) ?_
    refine li_callV (n := 2) (As := [.int 97, .int 7]) dX10_readLine_20 (k_X7_takeOneOf (d - 1) (by omega) 97 7 M2) (by omega) (Nat.le_of_ble_eq_true rfl) w_658 w_659 w_660 w_102 w_661 (by decide +kernel) rfl (by decide) sh_1 rfl rfl (Nat.le_of_ble_eq_true rfl) (fun r M6 h7 => ?_)
    obtain ⟨⟨x5, rfl⟩, h7⟩ := h7
    have hf := li_fr_trans hf h7 (fun i (h : i = 1) => (show i = 1 ∨ i = 165 by omega))
    refine li_istore [(4, .int x5), (3, .int x1), (0, .ref (Z.2.2 163)), (1, .ref (Z.2.2 1)), (2, .int p1)] dX10_readLine_23 (by decide) rfl ?_
    refine li_iload 0 dX10_readLine_25 rfl ?_
    refine li_if_lt 39 dX10_readLine_27 (by decide) (fun c8 => ?_) (fun c8 => ?_)
    · refine li_iconst 0 dX10_readLine_39 (by decide) ?_
      exact li_iret dX10_readLine_40 rfl (li_nz (Or.inl rfl)) ⟨⟨_, rfl, Or.inl rfl⟩, hf⟩
    · refine li_aload_n 3 dX10_readLine_30 rfl ?_
      refine li_bipush 62 dX10_readLine_31 (by decide) ?_
      refine li_callV (n := 1) (As := [.int 62]) dX10_readLine_33 (k_X7_skip (d - 1) (by omega) 62 M6) (by omega) (Nat.le_of_ble_eq_true rfl) w_720 w_565 w_566 w_102 w_567 (by decide +kernel) rfl (by decide) sh_1 rfl rfl (Nat.le_of_ble_eq_true rfl) (fun r M10 h11 => ?_)
      obtain ⟨⟨x9, rfl, bx9⟩, h11⟩ := h11
      have hf := li_fr_trans hf h11 (fun i (h : i = 1) => (show i = 1 ∨ i = 165 by omega))
      refine li_if_ne 41 dX10_readLine_36 (by decide) (fun c12 => ?_) (fun c12 => ?_)
      · refine li_aload_n 3 dX10_readLine_41 rfl ?_
        refine li_bipush 97 dX10_readLine_42 (by decide) ?_
        refine li_bipush 7 dX10_readLine_44 (by decide) ?_
        refine li_callV (n := 2) (As := [.int 97, .int 7]) dX10_readLine_46 (k_X7_takeOneOf (d - 1) (by omega) 97 7 M10) (by omega) (Nat.le_of_ble_eq_true rfl) w_658 w_659 w_660 w_102 w_661 (by decide +kernel) rfl (by decide) sh_1 rfl rfl (Nat.le_of_ble_eq_true rfl) (fun r M14 h15 => ?_)
        obtain ⟨⟨x13, rfl⟩, h15⟩ := h15
        have hf := li_fr_trans hf h15 (fun i (h : i = 1) => (show i = 1 ∨ i = 165 by omega))
        refine li_istore [(5, .int x13), (4, .int x5), (3, .int x1), (0, .ref (Z.2.2 163)), (1, .ref (Z.2.2 1)), (2, .int p1)] dX10_readLine_49 (by decide) rfl ?_
        refine li_aload_n 3 dX10_readLine_51 rfl ?_
        refine li_getr (k := 1) (N := 8) (T := TX10) (C0 := RX10) dX10_readLine_52 (by decide) sh_163 rfl rfl (by decide) (by decide) li_in10 w_336 ?_
        refine li_iload_n 5 dX10_readLine_55 rfl ?_
        refine li_iconst 3 dX10_readLine_56 (by decide) ?_
        refine li_imul dX10_readLine_57 ?_
        refine li_top (fun x16 ex16 => ?_)
        refine li_iload_n 2 dX10_readLine_58 rfl ?_
        refine li_callN (n := 3) (As := [.ref (Z.2.2 165), .int x16, .int x1]) dX10_readLine_59 (k_X11_put (d - 1) (by omega) (by decide) sh_165 (by decide) x16 x1 M14) (by omega) (Nat.le_of_ble_eq_true rfl) nw_11 w_522 w_101 w_523 (by decide +kernel) rfl rfl (Nat.le_of_ble_eq_true rfl) (fun r M18 h19 => ?_)
        obtain ⟨rfl, h19⟩ := h19
        have hf := li_fr_trans hf h19 (fun i (h : i = 165) => (show i = 1 ∨ i = 165 by omega))
        refine li_aload_n 3 dX10_readLine_62 rfl ?_
        refine li_getr (k := 1) (N := 8) (T := TX10) (C0 := RX10) dX10_readLine_63 (by decide) sh_163 rfl rfl (by decide) (by decide) li_in10 w_336 ?_
        refine li_iload_n 5 dX10_readLine_66 rfl ?_
        refine li_iconst 3 dX10_readLine_67 (by decide) ?_
        refine li_imul dX10_readLine_68 ?_
        refine li_top (fun x20 ex20 => ?_)
        refine li_iconst 1 dX10_readLine_69 (by decide) ?_
        refine li_iadd dX10_readLine_70 ?_
        refine li_top (fun x21 ex21 => ?_)
        refine li_iload 1 dX10_readLine_71 rfl ?_
        refine li_callN (n := 3) (As := [.ref (Z.2.2 165), .int x21, .int x5]) dX10_readLine_73 (k_X11_put (d - 1) (by omega) (by decide) sh_165 (by decide) x21 x5 M18) (by omega) (Nat.le_of_ble_eq_true rfl) nw_11 w_522 w_101 w_523 (by decide +kernel) rfl rfl (Nat.le_of_ble_eq_true rfl) (fun r M23 h24 => ?_)
        obtain ⟨rfl, h24⟩ := h24
        have hf := li_fr_trans hf h24 (fun i (h : i = 165) => (show i = 1 ∨ i = 165 by omega))
        refine li_aload_n 3 dX10_readLine_76 rfl ?_
        refine li_getr (k := 1) (N := 8) (T := TX10) (C0 := RX10) dX10_readLine_77 (by decide) sh_163 rfl rfl (by decide) (by decide) li_in10 w_336 ?_
        refine li_iload_n 5 dX10_readLine_80 rfl ?_
        refine li_iconst 3 dX10_readLine_81 (by decide) ?_
        refine li_imul dX10_readLine_82 ?_
        refine li_top (fun x25 ex25 => ?_)
        refine li_iconst 2 dX10_readLine_83 (by decide) ?_
        refine li_iadd dX10_readLine_84 ?_
        refine li_top (fun x26 ex26 => ?_)
        refine li_iload 0 dX10_readLine_85 rfl ?_
        refine li_callN (n := 3) (As := [.ref (Z.2.2 165), .int x26, .int x13]) dX10_readLine_87 (k_X11_put (d - 1) (by omega) (by decide) sh_165 (by decide) x26 x13 M23) (by omega) (Nat.le_of_ble_eq_true rfl) nw_11 w_522 w_101 w_523 (by decide +kernel) rfl rfl (Nat.le_of_ble_eq_true rfl) (fun r M28 h29 => ?_)
        obtain ⟨rfl, h29⟩ := h29
        have hf := li_fr_trans hf h29 (fun i (h : i = 165) => (show i = 1 ∨ i = 165 by omega))
        refine li_iload 0 dX10_readLine_90 rfl ?_
        refine li_if_lt 99 dX10_readLine_92 (by decide) (fun c30 => ?_) (fun c30 => ?_)
        · refine li_iconst 0 dX10_readLine_99 (by decide) ?_
          exact li_iret dX10_readLine_100 rfl (li_nz (Or.inl rfl)) ⟨⟨_, rfl, Or.inl rfl⟩, hf⟩
        · refine li_iconst 1 dX10_readLine_95 (by decide) ?_
          refine li_goto 100 dX10_readLine_96 (by decide) ?_
          exact li_iret dX10_readLine_100 rfl (li_nz (Or.inr rfl)) ⟨⟨_, rfl, Or.inr rfl⟩, hf⟩
      · refine li_iconst 0 dX10_readLine_39 (by decide) ?_
        exact li_iret dX10_readLine_40 rfl (li_nz (Or.inl rfl)) ⟨⟨_, rfl, Or.inl rfl⟩, hf⟩
  · refine li_iconst 0 dX10_readLine_13 (by decide) ?_
    exact li_iret dX10_readLine_14 rfl (li_nz (Or.inl rfl)) ⟨⟨_, rfl, Or.inl rfl⟩, hf⟩
set_option maxRecDepth 100000 in
set_option maxHeartbeats 4000000 in
theorem k_X10_adopt {l : Launch} {Z : li_Z} (d : Nat) (hd : 1 ≤ d) (p1 : Int32) (M0 : li_M) : li_Met l Z YX10_adopt d [.ref (Z.2.2 163), .int p1] M0 (li_SV (fun i => i = 163 ∨ i = 164) M0) := by
  refine li_enter (by decide +kernel) (Nat.le_of_ble_eq_true rfl) ?_
  show li_T l Z YX10_adopt d 0 [(0, .ref (Z.2.2 163)), (1, .int p1)] [] M0 _
  have hf : li_fr (fun i => i = 163 ∨ i = 164) M0 M0 := li_fr_refl
  refine li_aload_n 0 dX10_adopt_0 rfl ?_
  refine li_getr (k := 1) (N := 8) (T := TX10) (C0 := RX10) dX10_adopt_1 (by decide) sh_163 rfl rfl (by decide) (by decide) li_in10 w_336 ?_
  refine li_iconst 0 dX10_adopt_4 (by decide) ?_
  refine li_aload_n 0 dX10_adopt_5 rfl ?_
  refine li_getr (k := 0) (N := 8) (T := TX10) (C0 := RX10) dX10_adopt_6 (by decide) sh_163 rfl rfl (by decide) (by decide) li_in10 w_335 ?_
  refine li_iconst 0 dX10_adopt_9 (by decide) ?_
  refine li_bipush 30 dX10_adopt_10 (by decide) ?_
  refine li_copyI dX10_adopt_12 (by omega) w_1120 w_753 w_752 w_118 (by decide) sh_165 (by decide) sh_164 (by decide) (by decide) (by decide) (Nat.le_of_ble_eq_true rfl) ?_
  refine li_nm (fun M1 eM1 => ?_)
  have hf := li_fr_uc hf (show 164 = 163 ∨ 164 = 164 by omega) eM1
  refine li_aload_n 0 dX10_adopt_15 rfl ?_
  refine li_iload_n 1 dX10_adopt_16 rfl ?_
  refine li_puti (k := 7) (N := 8) (T := TX10) (C0 := RX10) dX10_adopt_17 (by decide) sh_163 rfl rfl (by decide) li_in10 tyX10_ok nmX10 rfl rfl rfl rfl w_343 ?_
  refine li_nm (fun M2 eM2 => ?_)
  have hf := li_fr_ui hf (show 163 = 163 ∨ 163 = 164 by omega) eM2
  exact li_vret dX10_adopt_20 rfl ⟨rfl, hf⟩
set_option maxRecDepth 100000 in
set_option maxHeartbeats 4000000 in
theorem k_X10_readWording {l : Launch} {Z : li_Z} (d : Nat) (hd : 3 ≤ d) (M0 : li_M) : li_Met l Z YX10_readWording d [.ref (Z.2.2 163), .ref (Z.2.2 1)] M0 (li_SI (fun i => i = 1 ∨ i = 166) M0) := by
  refine li_enter (by decide +kernel) (Nat.le_of_ble_eq_true rfl) ?_
  show li_T l Z YX10_readWording d 0 [(0, .ref (Z.2.2 163)), (1, .ref (Z.2.2 1))] [] M0 _
  have hf : li_fr (fun i => i = 1 ∨ i = 166) M0 M0 := li_fr_refl
  refine li_iconst 0 dX10_readWording_0 (by decide) ?_
  refine li_istore_n [(2, .int 0), (0, .ref (Z.2.2 163)), (1, .ref (Z.2.2 1))] dX10_readWording_1 (by decide) rfl ?_
  refine li_iconst 0 dX10_readWording_2 (by decide) ?_
  refine li_istore_n [(3, .int 0), (2, .int 0), (0, .ref (Z.2.2 163)), (1, .ref (Z.2.2 1))] dX10_readWording_3 (by decide) rfl ?_
  have L4 : ∀ (n : Nat) (x1 : Int32) (x2 : Int32) (M3 : li_M), (2147483647 - (x1 : Int32).toInt).toNat < n → li_fr (fun i => i = 1 ∨ i = 166) M0 M3 → li_T l Z YX10_readWording d 4 [(3, .int x1), (2, .int x2), (0, .ref (Z.2.2 163)), (1, .ref (Z.2.2 1))] [] M3 (li_SI (fun i => i = 1 ∨ i = 166) M0) := by
    intro n
    induction n with
    | zero => intro x1 x2 M3 hn; exact absurd hn (Nat.not_lt_zero _)
    | succ n ih4 =>
      intro x1 x2 M3 hn hf
      refine li_iload_n 0 dX10_readWording_4 rfl ?_
      refine li_bipush 80 dX10_readWording_5 (by decide) ?_
      refine li_icmp_ge 53 dX10_readWording_7 (by decide) (fun c4 => ?_) (fun c4 => ?_)
      · refine li_iload_n 1 dX10_readWording_53 rfl ?_
        refine li_if_le 61 dX10_readWording_54 (by decide) (fun c5 => ?_) (fun c5 => ?_)
        · refine li_iconst (-1) dX10_readWording_61 (by decide) ?_
          exact li_iret dX10_readWording_62 rfl rfl ⟨⟨_, rfl⟩, hf⟩
        · refine li_iload_n 1 dX10_readWording_57 rfl ?_
          refine li_goto 62 dX10_readWording_58 (by decide) ?_
          exact li_iret dX10_readWording_62 rfl rfl ⟨⟨_, rfl⟩, hf⟩
      · refine li_aload_n 3 dX10_readWording_10 rfl ?_
        refine li_callV (n := 0) (As := []) dX10_readWording_11 (k_X7_atEnd (d - 1) (by omega)  M3) (by omega) (Nat.le_of_ble_eq_true rfl) w_657 w_545 w_546 w_102 w_547 (by decide +kernel) rfl (by decide) sh_1 rfl rfl (Nat.le_of_ble_eq_true rfl) (fun r M7 h8 => ?_)
        obtain ⟨⟨x6, rfl, bx6⟩, h8⟩ := h8
        have hf := li_fr_trans hf h8 (fun i h => False.elim h)
        refine li_if_ne 53 dX10_readWording_14 (by decide) (fun c9 => ?_) (fun c9 => ?_)
        · refine li_iload_n 1 dX10_readWording_53 rfl ?_
          refine li_if_le 61 dX10_readWording_54 (by decide) (fun c10 => ?_) (fun c10 => ?_)
          · refine li_iconst (-1) dX10_readWording_61 (by decide) ?_
            exact li_iret dX10_readWording_62 rfl rfl ⟨⟨_, rfl⟩, hf⟩
          · refine li_iload_n 1 dX10_readWording_57 rfl ?_
            refine li_goto 62 dX10_readWording_58 (by decide) ?_
            exact li_iret dX10_readWording_62 rfl rfl ⟨⟨_, rfl⟩, hf⟩
        · refine li_aload_n 3 dX10_readWording_17 rfl ?_
          refine li_bipush 97 dX10_readWording_18 (by decide) ?_
          refine li_bipush 7 dX10_readWording_20 (by decide) ?_
          refine li_callV (n := 2) (As := [.int 97, .int 7]) dX10_readWording_22 (k_X7_takeOneOf (d - 1) (by omega) 97 7 M7) (by omega) (Nat.le_of_ble_eq_true rfl) w_658 w_659 w_660 w_102 w_661 (by decide +kernel) rfl (by decide) sh_1 rfl rfl (Nat.le_of_ble_eq_true rfl) (fun r M12 h13 => ?_)
          obtain ⟨⟨x11, rfl⟩, h13⟩ := h13
          have hf := li_fr_trans hf h13 (fun i (h : i = 1) => (show i = 1 ∨ i = 166 by omega))
          refine li_istore [(4, .int x11), (3, .int x1), (2, .int x2), (0, .ref (Z.2.2 163)), (1, .ref (Z.2.2 1))] dX10_readWording_25 (by decide) rfl ?_
          refine li_iload 0 dX10_readWording_27 rfl ?_
          refine li_if_ge 34 dX10_readWording_29 (by decide) (fun c14 => ?_) (fun c14 => ?_)
          · refine li_aload_n 3 dX10_readWording_34 rfl ?_
            refine li_getr (k := 2) (N := 8) (T := TX10) (C0 := RX10) dX10_readWording_35 (by decide) sh_163 rfl rfl (by decide) (by decide) li_in10 w_337 ?_
            refine li_iload_n 2 dX10_readWording_38 rfl ?_
            refine li_iload 0 dX10_readWording_39 rfl ?_
            refine li_callN (n := 3) (As := [.ref (Z.2.2 166), .int x2, .int x11]) dX10_readWording_41 (k_X11_put (d - 1) (by omega) (by decide) sh_166 (by decide) x2 x11 M12) (by omega) (Nat.le_of_ble_eq_true rfl) nw_11 w_522 w_101 w_523 (by decide +kernel) rfl rfl (Nat.le_of_ble_eq_true rfl) (fun r M16 h17 => ?_)
            obtain ⟨rfl, h17⟩ := h17
            have hf := li_fr_trans hf h17 (fun i (h : i = 166) => (show i = 1 ∨ i = 166 by omega))
            obtain ⟨x18, ex18⟩ : ∃ y : Int32, y = x2 + 1 := ⟨_, rfl⟩
            refine li_iinc 2 [(2, .int x18), (4, .int x11), (3, .int x1), (0, .ref (Z.2.2 163)), (1, .ref (Z.2.2 1))] x18 dX10_readWording_44 rfl (by rw [ex18]; rfl) (by decide) rfl ?_
            obtain ⟨x19, ex19⟩ : ∃ y : Int32, y = x1 + 1 := ⟨_, rfl⟩
            refine li_iinc 2 [(3, .int x19), (2, .int x18), (4, .int x11), (0, .ref (Z.2.2 163)), (1, .ref (Z.2.2 1))] x19 dX10_readWording_47 rfl (by rw [ex19]; rfl) (by decide) rfl ?_
            refine li_goto 4 dX10_readWording_50 (by decide) ?_
            refine li_pick [0, 1, 3, 4] [(3, .int x19), (2, .int x18), (0, .ref (Z.2.2 163)), (1, .ref (Z.2.2 1))] rfl ?_
            exact ih4 x19 x18 M16 (by have h9 := li_up (li_gt c4); rw [← ex19] at h9; omega) hf
          · refine li_iconst (-1) dX10_readWording_32 (by decide) ?_
            exact li_iret dX10_readWording_33 rfl rfl ⟨⟨_, rfl⟩, hf⟩
  exact L4 _ 0 0 M0 (Nat.lt_succ_self _) hf
set_option maxRecDepth 100000 in
set_option maxHeartbeats 4000000 in
theorem k_X10_mask {l : Launch} {Z : li_Z} (d : Nat) (hd : 2 ≤ d) (p1 : Int32) (p2 : Int32) (M0 : li_M) : li_Met l Z YX10_mask d [.ref (Z.2.2 163), .int p1, .int p2] M0 (li_SI (fun i => False) M0) := by
  refine li_enter (by decide +kernel) (Nat.le_of_ble_eq_true rfl) ?_
  show li_T l Z YX10_mask d 0 [(0, .ref (Z.2.2 163)), (1, .int p1), (2, .int p2)] [] M0 _
  have hf : li_fr (fun i => False) M0 M0 := li_fr_refl
  refine li_aload_n 0 dX10_mask_0 rfl ?_
  refine li_getr (k := 3) (N := 8) (T := TX10) (C0 := RX10) dX10_mask_1 (by decide) sh_163 rfl rfl (by decide) (by decide) li_in10 w_338 ?_
  refine li_iload_n 1 dX10_mask_4 rfl ?_
  refine li_bipush 15 dX10_mask_5 (by decide) ?_
  refine li_imul dX10_mask_7 ?_
  refine li_top (fun x1 ex1 => ?_)
  refine li_iload_n 2 dX10_mask_8 rfl ?_
  refine li_iadd dX10_mask_9 ?_
  refine li_top (fun x2 ex2 => ?_)
  refine li_callN (n := 2) (As := [.ref (Z.2.2 167), .int x2]) dX10_mask_10 (k_X11_at (d - 1) (by omega) (by decide) sh_167 (by decide) x2 M0) (by omega) (Nat.le_of_ble_eq_true rfl) nw_30 w_569 w_101 w_570 (by decide +kernel) rfl rfl (Nat.le_of_ble_eq_true rfl) (fun r M4 h5 => ?_)
  obtain ⟨⟨x3, rfl⟩, h5⟩ := h5
  have hf := li_fr_trans hf h5 (fun i h => False.elim h)
  exact li_iret dX10_mask_13 rfl rfl ⟨⟨_, rfl⟩, hf⟩
set_option maxRecDepth 100000 in
set_option maxHeartbeats 4000000 in
theorem k_X10_joined {l : Launch} {Z : li_Z} (d : Nat) (hd : 3 ≤ d) (p1 : Int32) (p2 : Int32) (M0 : li_M) : li_Met l Z YX10_joined d [.ref (Z.2.2 163), .int p1, .int p2] M0 (li_SI (fun i => False) M0) := by
  refine li_enter (by decide +kernel) (Nat.le_of_ble_eq_true rfl) ?_
  show li_T l Z YX10_joined d 0 [(0, .ref (Z.2.2 163)), (1, .int p1), (2, .int p2)] [] M0 _
  have hf : li_fr (fun i => False) M0 M0 := li_fr_refl
  refine li_iconst 0 dX10_joined_0 (by decide) ?_
  refine li_istore_n [(3, .int 0), (0, .ref (Z.2.2 163)), (1, .int p1), (2, .int p2)] dX10_joined_1 (by decide) rfl ?_
  refine li_iload_n 2 dX10_joined_2 rfl ?_
  refine li_iconst 1 dX10_joined_3 (by decide) ?_
  refine li_iadd dX10_joined_4 ?_
  refine li_top (fun x1 ex1 => ?_)
  refine li_istore [(4, .int x1), (3, .int 0), (0, .ref (Z.2.2 163)), (1, .int p1), (2, .int p2)] dX10_joined_5 (by decide) rfl ?_
  have L7 : ∀ (n : Nat) (x2 : Int32) (x3 : Int32) (M4 : li_M), (2147483647 - (x2 : Int32).toInt).toNat < n → li_fr (fun i => False) M0 M4 → li_T l Z YX10_joined d 7 [(4, .int x2), (3, .int x3), (0, .ref (Z.2.2 163)), (1, .int p1), (2, .int p2)] [] M4 (li_SI (fun i => False) M0) := by
    intro n
    induction n with
    | zero => intro x2 x3 M4 hn; exact absurd hn (Nat.not_lt_zero _)
    | succ n ih7 =>
      intro x2 x3 M4 hn hf
      refine li_iload 0 dX10_joined_7 rfl ?_
      refine li_iload_n 4 dX10_joined_9 rfl ?_
      refine li_icmp_ge 113 dX10_joined_10 (by decide) (fun c5 => ?_) (fun c5 => ?_)
      · refine li_iload_n 1 dX10_joined_113 rfl ?_
        exact li_iret dX10_joined_114 rfl rfl ⟨⟨_, rfl⟩, hf⟩
      · refine li_aload_n 2 dX10_joined_13 rfl ?_
        refine li_iload_n 3 dX10_joined_14 rfl ?_
        refine li_iload 0 dX10_joined_15 rfl ?_
        refine li_callV (n := 2) (As := [.int p1, .int x2]) dX10_joined_17 (k_X10_mask (d - 1) (by omega) p1 x2 M4) (by omega) (Nat.le_of_ble_eq_true rfl) w_1134 w_1135 w_1136 w_108 w_1137 (by decide +kernel) rfl (by decide) sh_163 rfl rfl (Nat.le_of_ble_eq_true rfl) (fun r M7 h8 => ?_)
        obtain ⟨⟨x6, rfl⟩, h8⟩ := h8
        have hf := li_fr_trans hf h8 (fun i h => False.elim h)
        refine li_istore [(5, .int x6), (4, .int x2), (3, .int x3), (0, .ref (Z.2.2 163)), (1, .int p1), (2, .int p2)] dX10_joined_20 (by decide) rfl ?_
        refine li_aload_n 3 dX10_joined_22 rfl ?_
        refine li_iload 1 dX10_joined_23 rfl ?_
        refine li_iload_n 5 dX10_joined_25 rfl ?_
        refine li_callV (n := 2) (As := [.int x2, .int p2]) dX10_joined_26 (k_X10_mask (d - 1) (by omega) x2 p2 M7) (by omega) (Nat.le_of_ble_eq_true rfl) w_1134 w_1135 w_1136 w_108 w_1137 (by decide +kernel) rfl (by decide) sh_163 rfl rfl (Nat.le_of_ble_eq_true rfl) (fun r M10 h11 => ?_)
        obtain ⟨⟨x9, rfl⟩, h11⟩ := h11
        have hf := li_fr_trans hf h11 (fun i h => False.elim h)
        refine li_istore [(6, .int x9), (5, .int x6), (4, .int x2), (3, .int x3), (0, .ref (Z.2.2 163)), (1, .int p1), (2, .int p2)] dX10_joined_29 (by decide) rfl ?_
        refine li_iconst 0 dX10_joined_31 (by decide) ?_
        refine li_istore [(7, .int 0), (6, .int x9), (5, .int x6), (4, .int x2), (3, .int x3), (0, .ref (Z.2.2 163)), (1, .int p1), (2, .int p2)] dX10_joined_32 (by decide) rfl ?_
        have L34 : ∀ (n : Nat) (x12 : Int32) (x13 : Int32) (M14 : li_M), (2147483647 - (x12 : Int32).toInt).toNat < n → li_fr (fun i => False) M0 M14 → li_T l Z YX10_joined d 34 [(7, .int x12), (6, .int x9), (5, .int x6), (4, .int x2), (3, .int x13), (0, .ref (Z.2.2 163)), (1, .int p1), (2, .int p2)] [] M14 (li_SI (fun i => False) M0) := by
          intro n
          induction n with
          | zero => intro x12 x13 M14 hn; exact absurd hn (Nat.not_lt_zero _)
          | succ n ih34 =>
            intro x12 x13 M14 hn hf
            refine li_iload 0 dX10_joined_34 rfl ?_
            refine li_aload_n 5 dX10_joined_36 rfl ?_
            refine li_geti (k := 7) (N := 8) (T := TX10) (C0 := RX10) dX10_joined_37 (by decide) sh_163 rfl rfl (by decide) li_in10 w_343 ?_
            refine li_top (fun x15 ex15 => ?_)
            refine li_icmp_ge 107 dX10_joined_40 (by decide) (fun c16 => ?_) (fun c16 => ?_)
            · obtain ⟨x17, ex17⟩ : ∃ y : Int32, y = x2 + 1 := ⟨_, rfl⟩
              refine li_iinc 3 [(4, .int x17), (7, .int x12), (6, .int x9), (5, .int x6), (3, .int x13), (0, .ref (Z.2.2 163)), (1, .int p1), (2, .int p2)] x17 dX10_joined_107 rfl (by rw [ex17]; rfl) (by decide) rfl ?_
              refine li_goto 7 dX10_joined_110 (by decide) ?_
              refine li_pick [0, 4, 5, 6, 7] [(4, .int x17), (3, .int x13), (0, .ref (Z.2.2 163)), (1, .int p1), (2, .int p2)] rfl ?_
              exact ih7 x17 x13 M14 (by have h9 := li_up (li_gt c5); rw [← ex17] at h9; omega) hf
            · refine li_iload 0 dX10_joined_43 rfl ?_
              refine li_iconst 3 dX10_joined_45 (by decide) ?_
              refine li_imul dX10_joined_46 ?_
              refine li_top (fun x18 ex18 => ?_)
              refine li_istore [(8, .int x18), (7, .int x12), (6, .int x9), (5, .int x6), (4, .int x2), (3, .int x13), (0, .ref (Z.2.2 163)), (1, .int p1), (2, .int p2)] dX10_joined_47 (by decide) rfl ?_
              refine li_iload 3 dX10_joined_49 rfl ?_
              refine li_aload_n 6 dX10_joined_51 rfl ?_
              refine li_getr (k := 0) (N := 8) (T := TX10) (C0 := RX10) dX10_joined_52 (by decide) sh_163 rfl rfl (by decide) (by decide) li_in10 w_335 ?_
              refine li_iload 0 dX10_joined_55 rfl ?_
              refine li_callN (n := 2) (As := [.ref (Z.2.2 164), .int x18]) dX10_joined_57 (k_X11_at (d - 1) (by omega) (by decide) sh_164 (by decide) x18 M14) (by omega) (Nat.le_of_ble_eq_true rfl) nw_30 w_569 w_101 w_570 (by decide +kernel) rfl rfl (Nat.le_of_ble_eq_true rfl) (fun r M20 h21 => ?_)
              obtain ⟨⟨x19, rfl⟩, h21⟩ := h21
              have hf := li_fr_trans hf h21 (fun i h => False.elim h)
              refine li_callN (n := 2) (As := [.int x6, .int x19]) dX10_joined_60 (k_X11_holds (d - 1) (by omega) x6 x19 M20) (by omega) (Nat.le_of_ble_eq_true rfl) nw_31 w_857 w_101 w_858 (by decide +kernel) rfl rfl (Nat.le_of_ble_eq_true rfl) (fun r M23 h24 => ?_)
              obtain ⟨⟨x22, rfl, bx22⟩, h24⟩ := h24
              have hf := li_fr_trans hf h24 (fun i h => False.elim h)
              have J101 : ∀ (x26 : Int32) (M27 : li_M), li_fr (fun i => False) M0 M27 → li_T l Z YX10_joined d 101 [(8, .int x18), (7, .int x12), (6, .int x9), (5, .int x6), (4, .int x2), (3, .int x26), (0, .ref (Z.2.2 163)), (1, .int p1), (2, .int p2)] [] M27 (li_SI (fun i => False) M0) := by
                intro x26 M27 hf
                obtain ⟨x28, ex28⟩ : ∃ y : Int32, y = x12 + 1 := ⟨_, rfl⟩
                refine li_iinc 1 [(7, .int x28), (8, .int x18), (6, .int x9), (5, .int x6), (4, .int x2), (3, .int x26), (0, .ref (Z.2.2 163)), (1, .int p1), (2, .int p2)] x28 dX10_joined_101 rfl (by rw [ex28]; rfl) (by decide) rfl ?_
                refine li_goto 34 dX10_joined_104 (by decide) ?_
                refine li_pick [0, 2, 3, 4, 5, 6, 7, 8] [(7, .int x28), (6, .int x9), (5, .int x6), (4, .int x2), (3, .int x26), (0, .ref (Z.2.2 163)), (1, .int p1), (2, .int p2)] rfl ?_
                exact ih34 x28 x26 M27 (by have h9 := li_up (li_gt c16); rw [← ex28] at h9; omega) hf
              refine li_if_eq 101 dX10_joined_63 (by decide) (fun c25 => ?_) (fun c25 => ?_)
              · refine li_pick [0, 1, 2, 3, 4, 5, 6, 7, 8] [(8, .int x18), (7, .int x12), (6, .int x9), (5, .int x6), (4, .int x2), (3, .int x13), (0, .ref (Z.2.2 163)), (1, .int p1), (2, .int p2)] rfl ?_
                exact J101 x13 M23 hf
              · refine li_iload 2 dX10_joined_66 rfl ?_
                refine li_aload_n 6 dX10_joined_68 rfl ?_
                refine li_getr (k := 0) (N := 8) (T := TX10) (C0 := RX10) dX10_joined_69 (by decide) sh_163 rfl rfl (by decide) (by decide) li_in10 w_335 ?_
                refine li_iload 0 dX10_joined_72 rfl ?_
                refine li_iconst 1 dX10_joined_74 (by decide) ?_
                refine li_iadd dX10_joined_75 ?_
                refine li_top (fun x29 ex29 => ?_)
                refine li_callN (n := 2) (As := [.ref (Z.2.2 164), .int x29]) dX10_joined_76 (k_X11_at (d - 1) (by omega) (by decide) sh_164 (by decide) x29 M23) (by omega) (Nat.le_of_ble_eq_true rfl) nw_30 w_569 w_101 w_570 (by decide +kernel) rfl rfl (Nat.le_of_ble_eq_true rfl) (fun r M31 h32 => ?_)
                obtain ⟨⟨x30, rfl⟩, h32⟩ := h32
                have hf := li_fr_trans hf h32 (fun i h => False.elim h)
                refine li_callN (n := 2) (As := [.int x9, .int x30]) dX10_joined_79 (k_X11_holds (d - 1) (by omega) x9 x30 M31) (by omega) (Nat.le_of_ble_eq_true rfl) nw_31 w_857 w_101 w_858 (by decide +kernel) rfl rfl (Nat.le_of_ble_eq_true rfl) (fun r M34 h35 => ?_)
                obtain ⟨⟨x33, rfl, bx33⟩, h35⟩ := h35
                have hf := li_fr_trans hf h35 (fun i h => False.elim h)
                refine li_if_eq 101 dX10_joined_82 (by decide) (fun c36 => ?_) (fun c36 => ?_)
                · refine li_pick [0, 1, 2, 3, 4, 5, 6, 7, 8] [(8, .int x18), (7, .int x12), (6, .int x9), (5, .int x6), (4, .int x2), (3, .int x13), (0, .ref (Z.2.2 163)), (1, .int p1), (2, .int p2)] rfl ?_
                  exact J101 x13 M34 hf
                · refine li_iload_n 5 dX10_joined_85 rfl ?_
                  refine li_iconst 1 dX10_joined_86 (by decide) ?_
                  refine li_aload_n 6 dX10_joined_87 rfl ?_
                  refine li_getr (k := 0) (N := 8) (T := TX10) (C0 := RX10) dX10_joined_88 (by decide) sh_163 rfl rfl (by decide) (by decide) li_in10 w_335 ?_
                  refine li_iload 0 dX10_joined_91 rfl ?_
                  refine li_iconst 2 dX10_joined_93 (by decide) ?_
                  refine li_iadd dX10_joined_94 ?_
                  refine li_top (fun x37 ex37 => ?_)
                  refine li_callN (n := 2) (As := [.ref (Z.2.2 164), .int x37]) dX10_joined_95 (k_X11_at (d - 1) (by omega) (by decide) sh_164 (by decide) x37 M34) (by omega) (Nat.le_of_ble_eq_true rfl) nw_30 w_569 w_101 w_570 (by decide +kernel) rfl rfl (Nat.le_of_ble_eq_true rfl) (fun r M39 h40 => ?_)
                  obtain ⟨⟨x38, rfl⟩, h40⟩ := h40
                  have hf := li_fr_trans hf h40 (fun i h => False.elim h)
                  refine li_ishl dX10_joined_98 ?_
                  refine li_top (fun x41 ex41 => ?_)
                  refine li_ior dX10_joined_99 ?_
                  refine li_top (fun x42 ex42 => ?_)
                  refine li_istore_n [(3, .int x42), (8, .int x18), (7, .int x12), (6, .int x9), (5, .int x6), (4, .int x2), (0, .ref (Z.2.2 163)), (1, .int p1), (2, .int p2)] dX10_joined_100 (by decide) rfl ?_
                  refine li_pick [1, 2, 3, 4, 5, 0, 6, 7, 8] [(8, .int x18), (7, .int x12), (6, .int x9), (5, .int x6), (4, .int x2), (3, .int x42), (0, .ref (Z.2.2 163)), (1, .int p1), (2, .int p2)] rfl ?_
                  exact J101 x42 M39 hf
        exact L34 _ 0 x3 M10 (Nat.lt_succ_self _) hf
  exact L7 _ x1 0 M0 (Nat.lt_succ_self _) hf
set_option maxRecDepth 100000 in
set_option maxHeartbeats 4000000 in
theorem k_X10_fillMasks {l : Launch} {Z : li_Z} (d : Nat) (hd : 4 ≤ d) (p1 : Int32) (h1 : p1.toInt ≤ 80) (M0 : li_M) : li_Met l Z YX10_fillMasks d [.ref (Z.2.2 163), .int p1] M0 (li_SV (fun i => i = 167) M0) := by
  refine li_enter (by decide +kernel) (Nat.le_of_ble_eq_true rfl) ?_
  show li_T l Z YX10_fillMasks d 0 [(0, .ref (Z.2.2 163)), (1, .int p1)] [] M0 _
  have hf : li_fr (fun i => i = 167) M0 M0 := li_fr_refl
  have gp1 := tl_rg p1
  refine li_iconst 0 dX10_fillMasks_0 (by decide) ?_
  refine li_istore_n [(2, .int 0), (0, .ref (Z.2.2 163)), (1, .int p1)] dX10_fillMasks_1 (by decide) rfl ?_
  have L2 : ∀ (n : Nat) (x1 : Int32) (M2 : li_M), (2147483647 - (x1 : Int32).toInt).toNat < n → li_fr (fun i => i = 167) M0 M2 → li_T l Z YX10_fillMasks d 2 [(2, .int x1), (0, .ref (Z.2.2 163)), (1, .int p1)] [] M2 (li_SV (fun i => i = 167) M0) := by
    intro n
    induction n with
    | zero => intro x1 M2 hn; exact absurd hn (Nat.not_lt_zero _)
    | succ n ih2 =>
      intro x1 M2 hn hf
      have gx1 := tl_rg x1
      refine li_iload_n 0 dX10_fillMasks_2 rfl ?_
      refine li_iload_n 2 dX10_fillMasks_3 rfl ?_
      refine li_icmp_ge 38 dX10_fillMasks_4 (by decide) (fun c3 => ?_) (fun c3 => ?_)
      · have tc3 : p1.toInt ≤ x1.toInt := tl_le c3
        refine li_iconst 2 dX10_fillMasks_38 (by decide) ?_
        refine li_istore_n [(2, .int 2), (0, .ref (Z.2.2 163)), (1, .int p1)] dX10_fillMasks_39 (by decide) rfl ?_
        have L40 : ∀ (n : Nat) (x4 : Int32) (M5 : li_M), (82 - (x4 : Int32).toInt).toNat < n → li_fr (fun i => i = 167) M0 M5 → 0 ≤ (x4 : Int32).toInt → li_T l Z YX10_fillMasks d 40 [(2, .int x4), (0, .ref (Z.2.2 163)), (1, .int p1)] [] M5 (li_SV (fun i => i = 167) M0) := by
          intro n
          induction n with
          | zero => intro x4 M5 hn; exact absurd hn (Nat.not_lt_zero _)
          | succ n ih40 =>
            intro x4 M5 hn hf hi
            have gx4 := tl_rg x4
            refine li_iload_n 0 dX10_fillMasks_40 rfl ?_
            refine li_iload_n 2 dX10_fillMasks_41 rfl ?_
            refine li_icmp_gt 89 dX10_fillMasks_42 (by decide) (fun c6 => ?_) (fun c6 => ?_)
            · have tc6 : p1.toInt < x4.toInt := tl_lt c6
              exact li_vret dX10_fillMasks_89 rfl ⟨rfl, hf⟩
            · have tc6 : x4.toInt ≤ p1.toInt := tl_nlt c6
              refine li_iconst 0 dX10_fillMasks_45 (by decide) ?_
              refine li_istore_n [(3, .int 0), (2, .int x4), (0, .ref (Z.2.2 163)), (1, .int p1)] dX10_fillMasks_46 (by decide) rfl ?_
              have L47 : ∀ (n : Nat) (x7 : Int32) (M8 : li_M), (82 - (x7 : Int32).toInt).toNat < n → li_fr (fun i => i = 167) M0 M8 → 0 ≤ (x7 : Int32).toInt ∧ (x7 : Int32).toInt ≤ 81 → li_T l Z YX10_fillMasks d 47 [(3, .int x7), (2, .int x4), (0, .ref (Z.2.2 163)), (1, .int p1)] [] M8 (li_SV (fun i => i = 167) M0) := by
                intro n
                induction n with
                | zero => intro x7 M8 hn; exact absurd hn (Nat.not_lt_zero _)
                | succ n ih47 =>
                  intro x7 M8 hn hf hi
                  have gx7 := tl_rg x7
                  refine li_iload_n 0 dX10_fillMasks_47 rfl ?_
                  refine li_iload_n 1 dX10_fillMasks_48 rfl ?_
                  refine li_iadd dX10_fillMasks_49 ?_
                  refine li_top (fun x9 ex9 => ?_)
                  have tx9 : (-2147483648 ≤ x7.toInt + x4.toInt ∧ x7.toInt + x4.toInt ≤ 2147483647) → x9.toInt = x7.toInt + x4.toInt := tl_add ex9
                  refine li_iload_n 3 dX10_fillMasks_50 rfl ?_
                  refine li_icmp_gt 83 dX10_fillMasks_51 (by decide) (fun c10 => ?_) (fun c10 => ?_)
                  · have tc10 : p1.toInt < x9.toInt := tl_lt c10
                    obtain ⟨x11, ex11⟩ : ∃ y : Int32, y = x4 + 1 := ⟨_, rfl⟩
                    have tx11 : (-2147483648 ≤ x4.toInt + 1 ∧ x4.toInt + 1 ≤ 2147483647) → x11.toInt = x4.toInt + 1 := tl_add ex11
                    refine li_iinc 1 [(2, .int x11), (3, .int x7), (0, .ref (Z.2.2 163)), (1, .int p1)] x11 dX10_fillMasks_83 rfl (by rw [ex11]; rfl) (by decide) rfl ?_
                    refine li_goto 40 dX10_fillMasks_86 (by decide) ?_
                    refine li_pick [0, 2, 3] [(2, .int x11), (0, .ref (Z.2.2 163)), (1, .int p1)] rfl ?_
                    exact ih40 x11 M8 (by omega) hf (by omega)
                  · have tc10 : x9.toInt ≤ p1.toInt := tl_nlt c10
                    refine li_aload_n 2 dX10_fillMasks_54 rfl ?_
                    refine li_getr (k := 3) (N := 8) (T := TX10) (C0 := RX10) dX10_fillMasks_55 (by decide) sh_163 rfl rfl (by decide) (by decide) li_in10 w_338 ?_
                    refine li_iload_n 0 dX10_fillMasks_58 rfl ?_
                    refine li_bipush 15 dX10_fillMasks_59 (by decide) ?_
                    refine li_imul dX10_fillMasks_61 ?_
                    refine li_top (fun x12 ex12 => ?_)
                    have tx12 : (-2147483648 ≤ x7.toInt * 15 ∧ x7.toInt * 15 ≤ 2147483647) → x12.toInt = x7.toInt * 15 := tl_mul ex12
                    refine li_iload_n 0 dX10_fillMasks_62 rfl ?_
                    refine li_iadd dX10_fillMasks_63 ?_
                    refine li_top (fun x13 ex13 => ?_)
                    have tx13 : (-2147483648 ≤ x12.toInt + x7.toInt ∧ x12.toInt + x7.toInt ≤ 2147483647) → x13.toInt = x12.toInt + x7.toInt := tl_add ex13
                    refine li_iload_n 1 dX10_fillMasks_64 rfl ?_
                    refine li_iadd dX10_fillMasks_65 ?_
                    refine li_top (fun x14 ex14 => ?_)
                    have tx14 : (-2147483648 ≤ x13.toInt + x4.toInt ∧ x13.toInt + x4.toInt ≤ 2147483647) → x14.toInt = x13.toInt + x4.toInt := tl_add ex14
                    refine li_aload_n 2 dX10_fillMasks_66 rfl ?_
                    refine li_iload_n 0 dX10_fillMasks_67 rfl ?_
                    refine li_iload_n 0 dX10_fillMasks_68 rfl ?_
                    refine li_iload_n 1 dX10_fillMasks_69 rfl ?_
                    refine li_iadd dX10_fillMasks_70 ?_
                    refine li_top (fun x15 ex15 => ?_)
                    have tx15 : (-2147483648 ≤ x7.toInt + x4.toInt ∧ x7.toInt + x4.toInt ≤ 2147483647) → x15.toInt = x7.toInt + x4.toInt := tl_add ex15
                    refine li_callV (n := 2) (As := [.int x7, .int x15]) dX10_fillMasks_71 (k_X10_joined (d - 1) (by omega) x7 x15 M8) (by omega) (Nat.le_of_ble_eq_true rfl) w_1130 w_1132 w_29 w_108 w_1133 (by decide +kernel) rfl (by decide) sh_163 rfl rfl (Nat.le_of_ble_eq_true rfl) (fun r M17 h18 => ?_)
                    obtain ⟨⟨x16, rfl⟩, h18⟩ := h18
                    have gx16 := tl_rg x16
                    have hf := li_fr_trans hf h18 (fun i h => False.elim h)
                    refine li_callN (n := 3) (As := [.ref (Z.2.2 167), .int x14, .int x16]) dX10_fillMasks_74 (k_X11_put (d - 1) (by omega) (by decide) sh_167 (by decide) x14 x16 M17) (by omega) (Nat.le_of_ble_eq_true rfl) nw_11 w_522 w_101 w_523 (by decide +kernel) rfl rfl (Nat.le_of_ble_eq_true rfl) (fun r M20 h21 => ?_)
                    obtain ⟨rfl, h21⟩ := h21
                    have hf := li_fr_trans hf h21 (fun i (h : i = 167) => (show i = 167 by omega))
                    obtain ⟨x22, ex22⟩ : ∃ y : Int32, y = x7 + 1 := ⟨_, rfl⟩
                    have tx22 : (-2147483648 ≤ x7.toInt + 1 ∧ x7.toInt + 1 ≤ 2147483647) → x22.toInt = x7.toInt + 1 := tl_add ex22
                    refine li_iinc 0 [(3, .int x22), (2, .int x4), (0, .ref (Z.2.2 163)), (1, .int p1)] x22 dX10_fillMasks_77 rfl (by rw [ex22]; rfl) (by decide) rfl ?_
                    refine li_goto 47 dX10_fillMasks_80 (by decide) ?_
                    refine li_pick [0, 1, 2, 3] [(3, .int x22), (2, .int x4), (0, .ref (Z.2.2 163)), (1, .int p1)] rfl ?_
                    exact ih47 x22 M20 (by omega) hf (by omega)
              have z0 : (0 : Int32).toInt = 0 := rfl
              exact L47 _ 0 M5 (Nat.lt_succ_self _) hf (by omega)
        have z2 : (2 : Int32).toInt = 2 := rfl
        exact L40 _ 2 M2 (Nat.lt_succ_self _) hf (by omega)
      · have tc3 : x1.toInt < p1.toInt := tl_nle c3
        refine li_aload_n 1 dX10_fillMasks_7 rfl ?_
        refine li_getr (k := 3) (N := 8) (T := TX10) (C0 := RX10) dX10_fillMasks_8 (by decide) sh_163 rfl rfl (by decide) (by decide) li_in10 w_338 ?_
        refine li_iload_n 0 dX10_fillMasks_11 rfl ?_
        refine li_bipush 15 dX10_fillMasks_12 (by decide) ?_
        refine li_imul dX10_fillMasks_14 ?_
        refine li_top (fun x23 ex23 => ?_)
        have tx23 : (-2147483648 ≤ x1.toInt * 15 ∧ x1.toInt * 15 ≤ 2147483647) → x23.toInt = x1.toInt * 15 := tl_mul ex23
        refine li_iload_n 0 dX10_fillMasks_15 rfl ?_
        refine li_iadd dX10_fillMasks_16 ?_
        refine li_top (fun x24 ex24 => ?_)
        have tx24 : (-2147483648 ≤ x23.toInt + x1.toInt ∧ x23.toInt + x1.toInt ≤ 2147483647) → x24.toInt = x23.toInt + x1.toInt := tl_add ex24
        refine li_iconst 1 dX10_fillMasks_17 (by decide) ?_
        refine li_iadd dX10_fillMasks_18 ?_
        refine li_top (fun x25 ex25 => ?_)
        have tx25 : (-2147483648 ≤ x24.toInt + 1 ∧ x24.toInt + 1 ≤ 2147483647) → x25.toInt = x24.toInt + 1 := tl_add ex25
        refine li_iconst 1 dX10_fillMasks_19 (by decide) ?_
        refine li_aload_n 1 dX10_fillMasks_20 rfl ?_
        refine li_getr (k := 2) (N := 8) (T := TX10) (C0 := RX10) dX10_fillMasks_21 (by decide) sh_163 rfl rfl (by decide) (by decide) li_in10 w_337 ?_
        refine li_iload_n 0 dX10_fillMasks_24 rfl ?_
        refine li_callN (n := 2) (As := [.ref (Z.2.2 166), .int x1]) dX10_fillMasks_25 (k_X11_at (d - 1) (by omega) (by decide) sh_166 (by decide) x1 M2) (by omega) (Nat.le_of_ble_eq_true rfl) nw_30 w_569 w_101 w_570 (by decide +kernel) rfl rfl (Nat.le_of_ble_eq_true rfl) (fun r M27 h28 => ?_)
        obtain ⟨⟨x26, rfl⟩, h28⟩ := h28
        have gx26 := tl_rg x26
        have hf := li_fr_trans hf h28 (fun i h => False.elim h)
        refine li_ishl dX10_fillMasks_28 ?_
        refine li_top (fun x29 ex29 => ?_)
        refine li_callN (n := 3) (As := [.ref (Z.2.2 167), .int x25, .int x29]) dX10_fillMasks_29 (k_X11_put (d - 1) (by omega) (by decide) sh_167 (by decide) x25 x29 M27) (by omega) (Nat.le_of_ble_eq_true rfl) nw_11 w_522 w_101 w_523 (by decide +kernel) rfl rfl (Nat.le_of_ble_eq_true rfl) (fun r M31 h32 => ?_)
        obtain ⟨rfl, h32⟩ := h32
        have hf := li_fr_trans hf h32 (fun i (h : i = 167) => (show i = 167 by omega))
        obtain ⟨x33, ex33⟩ : ∃ y : Int32, y = x1 + 1 := ⟨_, rfl⟩
        have tx33 : (-2147483648 ≤ x1.toInt + 1 ∧ x1.toInt + 1 ≤ 2147483647) → x33.toInt = x1.toInt + 1 := tl_add ex33
        refine li_iinc 0 [(2, .int x33), (0, .ref (Z.2.2 163)), (1, .int p1)] x33 dX10_fillMasks_32 rfl (by rw [ex33]; rfl) (by decide) rfl ?_
        refine li_goto 2 dX10_fillMasks_35 (by decide) ?_
        refine li_pick [0, 1, 2] [(2, .int x33), (0, .ref (Z.2.2 163)), (1, .int p1)] rfl ?_
        exact ih2 x33 M31 (by have h9 := li_up (li_gt c3); rw [← ex33] at h9; omega) hf
  have z0 : (0 : Int32).toInt = 0 := rfl
  exact L2 _ 0 M0 (Nat.lt_succ_self _) hf
set_option maxRecDepth 100000 in
set_option maxHeartbeats 4000000 in
theorem k_X10_isTrialLess {l : Launch} {Z : li_Z} (d : Nat) (hd : 2 ≤ d) (p1 : Int32) (p2 : Int32) (M0 : li_M) : li_Met l Z YX10_isTrialLess d [.ref (Z.2.2 163), .int p1, .int p2] M0 (li_SZ (fun i => False) M0) := by
  refine li_enter (by decide +kernel) (Nat.le_of_ble_eq_true rfl) ?_
  show li_T l Z YX10_isTrialLess d 0 [(0, .ref (Z.2.2 163)), (1, .int p1), (2, .int p2)] [] M0 _
  have hf : li_fr (fun i => False) M0 M0 := li_fr_refl
  refine li_iconst 0 dX10_isTrialLess_0 (by decide) ?_
  refine li_istore_n [(3, .int 0), (0, .ref (Z.2.2 163)), (1, .int p1), (2, .int p2)] dX10_isTrialLess_1 (by decide) rfl ?_
  have L2 : ∀ (n : Nat) (x1 : Int32) (M2 : li_M), (2147483647 - (x1 : Int32).toInt).toNat < n → li_fr (fun i => False) M0 M2 → li_T l Z YX10_isTrialLess d 2 [(3, .int x1), (0, .ref (Z.2.2 163)), (1, .int p1), (2, .int p2)] [] M2 (li_SZ (fun i => False) M0) := by
    intro n
    induction n with
    | zero => intro x1 M2 hn; exact absurd hn (Nat.not_lt_zero _)
    | succ n ih2 =>
      intro x1 M2 hn hf
      refine li_iload_n 0 dX10_isTrialLess_2 rfl ?_
      refine li_iload_n 3 dX10_isTrialLess_3 rfl ?_
      refine li_icmp_ge 53 dX10_isTrialLess_4 (by decide) (fun c3 => ?_) (fun c3 => ?_)
      · refine li_iconst 0 dX10_isTrialLess_53 (by decide) ?_
        exact li_iret dX10_isTrialLess_54 rfl (li_nz (Or.inl rfl)) ⟨⟨_, rfl, Or.inl rfl⟩, hf⟩
      · refine li_aload_n 1 dX10_isTrialLess_7 rfl ?_
        refine li_getr (k := 6) (N := 8) (T := TX10) (C0 := RX10) dX10_isTrialLess_8 (by decide) sh_163 rfl rfl (by decide) (by decide) li_in10 w_342 ?_
        refine li_iload_n 0 dX10_isTrialLess_11 rfl ?_
        refine li_callN (n := 2) (As := [.ref (Z.2.2 170), .int x1]) dX10_isTrialLess_12 (k_X11_at (d - 1) (by omega) (by decide) sh_170 (by decide) x1 M2) (by omega) (Nat.le_of_ble_eq_true rfl) nw_30 w_569 w_101 w_570 (by decide +kernel) rfl rfl (Nat.le_of_ble_eq_true rfl) (fun r M5 h6 => ?_)
        obtain ⟨⟨x4, rfl⟩, h6⟩ := h6
        have hf := li_fr_trans hf h6 (fun i h => False.elim h)
        refine li_aload_n 1 dX10_isTrialLess_15 rfl ?_
        refine li_getr (k := 5) (N := 8) (T := TX10) (C0 := RX10) dX10_isTrialLess_16 (by decide) sh_163 rfl rfl (by decide) (by decide) li_in10 w_340 ?_
        refine li_iload_n 2 dX10_isTrialLess_19 rfl ?_
        refine li_bipush 15 dX10_isTrialLess_20 (by decide) ?_
        refine li_imul dX10_isTrialLess_22 ?_
        refine li_top (fun x7 ex7 => ?_)
        refine li_iload_n 0 dX10_isTrialLess_23 rfl ?_
        refine li_iadd dX10_isTrialLess_24 ?_
        refine li_top (fun x8 ex8 => ?_)
        refine li_callN (n := 2) (As := [.ref (Z.2.2 169), .int x8]) dX10_isTrialLess_25 (k_X11_at (d - 1) (by omega) (by decide) sh_169 (by decide) x8 M5) (by omega) (Nat.le_of_ble_eq_true rfl) nw_30 w_569 w_101 w_570 (by decide +kernel) rfl rfl (Nat.le_of_ble_eq_true rfl) (fun r M10 h11 => ?_)
        obtain ⟨⟨x9, rfl⟩, h11⟩ := h11
        have hf := li_fr_trans hf h11 (fun i h => False.elim h)
        refine li_isub dX10_isTrialLess_28 ?_
        refine li_top (fun x12 ex12 => ?_)
        refine li_istore [(4, .int x12), (3, .int x1), (0, .ref (Z.2.2 163)), (1, .int p1), (2, .int p2)] dX10_isTrialLess_29 (by decide) rfl ?_
        refine li_iload 0 dX10_isTrialLess_31 rfl ?_
        refine li_if_eq 47 dX10_isTrialLess_33 (by decide) (fun c13 => ?_) (fun c13 => ?_)
        · obtain ⟨x14, ex14⟩ : ∃ y : Int32, y = x1 + 1 := ⟨_, rfl⟩
          refine li_iinc 1 [(3, .int x14), (4, .int x12), (0, .ref (Z.2.2 163)), (1, .int p1), (2, .int p2)] x14 dX10_isTrialLess_47 rfl (by rw [ex14]; rfl) (by decide) rfl ?_
          refine li_goto 2 dX10_isTrialLess_50 (by decide) ?_
          refine li_pick [0, 2, 3, 4] [(3, .int x14), (0, .ref (Z.2.2 163)), (1, .int p1), (2, .int p2)] rfl ?_
          exact ih2 x14 M10 (by have h9 := li_up (li_gt c3); rw [← ex14] at h9; omega) hf
        · refine li_iload 0 dX10_isTrialLess_36 rfl ?_
          refine li_if_ge 45 dX10_isTrialLess_38 (by decide) (fun c15 => ?_) (fun c15 => ?_)
          · refine li_iconst 0 dX10_isTrialLess_45 (by decide) ?_
            exact li_iret dX10_isTrialLess_46 rfl (li_nz (Or.inl rfl)) ⟨⟨_, rfl, Or.inl rfl⟩, hf⟩
          · refine li_iconst 1 dX10_isTrialLess_41 (by decide) ?_
            refine li_goto 46 dX10_isTrialLess_42 (by decide) ?_
            exact li_iret dX10_isTrialLess_46 rfl (li_nz (Or.inr rfl)) ⟨⟨_, rfl, Or.inr rfl⟩, hf⟩
  exact L2 _ 0 M0 (Nat.lt_succ_self _) hf
set_option maxRecDepth 100000 in
set_option maxHeartbeats 4000000 in
theorem k_X10_tryFirst {l : Launch} {Z : li_Z} (d : Nat) (hd : 3 ≤ d) (p1 : Int32) (p2 : Int32) (M0 : li_M) : li_Met l Z YX10_tryFirst d [.ref (Z.2.2 163), .int p1, .int p2] M0 (li_SV (fun i => i = 168 ∨ i = 169 ∨ i = 170) M0) := by
  refine li_enter (by decide +kernel) (Nat.le_of_ble_eq_true rfl) ?_
  show li_T l Z YX10_tryFirst d 0 [(0, .ref (Z.2.2 163)), (1, .int p1), (2, .int p2)] [] M0 _
  have hf : li_fr (fun i => i = 168 ∨ i = 169 ∨ i = 170) M0 M0 := li_fr_refl
  refine li_iconst 1 dX10_tryFirst_0 (by decide) ?_
  refine li_aload_n 0 dX10_tryFirst_1 rfl ?_
  refine li_getr (k := 4) (N := 8) (T := TX10) (C0 := RX10) dX10_tryFirst_2 (by decide) sh_163 rfl rfl (by decide) (by decide) li_in10 w_339 ?_
  refine li_iload_n 2 dX10_tryFirst_5 rfl ?_
  refine li_callN (n := 2) (As := [.ref (Z.2.2 168), .int p2]) dX10_tryFirst_6 (k_X11_at (d - 1) (by omega) (by decide) sh_168 (by decide) p2 M0) (by omega) (Nat.le_of_ble_eq_true rfl) nw_30 w_569 w_101 w_570 (by decide +kernel) rfl rfl (Nat.le_of_ble_eq_true rfl) (fun r M2 h3 => ?_)
  obtain ⟨⟨x1, rfl⟩, h3⟩ := h3
  have hf := li_fr_trans hf h3 (fun i h => False.elim h)
  refine li_iadd dX10_tryFirst_9 ?_
  refine li_top (fun x4 ex4 => ?_)
  refine li_istore_n [(3, .int x4), (0, .ref (Z.2.2 163)), (1, .int p1), (2, .int p2)] dX10_tryFirst_10 (by decide) rfl ?_
  refine li_iload_n 0 dX10_tryFirst_11 rfl ?_
  refine li_aload_n 1 dX10_tryFirst_12 rfl ?_
  refine li_getr (k := 4) (N := 8) (T := TX10) (C0 := RX10) dX10_tryFirst_13 (by decide) sh_163 rfl rfl (by decide) (by decide) li_in10 w_339 ?_
  refine li_iload_n 2 dX10_tryFirst_16 rfl ?_
  refine li_callN (n := 2) (As := [.ref (Z.2.2 168), .int p1]) dX10_tryFirst_17 (k_X11_at (d - 1) (by omega) (by decide) sh_168 (by decide) p1 M2) (by omega) (Nat.le_of_ble_eq_true rfl) nw_30 w_569 w_101 w_570 (by decide +kernel) rfl rfl (Nat.le_of_ble_eq_true rfl) (fun r M6 h7 => ?_)
  obtain ⟨⟨x5, rfl⟩, h7⟩ := h7
  have hf := li_fr_trans hf h7 (fun i h => False.elim h)
  refine li_icmp_le 24 dX10_tryFirst_20 (by decide) (fun c8 => ?_) (fun c8 => ?_)
  · refine li_aload_n 1 dX10_tryFirst_24 rfl ?_
    refine li_getr (k := 6) (N := 8) (T := TX10) (C0 := RX10) dX10_tryFirst_25 (by decide) sh_163 rfl rfl (by decide) (by decide) li_in10 w_342 ?_
    refine li_iconst 0 dX10_tryFirst_28 (by decide) ?_
    refine li_aload_n 1 dX10_tryFirst_29 rfl ?_
    refine li_iload_n 2 dX10_tryFirst_30 rfl ?_
    refine li_iload_n 3 dX10_tryFirst_31 rfl ?_
    refine li_callV (n := 2) (As := [.int p1, .int p2]) dX10_tryFirst_32 (k_X10_mask (d - 1) (by omega) p1 p2 M6) (by omega) (Nat.le_of_ble_eq_true rfl) w_1134 w_1135 w_1136 w_108 w_1137 (by decide +kernel) rfl (by decide) sh_163 rfl rfl (Nat.le_of_ble_eq_true rfl) (fun r M10 h11 => ?_)
    obtain ⟨⟨x9, rfl⟩, h11⟩ := h11
    have hf := li_fr_trans hf h11 (fun i h => False.elim h)
    refine li_callS (n := 1) (As := [.int x9]) dX10_tryFirst_35 (k_J6_numberOfTrailingZeros_0f7a4 (d - 1) (by omega) x9 M10) (by omega) (Nat.le_of_ble_eq_true rfl) w_1147 w_1148 w_123 w_1149 (by decide +kernel) rfl rfl (Nat.le_of_ble_eq_true rfl) (fun r M13 h14 => ?_)
    obtain ⟨⟨x12, rfl⟩, h14⟩ := h14
    have hf := li_fr_trans hf h14 (fun i h => False.elim h)
    refine li_callN (n := 3) (As := [.ref (Z.2.2 170), .int 0, .int x12]) dX10_tryFirst_38 (k_X11_put (d - 1) (by omega) (by decide) sh_170 (by decide) 0 x12 M13) (by omega) (Nat.le_of_ble_eq_true rfl) nw_11 w_522 w_101 w_523 (by decide +kernel) rfl rfl (Nat.le_of_ble_eq_true rfl) (fun r M16 h17 => ?_)
    obtain ⟨rfl, h17⟩ := h17
    have hf := li_fr_trans hf h17 (fun i (h : i = 170) => (show i = 168 ∨ i = 169 ∨ i = 170 by omega))
    refine li_iconst 1 dX10_tryFirst_41 (by decide) ?_
    refine li_istore [(4, .int 1), (3, .int x4), (0, .ref (Z.2.2 163)), (1, .int p1), (2, .int p2)] dX10_tryFirst_42 (by decide) rfl ?_
    have L44 : ∀ (n : Nat) (x18 : Int32) (M19 : li_M), (2147483647 - (x18 : Int32).toInt).toNat < n → li_fr (fun i => i = 168 ∨ i = 169 ∨ i = 170) M0 M19 → li_T l Z YX10_tryFirst d 44 [(4, .int x18), (3, .int x4), (0, .ref (Z.2.2 163)), (1, .int p1), (2, .int p2)] [] M19 (li_SV (fun i => i = 168 ∨ i = 169 ∨ i = 170) M0) := by
      intro n
      induction n with
      | zero => intro x18 M19 hn; exact absurd hn (Nat.not_lt_zero _)
      | succ n ih44 =>
        intro x18 M19 hn hf
        refine li_iload 0 dX10_tryFirst_44 rfl ?_
        refine li_iload_n 1 dX10_tryFirst_46 rfl ?_
        refine li_icmp_ge 81 dX10_tryFirst_47 (by decide) (fun c20 => ?_) (fun c20 => ?_)
        · refine li_iload_n 1 dX10_tryFirst_81 rfl ?_
          refine li_aload_n 2 dX10_tryFirst_82 rfl ?_
          refine li_getr (k := 4) (N := 8) (T := TX10) (C0 := RX10) dX10_tryFirst_83 (by decide) sh_163 rfl rfl (by decide) (by decide) li_in10 w_339 ?_
          refine li_iload_n 3 dX10_tryFirst_86 rfl ?_
          refine li_callN (n := 2) (As := [.ref (Z.2.2 168), .int p1]) dX10_tryFirst_87 (k_X11_at (d - 1) (by omega) (by decide) sh_168 (by decide) p1 M19) (by omega) (Nat.le_of_ble_eq_true rfl) nw_30 w_569 w_101 w_570 (by decide +kernel) rfl rfl (Nat.le_of_ble_eq_true rfl) (fun r M22 h23 => ?_)
          obtain ⟨⟨x21, rfl⟩, h23⟩ := h23
          have hf := li_fr_trans hf h23 (fun i h => False.elim h)
          refine li_icmp_lt 102 dX10_tryFirst_90 (by decide) (fun c24 => ?_) (fun c24 => ?_)
          · refine li_iconst 0 dX10_tryFirst_102 (by decide) ?_
            refine li_istore [(4, .int 0), (3, .int x4), (0, .ref (Z.2.2 163)), (1, .int p1), (2, .int p2)] dX10_tryFirst_103 (by decide) rfl ?_
            have L105 : ∀ (n : Nat) (x25 : Int32) (M26 : li_M), (2147483647 - (x25 : Int32).toInt).toNat < n → li_fr (fun i => i = 168 ∨ i = 169 ∨ i = 170) M0 M26 → li_T l Z YX10_tryFirst d 105 [(4, .int x25), (3, .int x4), (0, .ref (Z.2.2 163)), (1, .int p1), (2, .int p2)] [] M26 (li_SV (fun i => i = 168 ∨ i = 169 ∨ i = 170) M0) := by
              intro n
              induction n with
              | zero => intro x25 M26 hn; exact absurd hn (Nat.not_lt_zero _)
              | succ n ih105 =>
                intro x25 M26 hn hf
                refine li_iload 0 dX10_tryFirst_105 rfl ?_
                refine li_iload_n 1 dX10_tryFirst_107 rfl ?_
                refine li_icmp_ge 140 dX10_tryFirst_108 (by decide) (fun c27 => ?_) (fun c27 => ?_)
                · refine li_aload_n 2 dX10_tryFirst_140 rfl ?_
                  refine li_getr (k := 4) (N := 8) (T := TX10) (C0 := RX10) dX10_tryFirst_141 (by decide) sh_163 rfl rfl (by decide) (by decide) li_in10 w_339 ?_
                  refine li_iload_n 3 dX10_tryFirst_144 rfl ?_
                  refine li_iload_n 1 dX10_tryFirst_145 rfl ?_
                  refine li_callN (n := 3) (As := [.ref (Z.2.2 168), .int p1, .int x4]) dX10_tryFirst_146 (k_X11_put (d - 1) (by omega) (by decide) sh_168 (by decide) p1 x4 M26) (by omega) (Nat.le_of_ble_eq_true rfl) nw_11 w_522 w_101 w_523 (by decide +kernel) rfl rfl (Nat.le_of_ble_eq_true rfl) (fun r M29 h30 => ?_)
                  obtain ⟨rfl, h30⟩ := h30
                  have hf := li_fr_trans hf h30 (fun i (h : i = 168) => (show i = 168 ∨ i = 169 ∨ i = 170 by omega))
                  exact li_vret dX10_tryFirst_149 rfl ⟨rfl, hf⟩
                · refine li_aload_n 2 dX10_tryFirst_111 rfl ?_
                  refine li_getr (k := 5) (N := 8) (T := TX10) (C0 := RX10) dX10_tryFirst_112 (by decide) sh_163 rfl rfl (by decide) (by decide) li_in10 w_340 ?_
                  refine li_iload_n 3 dX10_tryFirst_115 rfl ?_
                  refine li_bipush 15 dX10_tryFirst_116 (by decide) ?_
                  refine li_imul dX10_tryFirst_118 ?_
                  refine li_top (fun x31 ex31 => ?_)
                  refine li_iload 0 dX10_tryFirst_119 rfl ?_
                  refine li_iadd dX10_tryFirst_121 ?_
                  refine li_top (fun x32 ex32 => ?_)
                  refine li_aload_n 2 dX10_tryFirst_122 rfl ?_
                  refine li_getr (k := 6) (N := 8) (T := TX10) (C0 := RX10) dX10_tryFirst_123 (by decide) sh_163 rfl rfl (by decide) (by decide) li_in10 w_342 ?_
                  refine li_iload 0 dX10_tryFirst_126 rfl ?_
                  refine li_callN (n := 2) (As := [.ref (Z.2.2 170), .int x25]) dX10_tryFirst_128 (k_X11_at (d - 1) (by omega) (by decide) sh_170 (by decide) x25 M26) (by omega) (Nat.le_of_ble_eq_true rfl) nw_30 w_569 w_101 w_570 (by decide +kernel) rfl rfl (Nat.le_of_ble_eq_true rfl) (fun r M34 h35 => ?_)
                  obtain ⟨⟨x33, rfl⟩, h35⟩ := h35
                  have hf := li_fr_trans hf h35 (fun i h => False.elim h)
                  refine li_callN (n := 3) (As := [.ref (Z.2.2 169), .int x32, .int x33]) dX10_tryFirst_131 (k_X11_put (d - 1) (by omega) (by decide) sh_169 (by decide) x32 x33 M34) (by omega) (Nat.le_of_ble_eq_true rfl) nw_11 w_522 w_101 w_523 (by decide +kernel) rfl rfl (Nat.le_of_ble_eq_true rfl) (fun r M37 h38 => ?_)
                  obtain ⟨rfl, h38⟩ := h38
                  have hf := li_fr_trans hf h38 (fun i (h : i = 169) => (show i = 168 ∨ i = 169 ∨ i = 170 by omega))
                  obtain ⟨x39, ex39⟩ : ∃ y : Int32, y = x25 + 1 := ⟨_, rfl⟩
                  refine li_iinc 0 [(4, .int x39), (3, .int x4), (0, .ref (Z.2.2 163)), (1, .int p1), (2, .int p2)] x39 dX10_tryFirst_134 rfl (by rw [ex39]; rfl) (by decide) rfl ?_
                  refine li_goto 105 dX10_tryFirst_137 (by decide) ?_
                  refine li_pick [0, 1, 2, 3, 4] [(4, .int x39), (3, .int x4), (0, .ref (Z.2.2 163)), (1, .int p1), (2, .int p2)] rfl ?_
                  exact ih105 x39 M37 (by have h9 := li_up (li_gt c27); rw [← ex39] at h9; omega) hf
            exact L105 _ 0 M22 (Nat.lt_succ_self _) hf
          · refine li_aload_n 2 dX10_tryFirst_93 rfl ?_
            refine li_iload_n 3 dX10_tryFirst_94 rfl ?_
            refine li_iload_n 1 dX10_tryFirst_95 rfl ?_
            refine li_callV (n := 2) (As := [.int p1, .int x4]) dX10_tryFirst_96 (k_X10_isTrialLess (d - 1) (by omega) p1 x4 M22) (by omega) (Nat.le_of_ble_eq_true rfl) w_1151 w_1153 w_31 w_108 w_1154 (by decide +kernel) rfl (by decide) sh_163 rfl rfl (Nat.le_of_ble_eq_true rfl) (fun r M41 h42 => ?_)
            obtain ⟨⟨x40, rfl, bx40⟩, h42⟩ := h42
            have hf := li_fr_trans hf h42 (fun i h => False.elim h)
            refine li_if_eq 149 dX10_tryFirst_99 (by decide) (fun c43 => ?_) (fun c43 => ?_)
            · exact li_vret dX10_tryFirst_149 rfl ⟨rfl, hf⟩
            · refine li_iconst 0 dX10_tryFirst_102 (by decide) ?_
              refine li_istore [(4, .int 0), (3, .int x4), (0, .ref (Z.2.2 163)), (1, .int p1), (2, .int p2)] dX10_tryFirst_103 (by decide) rfl ?_
              have L105 : ∀ (n : Nat) (x44 : Int32) (M45 : li_M), (2147483647 - (x44 : Int32).toInt).toNat < n → li_fr (fun i => i = 168 ∨ i = 169 ∨ i = 170) M0 M45 → li_T l Z YX10_tryFirst d 105 [(4, .int x44), (3, .int x4), (0, .ref (Z.2.2 163)), (1, .int p1), (2, .int p2)] [] M45 (li_SV (fun i => i = 168 ∨ i = 169 ∨ i = 170) M0) := by
                intro n
                induction n with
                | zero => intro x44 M45 hn; exact absurd hn (Nat.not_lt_zero _)
                | succ n ih105 =>
                  intro x44 M45 hn hf
                  refine li_iload 0 dX10_tryFirst_105 rfl ?_
                  refine li_iload_n 1 dX10_tryFirst_107 rfl ?_
                  refine li_icmp_ge 140 dX10_tryFirst_108 (by decide) (fun c46 => ?_) (fun c46 => ?_)
                  · refine li_aload_n 2 dX10_tryFirst_140 rfl ?_
                    refine li_getr (k := 4) (N := 8) (T := TX10) (C0 := RX10) dX10_tryFirst_141 (by decide) sh_163 rfl rfl (by decide) (by decide) li_in10 w_339 ?_
                    refine li_iload_n 3 dX10_tryFirst_144 rfl ?_
                    refine li_iload_n 1 dX10_tryFirst_145 rfl ?_
                    refine li_callN (n := 3) (As := [.ref (Z.2.2 168), .int p1, .int x4]) dX10_tryFirst_146 (k_X11_put (d - 1) (by omega) (by decide) sh_168 (by decide) p1 x4 M45) (by omega) (Nat.le_of_ble_eq_true rfl) nw_11 w_522 w_101 w_523 (by decide +kernel) rfl rfl (Nat.le_of_ble_eq_true rfl) (fun r M48 h49 => ?_)
                    obtain ⟨rfl, h49⟩ := h49
                    have hf := li_fr_trans hf h49 (fun i (h : i = 168) => (show i = 168 ∨ i = 169 ∨ i = 170 by omega))
                    exact li_vret dX10_tryFirst_149 rfl ⟨rfl, hf⟩
                  · refine li_aload_n 2 dX10_tryFirst_111 rfl ?_
                    refine li_getr (k := 5) (N := 8) (T := TX10) (C0 := RX10) dX10_tryFirst_112 (by decide) sh_163 rfl rfl (by decide) (by decide) li_in10 w_340 ?_
                    refine li_iload_n 3 dX10_tryFirst_115 rfl ?_
                    refine li_bipush 15 dX10_tryFirst_116 (by decide) ?_
                    refine li_imul dX10_tryFirst_118 ?_
                    refine li_top (fun x50 ex50 => ?_)
                    refine li_iload 0 dX10_tryFirst_119 rfl ?_
                    refine li_iadd dX10_tryFirst_121 ?_
                    refine li_top (fun x51 ex51 => ?_)
                    refine li_aload_n 2 dX10_tryFirst_122 rfl ?_
                    refine li_getr (k := 6) (N := 8) (T := TX10) (C0 := RX10) dX10_tryFirst_123 (by decide) sh_163 rfl rfl (by decide) (by decide) li_in10 w_342 ?_
                    refine li_iload 0 dX10_tryFirst_126 rfl ?_
                    refine li_callN (n := 2) (As := [.ref (Z.2.2 170), .int x44]) dX10_tryFirst_128 (k_X11_at (d - 1) (by omega) (by decide) sh_170 (by decide) x44 M45) (by omega) (Nat.le_of_ble_eq_true rfl) nw_30 w_569 w_101 w_570 (by decide +kernel) rfl rfl (Nat.le_of_ble_eq_true rfl) (fun r M53 h54 => ?_)
                    obtain ⟨⟨x52, rfl⟩, h54⟩ := h54
                    have hf := li_fr_trans hf h54 (fun i h => False.elim h)
                    refine li_callN (n := 3) (As := [.ref (Z.2.2 169), .int x51, .int x52]) dX10_tryFirst_131 (k_X11_put (d - 1) (by omega) (by decide) sh_169 (by decide) x51 x52 M53) (by omega) (Nat.le_of_ble_eq_true rfl) nw_11 w_522 w_101 w_523 (by decide +kernel) rfl rfl (Nat.le_of_ble_eq_true rfl) (fun r M56 h57 => ?_)
                    obtain ⟨rfl, h57⟩ := h57
                    have hf := li_fr_trans hf h57 (fun i (h : i = 169) => (show i = 168 ∨ i = 169 ∨ i = 170 by omega))
                    obtain ⟨x58, ex58⟩ : ∃ y : Int32, y = x44 + 1 := ⟨_, rfl⟩
                    refine li_iinc 0 [(4, .int x58), (3, .int x4), (0, .ref (Z.2.2 163)), (1, .int p1), (2, .int p2)] x58 dX10_tryFirst_134 rfl (by rw [ex58]; rfl) (by decide) rfl ?_
                    refine li_goto 105 dX10_tryFirst_137 (by decide) ?_
                    refine li_pick [0, 1, 2, 3, 4] [(4, .int x58), (3, .int x4), (0, .ref (Z.2.2 163)), (1, .int p1), (2, .int p2)] rfl ?_
                    exact ih105 x58 M56 (by have h9 := li_up (li_gt c46); rw [← ex58] at h9; omega) hf
              exact L105 _ 0 M41 (Nat.lt_succ_self _) hf
        · refine li_aload_n 2 dX10_tryFirst_50 rfl ?_
          refine li_getr (k := 6) (N := 8) (T := TX10) (C0 := RX10) dX10_tryFirst_51 (by decide) sh_163 rfl rfl (by decide) (by decide) li_in10 w_342 ?_
          refine li_iload 0 dX10_tryFirst_54 rfl ?_
          refine li_aload_n 2 dX10_tryFirst_56 rfl ?_
          refine li_getr (k := 5) (N := 8) (T := TX10) (C0 := RX10) dX10_tryFirst_57 (by decide) sh_163 rfl rfl (by decide) (by decide) li_in10 w_340 ?_
          refine li_iload_n 4 dX10_tryFirst_60 rfl ?_
          refine li_bipush 15 dX10_tryFirst_61 (by decide) ?_
          refine li_imul dX10_tryFirst_63 ?_
          refine li_top (fun x59 ex59 => ?_)
          refine li_iload 0 dX10_tryFirst_64 rfl ?_
          refine li_iadd dX10_tryFirst_66 ?_
          refine li_top (fun x60 ex60 => ?_)
          refine li_iconst 1 dX10_tryFirst_67 (by decide) ?_
          refine li_isub dX10_tryFirst_68 ?_
          refine li_top (fun x61 ex61 => ?_)
          refine li_callN (n := 2) (As := [.ref (Z.2.2 169), .int x61]) dX10_tryFirst_69 (k_X11_at (d - 1) (by omega) (by decide) sh_169 (by decide) x61 M19) (by omega) (Nat.le_of_ble_eq_true rfl) nw_30 w_569 w_101 w_570 (by decide +kernel) rfl rfl (Nat.le_of_ble_eq_true rfl) (fun r M63 h64 => ?_)
          obtain ⟨⟨x62, rfl⟩, h64⟩ := h64
          have hf := li_fr_trans hf h64 (fun i h => False.elim h)
          refine li_callN (n := 3) (As := [.ref (Z.2.2 170), .int x18, .int x62]) dX10_tryFirst_72 (k_X11_put (d - 1) (by omega) (by decide) sh_170 (by decide) x18 x62 M63) (by omega) (Nat.le_of_ble_eq_true rfl) nw_11 w_522 w_101 w_523 (by decide +kernel) rfl rfl (Nat.le_of_ble_eq_true rfl) (fun r M66 h67 => ?_)
          obtain ⟨rfl, h67⟩ := h67
          have hf := li_fr_trans hf h67 (fun i (h : i = 170) => (show i = 168 ∨ i = 169 ∨ i = 170 by omega))
          obtain ⟨x68, ex68⟩ : ∃ y : Int32, y = x18 + 1 := ⟨_, rfl⟩
          refine li_iinc 0 [(4, .int x68), (3, .int x4), (0, .ref (Z.2.2 163)), (1, .int p1), (2, .int p2)] x68 dX10_tryFirst_75 rfl (by rw [ex68]; rfl) (by decide) rfl ?_
          refine li_goto 44 dX10_tryFirst_78 (by decide) ?_
          refine li_pick [0, 1, 2, 3, 4] [(4, .int x68), (3, .int x4), (0, .ref (Z.2.2 163)), (1, .int p1), (2, .int p2)] rfl ?_
          exact ih44 x68 M66 (by have h9 := li_up (li_gt c20); rw [← ex68] at h9; omega) hf
    exact L44 _ 1 M16 (Nat.lt_succ_self _) hf
  · exact li_vret dX10_tryFirst_23 rfl ⟨rfl, hf⟩
set_option maxRecDepth 100000 in
set_option maxHeartbeats 4000000 in
theorem k_X10_shorten {l : Launch} {Z : li_Z} (d : Nat) (hd : 4 ≤ d) (p1 : Int32) (h1 : p1.toInt ≤ 80) (M0 : li_M) : li_Met l Z YX10_shorten d [.ref (Z.2.2 163), .int p1] M0 (li_SI (fun i => i = 168 ∨ i = 169 ∨ i = 170) M0) := by
  refine li_enter (by decide +kernel) (Nat.le_of_ble_eq_true rfl) ?_
  show li_T l Z YX10_shorten d 0 [(0, .ref (Z.2.2 163)), (1, .int p1)] [] M0 _
  have hf : li_fr (fun i => i = 168 ∨ i = 169 ∨ i = 170) M0 M0 := li_fr_refl
  have gp1 := tl_rg p1
  refine li_aload_n 0 dX10_shorten_0 rfl ?_
  refine li_getr (k := 4) (N := 8) (T := TX10) (C0 := RX10) dX10_shorten_1 (by decide) sh_163 rfl rfl (by decide) (by decide) li_in10 w_339 ?_
  refine li_iload_n 1 dX10_shorten_4 rfl ?_
  refine li_iconst 0 dX10_shorten_5 (by decide) ?_
  refine li_callN (n := 3) (As := [.ref (Z.2.2 168), .int p1, .int 0]) dX10_shorten_6 (k_X11_put (d - 1) (by omega) (by decide) sh_168 (by decide) p1 0 M0) (by omega) (Nat.le_of_ble_eq_true rfl) nw_11 w_522 w_101 w_523 (by decide +kernel) rfl rfl (Nat.le_of_ble_eq_true rfl) (fun r M2 h3 => ?_)
  obtain ⟨rfl, h3⟩ := h3
  have hf := li_fr_trans hf h3 (fun i (h : i = 168) => (show i = 168 ∨ i = 169 ∨ i = 170 by omega))
  refine li_iload_n 1 dX10_shorten_9 rfl ?_
  refine li_iconst 1 dX10_shorten_10 (by decide) ?_
  refine li_isub dX10_shorten_11 ?_
  refine li_top (fun x4 ex4 => ?_)
  have tx4 : (-2147483648 ≤ p1.toInt - 1 ∧ p1.toInt - 1 ≤ 2147483647) → x4.toInt = p1.toInt - 1 := tl_sub ex4
  refine li_istore_n [(2, .int x4), (0, .ref (Z.2.2 163)), (1, .int p1)] dX10_shorten_12 (by decide) rfl ?_
  have L13 : ∀ (n : Nat) (x5 : Int32) (M6 : li_M), ((x5 : Int32).toInt + 2147483648).toNat < n → li_fr (fun i => i = 168 ∨ i = 169 ∨ i = 170) M0 M6 → li_T l Z YX10_shorten d 13 [(2, .int x5), (0, .ref (Z.2.2 163)), (1, .int p1)] [] M6 (li_SI (fun i => i = 168 ∨ i = 169 ∨ i = 170) M0) := by
    intro n
    induction n with
    | zero => intro x5 M6 hn; exact absurd hn (Nat.not_lt_zero _)
    | succ n ih13 =>
      intro x5 M6 hn hf
      have gx5 := tl_rg x5
      refine li_iload_n 0 dX10_shorten_13 rfl ?_
      refine li_if_lt 63 dX10_shorten_14 (by decide) (fun c7 => ?_) (fun c7 => ?_)
      · have tc7 : x5.toInt < 0 := tl_lt c7
        refine li_aload_n 1 dX10_shorten_63 rfl ?_
        refine li_getr (k := 4) (N := 8) (T := TX10) (C0 := RX10) dX10_shorten_64 (by decide) sh_163 rfl rfl (by decide) (by decide) li_in10 w_339 ?_
        refine li_iconst 0 dX10_shorten_67 (by decide) ?_
        refine li_callN (n := 2) (As := [.ref (Z.2.2 168), .int 0]) dX10_shorten_68 (k_X11_at (d - 1) (by omega) (by decide) sh_168 (by decide) 0 M6) (by omega) (Nat.le_of_ble_eq_true rfl) nw_30 w_569 w_101 w_570 (by decide +kernel) rfl rfl (Nat.le_of_ble_eq_true rfl) (fun r M9 h10 => ?_)
        obtain ⟨⟨x8, rfl⟩, h10⟩ := h10
        have gx8 := tl_rg x8
        have hf := li_fr_trans hf h10 (fun i h => False.elim h)
        exact li_iret dX10_shorten_71 rfl rfl ⟨⟨_, rfl⟩, hf⟩
      · have tc7 : 0 ≤ x5.toInt := tl_nlt c7
        refine li_aload_n 1 dX10_shorten_17 rfl ?_
        refine li_getr (k := 4) (N := 8) (T := TX10) (C0 := RX10) dX10_shorten_18 (by decide) sh_163 rfl rfl (by decide) (by decide) li_in10 w_339 ?_
        refine li_iload_n 0 dX10_shorten_21 rfl ?_
        refine li_bipush 15 dX10_shorten_22 (by decide) ?_
        refine li_callN (n := 3) (As := [.ref (Z.2.2 168), .int x5, .int 15]) dX10_shorten_24 (k_X11_put (d - 1) (by omega) (by decide) sh_168 (by decide) x5 15 M6) (by omega) (Nat.le_of_ble_eq_true rfl) nw_11 w_522 w_101 w_523 (by decide +kernel) rfl rfl (Nat.le_of_ble_eq_true rfl) (fun r M12 h13 => ?_)
        obtain ⟨rfl, h13⟩ := h13
        have hf := li_fr_trans hf h13 (fun i (h : i = 168) => (show i = 168 ∨ i = 169 ∨ i = 170 by omega))
        refine li_iload_n 0 dX10_shorten_27 rfl ?_
        refine li_iconst 1 dX10_shorten_28 (by decide) ?_
        refine li_iadd dX10_shorten_29 ?_
        refine li_top (fun x14 ex14 => ?_)
        have tx14 : (-2147483648 ≤ x5.toInt + 1 ∧ x5.toInt + 1 ≤ 2147483647) → x14.toInt = x5.toInt + 1 := tl_add ex14
        refine li_istore_n [(3, .int x14), (2, .int x5), (0, .ref (Z.2.2 163)), (1, .int p1)] dX10_shorten_30 (by decide) rfl ?_
        have L31 : ∀ (n : Nat) (x15 : Int32) (M16 : li_M), (81 - (x15 : Int32).toInt).toNat < n → li_fr (fun i => i = 168 ∨ i = 169 ∨ i = 170) M0 M16 → li_T l Z YX10_shorten d 31 [(3, .int x15), (2, .int x5), (0, .ref (Z.2.2 163)), (1, .int p1)] [] M16 (li_SI (fun i => i = 168 ∨ i = 169 ∨ i = 170) M0) := by
          intro n
          induction n with
          | zero => intro x15 M16 hn; exact absurd hn (Nat.not_lt_zero _)
          | succ n ih31 =>
            intro x15 M16 hn hf
            have gx15 := tl_rg x15
            refine li_iload_n 0 dX10_shorten_31 rfl ?_
            refine li_iload_n 3 dX10_shorten_32 rfl ?_
            refine li_icmp_gt 57 dX10_shorten_33 (by decide) (fun c17 => ?_) (fun c17 => ?_)
            · have tc17 : p1.toInt < x15.toInt := tl_lt c17
              obtain ⟨x18, ex18⟩ : ∃ y : Int32, y = x5 + (-1) := ⟨_, rfl⟩
              have tx18 : (-2147483648 ≤ x5.toInt + (-1) ∧ x5.toInt + (-1) ≤ 2147483647) → x18.toInt = x5.toInt + (-1) := tl_add ex18
              refine li_iinc 1 [(2, .int x18), (3, .int x15), (0, .ref (Z.2.2 163)), (1, .int p1)] x18 dX10_shorten_57 rfl (by rw [ex18]; rfl) (by decide) rfl ?_
              refine li_goto 13 dX10_shorten_60 (by decide) ?_
              refine li_pick [0, 2, 3] [(2, .int x18), (0, .ref (Z.2.2 163)), (1, .int p1)] rfl ?_
              exact ih13 x18 M16 (by have h9 := li_dn1 c7; rw [← ex18] at h9; omega) hf
            · have tc17 : x15.toInt ≤ p1.toInt := tl_nlt c17
              refine li_aload_n 2 dX10_shorten_36 rfl ?_
              refine li_iload_n 1 dX10_shorten_37 rfl ?_
              refine li_iload_n 0 dX10_shorten_38 rfl ?_
              refine li_callV (n := 2) (As := [.int x5, .int x15]) dX10_shorten_39 (k_X10_mask (d - 1) (by omega) x5 x15 M16) (by omega) (Nat.le_of_ble_eq_true rfl) w_1134 w_1135 w_1136 w_108 w_1137 (by decide +kernel) rfl (by decide) sh_163 rfl rfl (Nat.le_of_ble_eq_true rfl) (fun r M20 h21 => ?_)
              obtain ⟨⟨x19, rfl⟩, h21⟩ := h21
              have gx19 := tl_rg x19
              have hf := li_fr_trans hf h21 (fun i h => False.elim h)
              have J51 : ∀  (M23 : li_M), li_fr (fun i => i = 168 ∨ i = 169 ∨ i = 170) M0 M23 → li_T l Z YX10_shorten d 51 [(3, .int x15), (2, .int x5), (0, .ref (Z.2.2 163)), (1, .int p1)] [] M23 (li_SI (fun i => i = 168 ∨ i = 169 ∨ i = 170) M0) := by
                intro  M23 hf
                obtain ⟨x24, ex24⟩ : ∃ y : Int32, y = x15 + 1 := ⟨_, rfl⟩
                have tx24 : (-2147483648 ≤ x15.toInt + 1 ∧ x15.toInt + 1 ≤ 2147483647) → x24.toInt = x15.toInt + 1 := tl_add ex24
                refine li_iinc 0 [(3, .int x24), (2, .int x5), (0, .ref (Z.2.2 163)), (1, .int p1)] x24 dX10_shorten_51 rfl (by rw [ex24]; rfl) (by decide) rfl ?_
                refine li_goto 31 dX10_shorten_54 (by decide) ?_
                refine li_pick [0, 1, 2, 3] [(3, .int x24), (2, .int x5), (0, .ref (Z.2.2 163)), (1, .int p1)] rfl ?_
                exact ih31 x24 M23 (by omega) hf
              refine li_if_eq 51 dX10_shorten_42 (by decide) (fun c22 => ?_) (fun c22 => ?_)
              · have tc22 : x19.toInt = 0 := tl_eq c22
                refine li_pick [0, 1, 2, 3] [(3, .int x15), (2, .int x5), (0, .ref (Z.2.2 163)), (1, .int p1)] rfl ?_
                exact J51  M20 hf
              · have tc22 : ¬ x19.toInt = 0 := tl_ne c22
                refine li_aload_n 2 dX10_shorten_45 rfl ?_
                refine li_iload_n 1 dX10_shorten_46 rfl ?_
                refine li_iload_n 0 dX10_shorten_47 rfl ?_
                refine li_callV (n := 2) (As := [.int x5, .int x15]) dX10_shorten_48 (k_X10_tryFirst (d - 1) (by omega) x5 x15 M20) (by omega) (Nat.le_of_ble_eq_true rfl) w_1143 w_1145 w_30 w_108 w_1146 (by decide +kernel) rfl (by decide) sh_163 rfl rfl (Nat.le_of_ble_eq_true rfl) (fun r M26 h27 => ?_)
                obtain ⟨rfl, h27⟩ := h27
                have hf := li_fr_trans hf h27 (fun i (h : i = 168 ∨ i = 169 ∨ i = 170) => (show i = 168 ∨ i = 169 ∨ i = 170 by omega))
                refine li_pick [0, 1, 2, 3] [(3, .int x15), (2, .int x5), (0, .ref (Z.2.2 163)), (1, .int p1)] rfl ?_
                exact J51  M26 hf
        exact L31 _ x14 M12 (Nat.lt_succ_self _) hf
  exact L13 _ x4 M2 (Nat.lt_succ_self _) hf
