theorem w_138 : (Jvm.Cond.fieldLink "ClockForTalk$Text" (9 : Nat) "ClockForTalk$Text" "signs" "[I") ∈ li_ws := li_mem 138 (by decide +kernel) (by decide +kernel)
theorem w_139 : (Jvm.Cond.fieldLink "ClockForTalk$Text" (15 : Nat) "ClockForTalk$Text" "length" "I") ∈ li_ws := li_mem 139 (by decide +kernel) (by decide +kernel)
theorem w_142 : (Jvm.Cond.fieldLink "ClockForTalk$Text" (23 : Nat) "ClockForTalk$Text" "place" "I") ∈ li_ws := li_mem 142 (by decide +kernel) (by decide +kernel)
theorem w_159 : (Jvm.Cond.fieldLink "ClockForTalk$Row" (9 : Nat) "ClockForTalk$Row" "numbers" "[I") ∈ li_ws := li_mem 159 (by decide +kernel) (by decide +kernel)
theorem w_161 : (Jvm.Cond.fieldLink "ClockForTalk$Row" (19 : Nat) "ClockForTalk$Row" "length" "I") ∈ li_ws := li_mem 161 (by decide +kernel) (by decide +kernel)
theorem w_522 : (Jvm.Cond.static ({ cls := "ClockForTalk", name := "put", desc := "([III)V" } : Jvm.MethodName)) ∈ li_ws := li_mem 522 (by decide +kernel) (by decide +kernel)
theorem w_523 : (Jvm.Cond.code ({ cls := "ClockForTalk", name := "put", desc := "([III)V" } : Jvm.MethodName) prog_1_method_58_code (3 : Nat) (Option.none : Option Jvm.ClassFile.FieldType)) ∈ li_ws := li_mem 523 (by decide +kernel) (by decide +kernel)
theorem w_569 : (Jvm.Cond.static ({ cls := "ClockForTalk", name := "at", desc := "([II)I" } : Jvm.MethodName)) ∈ li_ws := li_mem 569 (by decide +kernel) (by decide +kernel)
theorem w_570 : (Jvm.Cond.code ({ cls := "ClockForTalk", name := "at", desc := "([II)I" } : Jvm.MethodName) prog_1_method_57_code (2 : Nat) (Option.some Jvm.ClassFile.FieldType.int)) ∈ li_ws := li_mem 570 (by decide +kernel) (by decide +kernel)
theorem w_639 : (Jvm.Cond.static ({ cls := "ClockForTalk", name := "within", desc := "(III)Z" } : Jvm.MethodName)) ∈ li_ws := li_mem 639 (by decide +kernel) (by decide +kernel)
theorem w_640 : (Jvm.Cond.code ({ cls := "ClockForTalk", name := "within", desc := "(III)Z" } : Jvm.MethodName) prog_1_method_61_code (3 : Nat) (Option.some Jvm.ClassFile.FieldType.boolean)) ∈ li_ws := li_mem 640 (by decide +kernel) (by decide +kernel)
theorem w_641 : (Jvm.Cond.methodLink "ClockForTalk$Text" (47 : Nat) ({ cls := "java/lang/Math", name := "max", desc := "(II)I" } : Jvm.MethodName)) ∈ li_ws := li_mem 641 (by decide +kernel) (by decide +kernel)
theorem w_725 : (Jvm.Cond.methodLink "ClockForTalk$Text" (53 : Nat) ({ cls := "java/lang/Math", name := "min", desc := "(II)I" } : Jvm.MethodName)) ∈ li_ws := li_mem 725 (by decide +kernel) (by decide +kernel)
theorem dX7_addFour_0 : decode cX7_addFour 0 = .ok (.aload_n 0, 1) := by decide +kernel
theorem dX7_addFour_1 : decode cX7_addFour 1 = .ok (.getfield 15, 3) := by decide +kernel
theorem dX7_addFour_4 : decode cX7_addFour 4 = .ok (.iconst 4, 1) := by decide +kernel
theorem dX7_addFour_5 : decode cX7_addFour 5 = .ok (.iadd, 1) := by decide +kernel
theorem dX7_addFour_6 : decode cX7_addFour 6 = .ok (.bipush 80, 2) := by decide +kernel
theorem dX7_addFour_8 : decode cX7_addFour 8 = .ok (.if_icmp .le 5, 3) := by decide +kernel
theorem dX7_addFour_11 : decode cX7_addFour 11 = .ok (.iconst 0, 1) := by decide +kernel
theorem dX7_addFour_12 : decode cX7_addFour 12 = .ok (.ireturn, 1) := by decide +kernel
theorem dX7_addFour_13 : decode cX7_addFour 13 = .ok (.bipush 24, 2) := by decide +kernel
theorem dX7_addFour_15 : decode cX7_addFour 15 = .ok (.istore_n 2, 1) := by decide +kernel
theorem dX7_addFour_16 : decode cX7_addFour 16 = .ok (.iload_n 2, 1) := by decide +kernel
theorem dX7_addFour_17 : decode cX7_addFour 17 = .ok (.ifCond .lt 37, 3) := by decide +kernel
theorem dX7_addFour_20 : decode cX7_addFour 20 = .ok (.aload_n 0, 1) := by decide +kernel
theorem dX7_addFour_21 : decode cX7_addFour 21 = .ok (.getfield 9, 3) := by decide +kernel
theorem dX7_addFour_24 : decode cX7_addFour 24 = .ok (.aload_n 0, 1) := by decide +kernel
theorem dX7_addFour_25 : decode cX7_addFour 25 = .ok (.getfield 15, 3) := by decide +kernel
theorem dX7_addFour_28 : decode cX7_addFour 28 = .ok (.iload_n 1, 1) := by decide +kernel
theorem dX7_addFour_29 : decode cX7_addFour 29 = .ok (.iload_n 2, 1) := by decide +kernel
theorem dX7_addFour_30 : decode cX7_addFour 30 = .ok (.iushr, 1) := by decide +kernel
theorem dX7_addFour_31 : decode cX7_addFour 31 = .ok (.sipush 255, 3) := by decide +kernel
theorem dX7_addFour_34 : decode cX7_addFour 34 = .ok (.iand, 1) := by decide +kernel
theorem dX7_addFour_35 : decode cX7_addFour 35 = .ok (.invokestatic 19, 3) := by decide +kernel
theorem dX7_addFour_38 : decode cX7_addFour 38 = .ok (.aload_n 0, 1) := by decide +kernel
theorem dX7_addFour_39 : decode cX7_addFour 39 = .ok (.dup, 1) := by decide +kernel
theorem dX7_addFour_40 : decode cX7_addFour 40 = .ok (.getfield 15, 3) := by decide +kernel
theorem dX7_addFour_43 : decode cX7_addFour 43 = .ok (.iconst 1, 1) := by decide +kernel
theorem dX7_addFour_44 : decode cX7_addFour 44 = .ok (.iadd, 1) := by decide +kernel
theorem dX7_addFour_45 : decode cX7_addFour 45 = .ok (.putfield 15, 3) := by decide +kernel
theorem dX7_addFour_48 : decode cX7_addFour 48 = .ok (.iinc 2 (-8), 3) := by decide +kernel
theorem dX7_addFour_51 : decode cX7_addFour 51 = .ok (.goto (-35), 3) := by decide +kernel
theorem dX7_addFour_54 : decode cX7_addFour 54 = .ok (.iconst 1, 1) := by decide +kernel
theorem dX7_addFour_55 : decode cX7_addFour 55 = .ok (.ireturn, 1) := by decide +kernel
abbrev YX7_addFour : li_Y := (yX7_addFour, cX7_addFour, 3, (some .boolean))
theorem dX7_cutTo_0 : decode cX7_cutTo 0 = .ok (.iload_n 1, 1) := by decide +kernel
theorem dX7_cutTo_1 : decode cX7_cutTo 1 = .ok (.ifCond .lt 11, 3) := by decide +kernel
theorem dX7_cutTo_4 : decode cX7_cutTo 4 = .ok (.iload_n 1, 1) := by decide +kernel
theorem dX7_cutTo_5 : decode cX7_cutTo 5 = .ok (.aload_n 0, 1) := by decide +kernel
theorem dX7_cutTo_6 : decode cX7_cutTo 6 = .ok (.getfield 15, 3) := by decide +kernel
theorem dX7_cutTo_9 : decode cX7_cutTo 9 = .ok (.if_icmp .le 5, 3) := by decide +kernel
theorem dX7_cutTo_12 : decode cX7_cutTo 12 = .ok (.iconst 0, 1) := by decide +kernel
theorem dX7_cutTo_13 : decode cX7_cutTo 13 = .ok (.ireturn, 1) := by decide +kernel
theorem dX7_cutTo_14 : decode cX7_cutTo 14 = .ok (.aload_n 0, 1) := by decide +kernel
theorem dX7_cutTo_15 : decode cX7_cutTo 15 = .ok (.iload_n 1, 1) := by decide +kernel
theorem dX7_cutTo_16 : decode cX7_cutTo 16 = .ok (.putfield 15, 3) := by decide +kernel
theorem dX7_cutTo_19 : decode cX7_cutTo 19 = .ok (.iconst 1, 1) := by decide +kernel
theorem dX7_cutTo_20 : decode cX7_cutTo 20 = .ok (.ireturn, 1) := by decide +kernel
abbrev YX7_cutTo : li_Y := (yX7_cutTo, cX7_cutTo, 2, (some .boolean))
theorem dX7_atEnd_0 : decode cX7_atEnd 0 = .ok (.aload_n 0, 1) := by decide +kernel
theorem dX7_atEnd_1 : decode cX7_atEnd 1 = .ok (.getfield 23, 3) := by decide +kernel
theorem dX7_atEnd_4 : decode cX7_atEnd 4 = .ok (.aload_n 0, 1) := by decide +kernel
theorem dX7_atEnd_5 : decode cX7_atEnd 5 = .ok (.getfield 15, 3) := by decide +kernel
theorem dX7_atEnd_8 : decode cX7_atEnd 8 = .ok (.if_icmp .lt 7, 3) := by decide +kernel
theorem dX7_atEnd_11 : decode cX7_atEnd 11 = .ok (.iconst 1, 1) := by decide +kernel
theorem dX7_atEnd_12 : decode cX7_atEnd 12 = .ok (.goto 4, 3) := by decide +kernel
theorem dX7_atEnd_15 : decode cX7_atEnd 15 = .ok (.iconst 0, 1) := by decide +kernel
theorem dX7_atEnd_16 : decode cX7_atEnd 16 = .ok (.ireturn, 1) := by decide +kernel
abbrev YX7_atEnd : li_Y := (yX7_atEnd, cX7_atEnd, 1, (some .boolean))
theorem dX7_skip_0 : decode cX7_skip 0 = .ok (.aload_n 0, 1) := by decide +kernel
theorem dX7_skip_1 : decode cX7_skip 1 = .ok (.getfield 23, 3) := by decide +kernel
theorem dX7_skip_4 : decode cX7_skip 4 = .ok (.aload_n 0, 1) := by decide +kernel
theorem dX7_skip_5 : decode cX7_skip 5 = .ok (.getfield 15, 3) := by decide +kernel
theorem dX7_skip_8 : decode cX7_skip 8 = .ok (.if_icmp .ge 18, 3) := by decide +kernel
theorem dX7_skip_11 : decode cX7_skip 11 = .ok (.aload_n 0, 1) := by decide +kernel
theorem dX7_skip_12 : decode cX7_skip 12 = .ok (.getfield 9, 3) := by decide +kernel
theorem dX7_skip_15 : decode cX7_skip 15 = .ok (.aload_n 0, 1) := by decide +kernel
theorem dX7_skip_16 : decode cX7_skip 16 = .ok (.getfield 23, 3) := by decide +kernel
theorem dX7_skip_19 : decode cX7_skip 19 = .ok (.invokestatic 26, 3) := by decide +kernel
theorem dX7_skip_22 : decode cX7_skip 22 = .ok (.iload_n 1, 1) := by decide +kernel
theorem dX7_skip_23 : decode cX7_skip 23 = .ok (.if_icmp .eq 5, 3) := by decide +kernel
theorem dX7_skip_26 : decode cX7_skip 26 = .ok (.iconst 0, 1) := by decide +kernel
theorem dX7_skip_27 : decode cX7_skip 27 = .ok (.ireturn, 1) := by decide +kernel
theorem dX7_skip_28 : decode cX7_skip 28 = .ok (.aload_n 0, 1) := by decide +kernel
theorem dX7_skip_29 : decode cX7_skip 29 = .ok (.dup, 1) := by decide +kernel
theorem dX7_skip_30 : decode cX7_skip 30 = .ok (.getfield 23, 3) := by decide +kernel
theorem dX7_skip_33 : decode cX7_skip 33 = .ok (.iconst 1, 1) := by decide +kernel
theorem dX7_skip_34 : decode cX7_skip 34 = .ok (.iadd, 1) := by decide +kernel
theorem dX7_skip_35 : decode cX7_skip 35 = .ok (.putfield 23, 3) := by decide +kernel
theorem dX7_skip_38 : decode cX7_skip 38 = .ok (.iconst 1, 1) := by decide +kernel
theorem dX7_skip_39 : decode cX7_skip 39 = .ok (.ireturn, 1) := by decide +kernel
abbrev YX7_skip : li_Y := (yX7_skip, cX7_skip, 2, (some .boolean))
theorem dX7_takeOneOf_0 : decode cX7_takeOneOf 0 = .ok (.aload_n 0, 1) := by decide +kernel
theorem dX7_takeOneOf_1 : decode cX7_takeOneOf 1 = .ok (.getfield 23, 3) := by decide +kernel
theorem dX7_takeOneOf_4 : decode cX7_takeOneOf 4 = .ok (.aload_n 0, 1) := by decide +kernel
theorem dX7_takeOneOf_5 : decode cX7_takeOneOf 5 = .ok (.getfield 15, 3) := by decide +kernel
theorem dX7_takeOneOf_8 : decode cX7_takeOneOf 8 = .ok (.if_icmp .lt 5, 3) := by decide +kernel
theorem dX7_takeOneOf_11 : decode cX7_takeOneOf 11 = .ok (.iconst (-1), 1) := by decide +kernel
theorem dX7_takeOneOf_12 : decode cX7_takeOneOf 12 = .ok (.ireturn, 1) := by decide +kernel
theorem dX7_takeOneOf_13 : decode cX7_takeOneOf 13 = .ok (.aload_n 0, 1) := by decide +kernel
theorem dX7_takeOneOf_14 : decode cX7_takeOneOf 14 = .ok (.getfield 9, 3) := by decide +kernel
theorem dX7_takeOneOf_17 : decode cX7_takeOneOf 17 = .ok (.aload_n 0, 1) := by decide +kernel
theorem dX7_takeOneOf_18 : decode cX7_takeOneOf 18 = .ok (.getfield 23, 3) := by decide +kernel
theorem dX7_takeOneOf_21 : decode cX7_takeOneOf 21 = .ok (.invokestatic 26, 3) := by decide +kernel
theorem dX7_takeOneOf_24 : decode cX7_takeOneOf 24 = .ok (.iload_n 1, 1) := by decide +kernel
theorem dX7_takeOneOf_25 : decode cX7_takeOneOf 25 = .ok (.isub, 1) := by decide +kernel
theorem dX7_takeOneOf_26 : decode cX7_takeOneOf 26 = .ok (.istore_n 3, 1) := by decide +kernel
theorem dX7_takeOneOf_27 : decode cX7_takeOneOf 27 = .ok (.iload_n 3, 1) := by decide +kernel
theorem dX7_takeOneOf_28 : decode cX7_takeOneOf 28 = .ok (.ifCond .lt 8, 3) := by decide +kernel
theorem dX7_takeOneOf_31 : decode cX7_takeOneOf 31 = .ok (.iload_n 3, 1) := by decide +kernel
theorem dX7_takeOneOf_32 : decode cX7_takeOneOf 32 = .ok (.iload_n 2, 1) := by decide +kernel
theorem dX7_takeOneOf_33 : decode cX7_takeOneOf 33 = .ok (.if_icmp .lt 5, 3) := by decide +kernel
theorem dX7_takeOneOf_36 : decode cX7_takeOneOf 36 = .ok (.iconst (-1), 1) := by decide +kernel
theorem dX7_takeOneOf_37 : decode cX7_takeOneOf 37 = .ok (.ireturn, 1) := by decide +kernel
theorem dX7_takeOneOf_38 : decode cX7_takeOneOf 38 = .ok (.aload_n 0, 1) := by decide +kernel
theorem dX7_takeOneOf_39 : decode cX7_takeOneOf 39 = .ok (.dup, 1) := by decide +kernel
theorem dX7_takeOneOf_40 : decode cX7_takeOneOf 40 = .ok (.getfield 23, 3) := by decide +kernel
theorem dX7_takeOneOf_43 : decode cX7_takeOneOf 43 = .ok (.iconst 1, 1) := by decide +kernel
theorem dX7_takeOneOf_44 : decode cX7_takeOneOf 44 = .ok (.iadd, 1) := by decide +kernel
theorem dX7_takeOneOf_45 : decode cX7_takeOneOf 45 = .ok (.putfield 23, 3) := by decide +kernel
theorem dX7_takeOneOf_48 : decode cX7_takeOneOf 48 = .ok (.iload_n 3, 1) := by decide +kernel
theorem dX7_takeOneOf_49 : decode cX7_takeOneOf 49 = .ok (.ireturn, 1) := by decide +kernel
abbrev YX7_takeOneOf : li_Y := (yX7_takeOneOf, cX7_takeOneOf, 4, (some .int))
theorem dX7_takeNumber_0 : decode cX7_takeNumber 0 = .ok (.iconst (-1), 1) := by decide +kernel
theorem dX7_takeNumber_1 : decode cX7_takeNumber 1 = .ok (.istore_n 2, 1) := by decide +kernel
theorem dX7_takeNumber_2 : decode cX7_takeNumber 2 = .ok (.iconst 0, 1) := by decide +kernel
theorem dX7_takeNumber_3 : decode cX7_takeNumber 3 = .ok (.istore_n 3, 1) := by decide +kernel
theorem dX7_takeNumber_4 : decode cX7_takeNumber 4 = .ok (.iload_n 3, 1) := by decide +kernel
theorem dX7_takeNumber_5 : decode cX7_takeNumber 5 = .ok (.iload_n 1, 1) := by decide +kernel
theorem dX7_takeNumber_6 : decode cX7_takeNumber 6 = .ok (.if_icmp .ge 76, 3) := by decide +kernel
theorem dX7_takeNumber_9 : decode cX7_takeNumber 9 = .ok (.aload_n 0, 1) := by decide +kernel
theorem dX7_takeNumber_10 : decode cX7_takeNumber 10 = .ok (.getfield 23, 3) := by decide +kernel
theorem dX7_takeNumber_13 : decode cX7_takeNumber 13 = .ok (.aload_n 0, 1) := by decide +kernel
theorem dX7_takeNumber_14 : decode cX7_takeNumber 14 = .ok (.getfield 15, 3) := by decide +kernel
theorem dX7_takeNumber_17 : decode cX7_takeNumber 17 = .ok (.if_icmp .ge 20, 3) := by decide +kernel
theorem dX7_takeNumber_20 : decode cX7_takeNumber 20 = .ok (.aload_n 0, 1) := by decide +kernel
theorem dX7_takeNumber_21 : decode cX7_takeNumber 21 = .ok (.getfield 9, 3) := by decide +kernel
theorem dX7_takeNumber_24 : decode cX7_takeNumber 24 = .ok (.aload_n 0, 1) := by decide +kernel
theorem dX7_takeNumber_25 : decode cX7_takeNumber 25 = .ok (.getfield 23, 3) := by decide +kernel
theorem dX7_takeNumber_28 : decode cX7_takeNumber 28 = .ok (.invokestatic 26, 3) := by decide +kernel
theorem dX7_takeNumber_31 : decode cX7_takeNumber 31 = .ok (.bipush 48, 2) := by decide +kernel
theorem dX7_takeNumber_33 : decode cX7_takeNumber 33 = .ok (.isub, 1) := by decide +kernel
theorem dX7_takeNumber_34 : decode cX7_takeNumber 34 = .ok (.goto 4, 3) := by decide +kernel
theorem dX7_takeNumber_37 : decode cX7_takeNumber 37 = .ok (.iconst (-1), 1) := by decide +kernel
theorem dX7_takeNumber_38 : decode cX7_takeNumber 38 = .ok (.istore 4, 2) := by decide +kernel
theorem dX7_takeNumber_40 : decode cX7_takeNumber 40 = .ok (.iload 4, 2) := by decide +kernel
theorem dX7_takeNumber_42 : decode cX7_takeNumber 42 = .ok (.iconst 0, 1) := by decide +kernel
theorem dX7_takeNumber_43 : decode cX7_takeNumber 43 = .ok (.bipush 9, 2) := by decide +kernel
theorem dX7_takeNumber_45 : decode cX7_takeNumber 45 = .ok (.invokestatic 43, 3) := by decide +kernel
theorem dX7_takeNumber_48 : decode cX7_takeNumber 48 = .ok (.ifCond .ne 6, 3) := by decide +kernel
theorem dX7_takeNumber_51 : decode cX7_takeNumber 51 = .ok (.goto 31, 3) := by decide +kernel
theorem dX7_takeNumber_54 : decode cX7_takeNumber 54 = .ok (.aload_n 0, 1) := by decide +kernel
theorem dX7_takeNumber_55 : decode cX7_takeNumber 55 = .ok (.dup, 1) := by decide +kernel
theorem dX7_takeNumber_56 : decode cX7_takeNumber 56 = .ok (.getfield 23, 3) := by decide +kernel
theorem dX7_takeNumber_59 : decode cX7_takeNumber 59 = .ok (.iconst 1, 1) := by decide +kernel
theorem dX7_takeNumber_60 : decode cX7_takeNumber 60 = .ok (.iadd, 1) := by decide +kernel
theorem dX7_takeNumber_61 : decode cX7_takeNumber 61 = .ok (.putfield 23, 3) := by decide +kernel
theorem dX7_takeNumber_64 : decode cX7_takeNumber 64 = .ok (.iload_n 2, 1) := by decide +kernel
theorem dX7_takeNumber_65 : decode cX7_takeNumber 65 = .ok (.iconst 0, 1) := by decide +kernel
theorem dX7_takeNumber_66 : decode cX7_takeNumber 66 = .ok (.invokestatic 47, 3) := by decide +kernel
theorem dX7_takeNumber_69 : decode cX7_takeNumber 69 = .ok (.bipush 10, 2) := by decide +kernel
theorem dX7_takeNumber_71 : decode cX7_takeNumber 71 = .ok (.imul, 1) := by decide +kernel
theorem dX7_takeNumber_72 : decode cX7_takeNumber 72 = .ok (.iload 4, 2) := by decide +kernel
theorem dX7_takeNumber_74 : decode cX7_takeNumber 74 = .ok (.iadd, 1) := by decide +kernel
theorem dX7_takeNumber_75 : decode cX7_takeNumber 75 = .ok (.istore_n 2, 1) := by decide +kernel
theorem dX7_takeNumber_76 : decode cX7_takeNumber 76 = .ok (.iinc 3 1, 3) := by decide +kernel
theorem dX7_takeNumber_79 : decode cX7_takeNumber 79 = .ok (.goto (-75), 3) := by decide +kernel
theorem dX7_takeNumber_82 : decode cX7_takeNumber 82 = .ok (.iload_n 2, 1) := by decide +kernel
theorem dX7_takeNumber_83 : decode cX7_takeNumber 83 = .ok (.ireturn, 1) := by decide +kernel
abbrev YX7_takeNumber : li_Y := (yX7_takeNumber, cX7_takeNumber, 5, (some .int))
theorem dX7_verdict_0 : decode cX7_verdict 0 = .ok (.iload_n 1, 1) := by decide +kernel
theorem dX7_verdict_1 : decode cX7_verdict 1 = .ok (.ifCond .ge 14, 3) := by decide +kernel
theorem dX7_verdict_4 : decode cX7_verdict 4 = .ok (.iconst (-1), 1) := by decide +kernel
theorem dX7_verdict_5 : decode cX7_verdict 5 = .ok (.aload_n 0, 1) := by decide +kernel
theorem dX7_verdict_6 : decode cX7_verdict 6 = .ok (.getfield 23, 3) := by decide +kernel
theorem dX7_verdict_9 : decode cX7_verdict 9 = .ok (.iload_n 2, 1) := by decide +kernel
theorem dX7_verdict_10 : decode cX7_verdict 10 = .ok (.invokestatic 53, 3) := by decide +kernel
theorem dX7_verdict_13 : decode cX7_verdict 13 = .ok (.isub, 1) := by decide +kernel
theorem dX7_verdict_14 : decode cX7_verdict 14 = .ok (.ireturn, 1) := by decide +kernel
theorem dX7_verdict_15 : decode cX7_verdict 15 = .ok (.aload_n 0, 1) := by decide +kernel
theorem dX7_verdict_16 : decode cX7_verdict 16 = .ok (.getfield 15, 3) := by decide +kernel
theorem dX7_verdict_19 : decode cX7_verdict 19 = .ok (.iload_n 2, 1) := by decide +kernel
theorem dX7_verdict_20 : decode cX7_verdict 20 = .ok (.if_icmp .le 9, 3) := by decide +kernel
theorem dX7_verdict_23 : decode cX7_verdict 23 = .ok (.iconst (-1), 1) := by decide +kernel
theorem dX7_verdict_24 : decode cX7_verdict 24 = .ok (.iload_n 2, 1) := by decide +kernel
theorem dX7_verdict_25 : decode cX7_verdict 25 = .ok (.isub, 1) := by decide +kernel
theorem dX7_verdict_26 : decode cX7_verdict 26 = .ok (.goto 4, 3) := by decide +kernel
theorem dX7_verdict_29 : decode cX7_verdict 29 = .ok (.iload_n 1, 1) := by decide +kernel
theorem dX7_verdict_30 : decode cX7_verdict 30 = .ok (.ireturn, 1) := by decide +kernel
abbrev YX7_verdict : li_Y := (yX7_verdict, cX7_verdict, 3, (some .int))
theorem dX5_tell_0 : decode cX5_tell 0 = .ok (.aload_n 0, 1) := by decide +kernel
theorem dX5_tell_1 : decode cX5_tell 1 = .ok (.getfield 9, 3) := by decide +kernel
theorem dX5_tell_4 : decode cX5_tell 4 = .ok (.iconst 0, 1) := by decide +kernel
theorem dX5_tell_5 : decode cX5_tell 5 = .ok (.iload_n 1, 1) := by decide +kernel
theorem dX5_tell_6 : decode cX5_tell 6 = .ok (.invokestatic 15, 3) := by decide +kernel
theorem dX5_tell_9 : decode cX5_tell 9 = .ok (.aload_n 0, 1) := by decide +kernel
theorem dX5_tell_10 : decode cX5_tell 10 = .ok (.iconst 1, 1) := by decide +kernel
theorem dX5_tell_11 : decode cX5_tell 11 = .ok (.putfield 19, 3) := by decide +kernel
theorem dX5_tell_14 : decode cX5_tell 14 = .ok (.return_, 1) := by decide +kernel
abbrev YX5_tell : li_Y := (yX5_tell, cX5_tell, 2, none)
theorem dX5_tellTwo_0 : decode cX5_tellTwo 0 = .ok (.aload_n 0, 1) := by decide +kernel
theorem dX5_tellTwo_1 : decode cX5_tellTwo 1 = .ok (.getfield 9, 3) := by decide +kernel
theorem dX5_tellTwo_4 : decode cX5_tellTwo 4 = .ok (.iconst 0, 1) := by decide +kernel
theorem dX5_tellTwo_5 : decode cX5_tellTwo 5 = .ok (.iload_n 1, 1) := by decide +kernel
theorem dX5_tellTwo_6 : decode cX5_tellTwo 6 = .ok (.invokestatic 15, 3) := by decide +kernel
theorem dX5_tellTwo_9 : decode cX5_tellTwo 9 = .ok (.aload_n 0, 1) := by decide +kernel
theorem dX5_tellTwo_10 : decode cX5_tellTwo 10 = .ok (.getfield 9, 3) := by decide +kernel
theorem dX5_tellTwo_13 : decode cX5_tellTwo 13 = .ok (.iconst 1, 1) := by decide +kernel
theorem dX5_tellTwo_14 : decode cX5_tellTwo 14 = .ok (.iload_n 2, 1) := by decide +kernel
theorem dX5_tellTwo_15 : decode cX5_tellTwo 15 = .ok (.invokestatic 15, 3) := by decide +kernel
theorem dX5_tellTwo_18 : decode cX5_tellTwo 18 = .ok (.aload_n 0, 1) := by decide +kernel
theorem dX5_tellTwo_19 : decode cX5_tellTwo 19 = .ok (.iconst 2, 1) := by decide +kernel
theorem dX5_tellTwo_20 : decode cX5_tellTwo 20 = .ok (.putfield 19, 3) := by decide +kernel
theorem dX5_tellTwo_23 : decode cX5_tellTwo 23 = .ok (.return_, 1) := by decide +kernel
abbrev YX5_tellTwo : li_Y := (yX5_tellTwo, cX5_tellTwo, 3, none)
theorem dX5_tellAll_0 : decode cX5_tellAll 0 = .ok (.aload_n 0, 1) := by decide +kernel
theorem dX5_tellAll_1 : decode cX5_tellAll 1 = .ok (.iload_n 3, 1) := by decide +kernel
theorem dX5_tellAll_2 : decode cX5_tellAll 2 = .ok (.bipush 14, 2) := by decide +kernel
theorem dX5_tellAll_4 : decode cX5_tellAll 4 = .ok (.invokestatic 23, 3) := by decide +kernel
theorem dX5_tellAll_7 : decode cX5_tellAll 7 = .ok (.putfield 19, 3) := by decide +kernel
theorem dX5_tellAll_10 : decode cX5_tellAll 10 = .ok (.iconst 0, 1) := by decide +kernel
theorem dX5_tellAll_11 : decode cX5_tellAll 11 = .ok (.istore 4, 2) := by decide +kernel
theorem dX5_tellAll_13 : decode cX5_tellAll 13 = .ok (.iload 4, 2) := by decide +kernel
theorem dX5_tellAll_15 : decode cX5_tellAll 15 = .ok (.aload_n 0, 1) := by decide +kernel
theorem dX5_tellAll_16 : decode cX5_tellAll 16 = .ok (.getfield 19, 3) := by decide +kernel
theorem dX5_tellAll_19 : decode cX5_tellAll 19 = .ok (.if_icmp .ge 26, 3) := by decide +kernel
theorem dX5_tellAll_22 : decode cX5_tellAll 22 = .ok (.aload_n 0, 1) := by decide +kernel
theorem dX5_tellAll_23 : decode cX5_tellAll 23 = .ok (.getfield 9, 3) := by decide +kernel
theorem dX5_tellAll_26 : decode cX5_tellAll 26 = .ok (.iload 4, 2) := by decide +kernel
theorem dX5_tellAll_28 : decode cX5_tellAll 28 = .ok (.aload_n 1, 1) := by decide +kernel
theorem dX5_tellAll_29 : decode cX5_tellAll 29 = .ok (.iload_n 2, 1) := by decide +kernel
theorem dX5_tellAll_30 : decode cX5_tellAll 30 = .ok (.iload 4, 2) := by decide +kernel
theorem dX5_tellAll_32 : decode cX5_tellAll 32 = .ok (.iadd, 1) := by decide +kernel
theorem dX5_tellAll_33 : decode cX5_tellAll 33 = .ok (.invokestatic 27, 3) := by decide +kernel
theorem dX5_tellAll_36 : decode cX5_tellAll 36 = .ok (.invokestatic 15, 3) := by decide +kernel
theorem dX5_tellAll_39 : decode cX5_tellAll 39 = .ok (.iinc 4 1, 3) := by decide +kernel
theorem dX5_tellAll_42 : decode cX5_tellAll 42 = .ok (.goto (-29), 3) := by decide +kernel
theorem dX5_tellAll_45 : decode cX5_tellAll 45 = .ok (.return_, 1) := by decide +kernel
abbrev YX5_tellAll : li_Y := (yX5_tellAll, cX5_tellAll, 5, none)
set_option maxRecDepth 100000 in
set_option maxHeartbeats 4000000 in
theorem k_X7_atEnd {l : Launch} {Z : li_Z} (d : Nat) (hd : 1 ≤ d) (M0 : li_M) : li_Met l Z YX7_atEnd d [.ref (Z.2.2 1)] M0 (li_SZ (fun i => False) M0) := by
  refine li_enter (by decide +kernel) (Nat.le_of_ble_eq_true rfl) ?_
  show li_T l Z YX7_atEnd d 0 [(0, .ref (Z.2.2 1))] [] M0 _
  have hf : li_fr (fun i => False) M0 M0 := li_fr_refl
  refine li_aload_n 0 dX7_atEnd_0 rfl ?_
  refine li_geti (k := 2) (N := 3) (T := TX7) (C0 := RX7) dX7_atEnd_1 (by decide) sh_1 rfl rfl (by decide) li_in7 w_142 ?_
  refine li_top (fun x1 ex1 => ?_)
  refine li_aload_n 0 dX7_atEnd_4 rfl ?_
  refine li_geti (k := 1) (N := 3) (T := TX7) (C0 := RX7) dX7_atEnd_5 (by decide) sh_1 rfl rfl (by decide) li_in7 w_139 ?_
  refine li_top (fun x2 ex2 => ?_)
  refine li_icmp_lt 15 dX7_atEnd_8 (by decide) (fun c3 => ?_) (fun c3 => ?_)
  · refine li_iconst 0 dX7_atEnd_15 (by decide) ?_
    exact li_iret dX7_atEnd_16 rfl (li_nz (Or.inl rfl)) ⟨⟨_, rfl, Or.inl rfl⟩, hf⟩
  · refine li_iconst 1 dX7_atEnd_11 (by decide) ?_
    refine li_goto 16 dX7_atEnd_12 (by decide) ?_
    exact li_iret dX7_atEnd_16 rfl (li_nz (Or.inr rfl)) ⟨⟨_, rfl, Or.inr rfl⟩, hf⟩
set_option maxRecDepth 100000 in
set_option maxHeartbeats 4000000 in
theorem k_X7_skip {l : Launch} {Z : li_Z} (d : Nat) (hd : 2 ≤ d) (p1 : Int32) (M0 : li_M) : li_Met l Z YX7_skip d [.ref (Z.2.2 1), .int p1] M0 (li_SZ (fun i => i = 1) M0) := by
  refine li_enter (by decide +kernel) (Nat.le_of_ble_eq_true rfl) ?_
  show li_T l Z YX7_skip d 0 [(0, .ref (Z.2.2 1)), (1, .int p1)] [] M0 _
  have hf : li_fr (fun i => i = 1) M0 M0 := li_fr_refl
  refine li_aload_n 0 dX7_skip_0 rfl ?_
  refine li_geti (k := 2) (N := 3) (T := TX7) (C0 := RX7) dX7_skip_1 (by decide) sh_1 rfl rfl (by decide) li_in7 w_142 ?_
  refine li_top (fun x1 ex1 => ?_)
  refine li_aload_n 0 dX7_skip_4 rfl ?_
  refine li_geti (k := 1) (N := 3) (T := TX7) (C0 := RX7) dX7_skip_5 (by decide) sh_1 rfl rfl (by decide) li_in7 w_139 ?_
  refine li_top (fun x2 ex2 => ?_)
  refine li_icmp_ge 26 dX7_skip_8 (by decide) (fun c3 => ?_) (fun c3 => ?_)
  · refine li_iconst 0 dX7_skip_26 (by decide) ?_
    exact li_iret dX7_skip_27 rfl (li_nz (Or.inl rfl)) ⟨⟨_, rfl, Or.inl rfl⟩, hf⟩
  · refine li_aload_n 0 dX7_skip_11 rfl ?_
    refine li_getr (k := 0) (N := 3) (T := TX7) (C0 := RX7) dX7_skip_12 (by decide) sh_1 rfl rfl (by decide) (by decide) li_in7 w_138 ?_
    refine li_aload_n 0 dX7_skip_15 rfl ?_
    refine li_geti (k := 2) (N := 3) (T := TX7) (C0 := RX7) dX7_skip_16 (by decide) sh_1 rfl rfl (by decide) li_in7 w_142 ?_
    refine li_top (fun x4 ex4 => ?_)
    refine li_callN (n := 2) (As := [.ref (Z.2.2 2), .int x4]) dX7_skip_19 (k_X11_at (d - 1) (by omega) (by decide) sh_2 (by decide) x4 M0) (by omega) (Nat.le_of_ble_eq_true rfl) nw_8 w_569 w_101 w_570 (by decide +kernel) rfl rfl (Nat.le_of_ble_eq_true rfl) (fun r M6 h7 => ?_)
    obtain ⟨⟨x5, rfl⟩, h7⟩ := h7
    have hf := li_fr_trans hf h7 (fun i h => False.elim h)
    refine li_iload_n 1 dX7_skip_22 rfl ?_
    refine li_icmp_eq 28 dX7_skip_23 (by decide) (fun c8 => ?_) (fun c8 => ?_)
    · refine li_aload_n 0 dX7_skip_28 rfl ?_
      refine li_dup dX7_skip_29 rfl ?_
      refine li_geti (k := 2) (N := 3) (T := TX7) (C0 := RX7) dX7_skip_30 (by decide) sh_1 rfl rfl (by decide) li_in7 w_142 ?_
      refine li_top (fun x9 ex9 => ?_)
      refine li_iconst 1 dX7_skip_33 (by decide) ?_
      refine li_iadd dX7_skip_34 ?_
      refine li_top (fun x10 ex10 => ?_)
      refine li_puti (k := 2) (N := 3) (T := TX7) (C0 := RX7) dX7_skip_35 (by decide) sh_1 rfl rfl (by decide) li_in7 tyX7_ok nmX7 rfl rfl rfl rfl w_142 ?_
      refine li_nm (fun M11 eM11 => ?_)
      have hf := li_fr_ui hf (show 1 = 1 by omega) eM11
      refine li_iconst 1 dX7_skip_38 (by decide) ?_
      exact li_iret dX7_skip_39 rfl (li_nz (Or.inr rfl)) ⟨⟨_, rfl, Or.inr rfl⟩, hf⟩
    · refine li_iconst 0 dX7_skip_26 (by decide) ?_
      exact li_iret dX7_skip_27 rfl (li_nz (Or.inl rfl)) ⟨⟨_, rfl, Or.inl rfl⟩, hf⟩
set_option maxRecDepth 100000 in
set_option maxHeartbeats 4000000 in
theorem k_X7_takeOneOf {l : Launch} {Z : li_Z} (d : Nat) (hd : 2 ≤ d) (p1 : Int32) (p2 : Int32) (M0 : li_M) : li_Met l Z YX7_takeOneOf d [.ref (Z.2.2 1), .int p1, .int p2] M0 (li_SI (fun i => i = 1) M0) := by
  refine li_enter (by decide +kernel) (Nat.le_of_ble_eq_true rfl) ?_
  show li_T l Z YX7_takeOneOf d 0 [(0, .ref (Z.2.2 1)), (1, .int p1), (2, .int p2)] [] M0 _
  have hf : li_fr (fun i => i = 1) M0 M0 := li_fr_refl
  refine li_aload_n 0 dX7_takeOneOf_0 rfl ?_
  refine li_geti (k := 2) (N := 3) (T := TX7) (C0 := RX7) dX7_takeOneOf_1 (by decide) sh_1 rfl rfl (by decide) li_in7 w_142 ?_
  refine li_top (fun x1 ex1 => ?_)
  refine li_aload_n 0 dX7_takeOneOf_4 rfl ?_
  refine li_geti (k := 1) (N := 3) (T := TX7) (C0 := RX7) dX7_takeOneOf_5 (by decide) sh_1 rfl rfl (by decide) li_in7 w_139 ?_
  refine li_top (fun x2 ex2 => ?_)
  refine li_icmp_lt 13 dX7_takeOneOf_8 (by decide) (fun c3 => ?_) (fun c3 => ?_)
  · refine li_aload_n 0 dX7_takeOneOf_13 rfl ?_
    refine li_getr (k := 0) (N := 3) (T := TX7) (C0 := RX7) dX7_takeOneOf_14 (by decide) sh_1 rfl rfl (by decide) (by decide) li_in7 w_138 ?_
    refine li_aload_n 0 dX7_takeOneOf_17 rfl ?_
    refine li_geti (k := 2) (N := 3) (T := TX7) (C0 := RX7) dX7_takeOneOf_18 (by decide) sh_1 rfl rfl (by decide) li_in7 w_142 ?_
    refine li_top (fun x4 ex4 => ?_)
    refine li_callN (n := 2) (As := [.ref (Z.2.2 2), .int x4]) dX7_takeOneOf_21 (k_X11_at (d - 1) (by omega) (by decide) sh_2 (by decide) x4 M0) (by omega) (Nat.le_of_ble_eq_true rfl) nw_8 w_569 w_101 w_570 (by decide +kernel) rfl rfl (Nat.le_of_ble_eq_true rfl) (fun r M6 h7 => ?_)
    obtain ⟨⟨x5, rfl⟩, h7⟩ := h7
    have hf := li_fr_trans hf h7 (fun i h => False.elim h)
    refine li_iload_n 1 dX7_takeOneOf_24 rfl ?_
    refine li_isub dX7_takeOneOf_25 ?_
    refine li_top (fun x8 ex8 => ?_)
    refine li_istore_n [(3, .int x8), (0, .ref (Z.2.2 1)), (1, .int p1), (2, .int p2)] dX7_takeOneOf_26 (by decide) rfl ?_
    refine li_iload_n 0 dX7_takeOneOf_27 rfl ?_
    refine li_if_lt 36 dX7_takeOneOf_28 (by decide) (fun c9 => ?_) (fun c9 => ?_)
    · refine li_iconst (-1) dX7_takeOneOf_36 (by decide) ?_
      exact li_iret dX7_takeOneOf_37 rfl rfl ⟨⟨_, rfl⟩, hf⟩
    · refine li_iload_n 0 dX7_takeOneOf_31 rfl ?_
      refine li_iload_n 3 dX7_takeOneOf_32 rfl ?_
      refine li_icmp_lt 38 dX7_takeOneOf_33 (by decide) (fun c10 => ?_) (fun c10 => ?_)
      · refine li_aload_n 1 dX7_takeOneOf_38 rfl ?_
        refine li_dup dX7_takeOneOf_39 rfl ?_
        refine li_geti (k := 2) (N := 3) (T := TX7) (C0 := RX7) dX7_takeOneOf_40 (by decide) sh_1 rfl rfl (by decide) li_in7 w_142 ?_
        refine li_top (fun x11 ex11 => ?_)
        refine li_iconst 1 dX7_takeOneOf_43 (by decide) ?_
        refine li_iadd dX7_takeOneOf_44 ?_
        refine li_top (fun x12 ex12 => ?_)
        refine li_puti (k := 2) (N := 3) (T := TX7) (C0 := RX7) dX7_takeOneOf_45 (by decide) sh_1 rfl rfl (by decide) li_in7 tyX7_ok nmX7 rfl rfl rfl rfl w_142 ?_
        refine li_nm (fun M13 eM13 => ?_)
        have hf := li_fr_ui hf (show 1 = 1 by omega) eM13
        refine li_iload_n 0 dX7_takeOneOf_48 rfl ?_
        exact li_iret dX7_takeOneOf_49 rfl rfl ⟨⟨_, rfl⟩, hf⟩
      · refine li_iconst (-1) dX7_takeOneOf_36 (by decide) ?_
        exact li_iret dX7_takeOneOf_37 rfl rfl ⟨⟨_, rfl⟩, hf⟩
  · refine li_iconst (-1) dX7_takeOneOf_11 (by decide) ?_
    exact li_iret dX7_takeOneOf_12 rfl rfl ⟨⟨_, rfl⟩, hf⟩
set_option maxRecDepth 100000 in
set_option maxHeartbeats 4000000 in
theorem k_X7_takeNumber {l : Launch} {Z : li_Z} (d : Nat) (hd : 2 ≤ d) (p1 : Int32) (M0 : li_M) : li_Met l Z YX7_takeNumber d [.ref (Z.2.2 1), .int p1] M0 (li_SI (fun i => i = 1) M0) := by
  refine li_enter (by decide +kernel) (Nat.le_of_ble_eq_true rfl) ?_
  show li_T l Z YX7_takeNumber d 0 [(0, .ref (Z.2.2 1)), (1, .int p1)] [] M0 _
  have hf : li_fr (fun i => i = 1) M0 M0 := li_fr_refl
  refine li_iconst (-1) dX7_takeNumber_0 (by decide) ?_
  refine li_istore_n [(2, .int (-1)), (0, .ref (Z.2.2 1)), (1, .int p1)] dX7_takeNumber_1 (by decide) rfl ?_
  refine li_iconst 0 dX7_takeNumber_2 (by decide) ?_
  refine li_istore_n [(3, .int 0), (2, .int (-1)), (0, .ref (Z.2.2 1)), (1, .int p1)] dX7_takeNumber_3 (by decide) rfl ?_
  have L4 : ∀ (n : Nat) (x1 : Int32) (x2 : Int32) (M3 : li_M), (2147483647 - (x1 : Int32).toInt).toNat < n → li_fr (fun i => i = 1) M0 M3 → li_T l Z YX7_takeNumber d 4 [(3, .int x1), (2, .int x2), (0, .ref (Z.2.2 1)), (1, .int p1)] [] M3 (li_SI (fun i => i = 1) M0) := by
    intro n
    induction n with
    | zero => intro x1 x2 M3 hn; exact absurd hn (Nat.not_lt_zero _)
    | succ n ih4 =>
      intro x1 x2 M3 hn hf
      refine li_iload_n 0 dX7_takeNumber_4 rfl ?_
      refine li_iload_n 3 dX7_takeNumber_5 rfl ?_
      refine li_icmp_ge 82 dX7_takeNumber_6 (by decide) (fun c4 => ?_) (fun c4 => ?_)
      · refine li_iload_n 1 dX7_takeNumber_82 rfl ?_
        exact li_iret dX7_takeNumber_83 rfl rfl ⟨⟨_, rfl⟩, hf⟩
      · refine li_aload_n 2 dX7_takeNumber_9 rfl ?_
        refine li_geti (k := 2) (N := 3) (T := TX7) (C0 := RX7) dX7_takeNumber_10 (by decide) sh_1 rfl rfl (by decide) li_in7 w_142 ?_
        refine li_top (fun x5 ex5 => ?_)
        refine li_aload_n 2 dX7_takeNumber_13 rfl ?_
        refine li_geti (k := 1) (N := 3) (T := TX7) (C0 := RX7) dX7_takeNumber_14 (by decide) sh_1 rfl rfl (by decide) li_in7 w_139 ?_
        refine li_top (fun x6 ex6 => ?_)
        have J38 : ∀ (x8 : Int32) (M9 : li_M), li_fr (fun i => i = 1) M0 M9 → li_T l Z YX7_takeNumber d 38 [(3, .int x1), (2, .int x2), (0, .ref (Z.2.2 1)), (1, .int p1)] [.int x8] M9 (li_SI (fun i => i = 1) M0) := by
          intro x8 M9 hf
          refine li_istore [(4, .int x8), (3, .int x1), (2, .int x2), (0, .ref (Z.2.2 1)), (1, .int p1)] dX7_takeNumber_38 (by decide) rfl ?_
          refine li_iload 0 dX7_takeNumber_40 rfl ?_
          refine li_iconst 0 dX7_takeNumber_42 (by decide) ?_
          refine li_bipush 9 dX7_takeNumber_43 (by decide) ?_
          refine li_callN (n := 3) (As := [.int x8, .int 0, .int 9]) dX7_takeNumber_45 (k_X11_within (d - 1) (by omega) x8 0 9 M9) (by omega) (Nat.le_of_ble_eq_true rfl) nw_10 w_639 w_101 w_640 (by decide +kernel) rfl rfl (Nat.le_of_ble_eq_true rfl) (fun r M11 h12 => ?_)
          obtain ⟨⟨x10, rfl, bx10, qx10⟩, h12⟩ := h12
          have hf := li_fr_trans hf h12 (fun i h => False.elim h)
          refine li_if_ne 54 dX7_takeNumber_48 (by decide) (fun c13 => ?_) (fun c13 => ?_)
          · refine li_aload_n 3 dX7_takeNumber_54 rfl ?_
            refine li_dup dX7_takeNumber_55 rfl ?_
            refine li_geti (k := 2) (N := 3) (T := TX7) (C0 := RX7) dX7_takeNumber_56 (by decide) sh_1 rfl rfl (by decide) li_in7 w_142 ?_
            refine li_top (fun x14 ex14 => ?_)
            refine li_iconst 1 dX7_takeNumber_59 (by decide) ?_
            refine li_iadd dX7_takeNumber_60 ?_
            refine li_top (fun x15 ex15 => ?_)
            refine li_puti (k := 2) (N := 3) (T := TX7) (C0 := RX7) dX7_takeNumber_61 (by decide) sh_1 rfl rfl (by decide) li_in7 tyX7_ok nmX7 rfl rfl rfl rfl w_142 ?_
            refine li_nm (fun M16 eM16 => ?_)
            have hf := li_fr_ui hf (show 1 = 1 by omega) eM16
            refine li_iload_n 2 dX7_takeNumber_64 rfl ?_
            refine li_iconst 0 dX7_takeNumber_65 (by decide) ?_
            refine li_mmax dX7_takeNumber_66 (by omega) w_641 w_642 w_113 w_643 (Nat.le_of_ble_eq_true rfl) ?_
            refine li_top (fun x17 ex17 => ?_)
            refine li_bipush 10 dX7_takeNumber_69 (by decide) ?_
            refine li_imul dX7_takeNumber_71 ?_
            refine li_top (fun x18 ex18 => ?_)
            refine li_iload 0 dX7_takeNumber_72 rfl ?_
            refine li_iadd dX7_takeNumber_74 ?_
            refine li_top (fun x19 ex19 => ?_)
            refine li_istore_n [(2, .int x19), (4, .int x8), (3, .int x1), (0, .ref (Z.2.2 1)), (1, .int p1)] dX7_takeNumber_75 (by decide) rfl ?_
            obtain ⟨x20, ex20⟩ : ∃ y : Int32, y = x1 + 1 := ⟨_, rfl⟩
            refine li_iinc 2 [(3, .int x20), (2, .int x19), (4, .int x8), (0, .ref (Z.2.2 1)), (1, .int p1)] x20 dX7_takeNumber_76 rfl (by rw [ex20]; rfl) (by decide) rfl ?_
            refine li_goto 4 dX7_takeNumber_79 (by decide) ?_
            refine li_pick [0, 1, 3, 4] [(3, .int x20), (2, .int x19), (0, .ref (Z.2.2 1)), (1, .int p1)] rfl ?_
            exact ih4 x20 x19 M16 (by have h9 := li_up (li_gt c4); rw [← ex20] at h9; omega) hf
          · refine li_goto 82 dX7_takeNumber_51 (by decide) ?_
            refine li_iload_n 2 dX7_takeNumber_82 rfl ?_
            exact li_iret dX7_takeNumber_83 rfl rfl ⟨⟨_, rfl⟩, hf⟩
        refine li_icmp_ge 37 dX7_takeNumber_17 (by decide) (fun c7 => ?_) (fun c7 => ?_)
        · refine li_iconst (-1) dX7_takeNumber_37 (by decide) ?_
          refine li_pick [0, 1, 2, 3] [(3, .int x1), (2, .int x2), (0, .ref (Z.2.2 1)), (1, .int p1)] rfl ?_
          exact J38 (-1) M3 hf
        · refine li_aload_n 2 dX7_takeNumber_20 rfl ?_
          refine li_getr (k := 0) (N := 3) (T := TX7) (C0 := RX7) dX7_takeNumber_21 (by decide) sh_1 rfl rfl (by decide) (by decide) li_in7 w_138 ?_
          refine li_aload_n 2 dX7_takeNumber_24 rfl ?_
          refine li_geti (k := 2) (N := 3) (T := TX7) (C0 := RX7) dX7_takeNumber_25 (by decide) sh_1 rfl rfl (by decide) li_in7 w_142 ?_
          refine li_top (fun x21 ex21 => ?_)
          refine li_callN (n := 2) (As := [.ref (Z.2.2 2), .int x21]) dX7_takeNumber_28 (k_X11_at (d - 1) (by omega) (by decide) sh_2 (by decide) x21 M3) (by omega) (Nat.le_of_ble_eq_true rfl) nw_8 w_569 w_101 w_570 (by decide +kernel) rfl rfl (Nat.le_of_ble_eq_true rfl) (fun r M23 h24 => ?_)
          obtain ⟨⟨x22, rfl⟩, h24⟩ := h24
          have hf := li_fr_trans hf h24 (fun i h => False.elim h)
          refine li_bipush 48 dX7_takeNumber_31 (by decide) ?_
          refine li_isub dX7_takeNumber_33 ?_
          refine li_top (fun x25 ex25 => ?_)
          refine li_goto 38 dX7_takeNumber_34 (by decide) ?_
          refine li_pick [0, 1, 2, 3] [(3, .int x1), (2, .int x2), (0, .ref (Z.2.2 1)), (1, .int p1)] rfl ?_
          exact J38 x25 M23 hf
  exact L4 _ 0 (-1) M0 (Nat.lt_succ_self _) hf
set_option maxRecDepth 100000 in
set_option maxHeartbeats 4000000 in
theorem k_X7_verdict {l : Launch} {Z : li_Z} (d : Nat) (hd : 1 ≤ d) (p1 : Int32) (p2 : Int32) (M0 : li_M) : li_Met l Z YX7_verdict d [.ref (Z.2.2 1), .int p1, .int p2] M0 (li_SI (fun i => False) M0) := by
  refine li_enter (by decide +kernel) (Nat.le_of_ble_eq_true rfl) ?_
  show li_T l Z YX7_verdict d 0 [(0, .ref (Z.2.2 1)), (1, .int p1), (2, .int p2)] [] M0 _
  have hf : li_fr (fun i => False) M0 M0 := li_fr_refl
  refine li_iload_n 1 dX7_verdict_0 rfl ?_
  refine li_if_ge 15 dX7_verdict_1 (by decide) (fun c1 => ?_) (fun c1 => ?_)
  · refine li_aload_n 0 dX7_verdict_15 rfl ?_
    refine li_geti (k := 1) (N := 3) (T := TX7) (C0 := RX7) dX7_verdict_16 (by decide) sh_1 rfl rfl (by decide) li_in7 w_139 ?_
    refine li_top (fun x2 ex2 => ?_)
    refine li_iload_n 2 dX7_verdict_19 rfl ?_
    refine li_icmp_le 29 dX7_verdict_20 (by decide) (fun c3 => ?_) (fun c3 => ?_)
    · refine li_iload_n 1 dX7_verdict_29 rfl ?_
      exact li_iret dX7_verdict_30 rfl rfl ⟨⟨_, rfl⟩, hf⟩
    · refine li_iconst (-1) dX7_verdict_23 (by decide) ?_
      refine li_iload_n 2 dX7_verdict_24 rfl ?_
      refine li_isub dX7_verdict_25 ?_
      refine li_top (fun x4 ex4 => ?_)
      refine li_goto 30 dX7_verdict_26 (by decide) ?_
      exact li_iret dX7_verdict_30 rfl rfl ⟨⟨_, rfl⟩, hf⟩
  · refine li_iconst (-1) dX7_verdict_4 (by decide) ?_
    refine li_aload_n 0 dX7_verdict_5 rfl ?_
    refine li_geti (k := 2) (N := 3) (T := TX7) (C0 := RX7) dX7_verdict_6 (by decide) sh_1 rfl rfl (by decide) li_in7 w_142 ?_
    refine li_top (fun x5 ex5 => ?_)
    refine li_iload_n 2 dX7_verdict_9 rfl ?_
    refine li_mmin dX7_verdict_10 (by omega) w_725 w_726 w_113 w_727 (Nat.le_of_ble_eq_true rfl) ?_
    refine li_top (fun x6 ex6 => ?_)
    refine li_isub dX7_verdict_13 ?_
    refine li_top (fun x7 ex7 => ?_)
    exact li_iret dX7_verdict_14 rfl rfl ⟨⟨_, rfl⟩, hf⟩
set_option maxRecDepth 100000 in
set_option maxHeartbeats 4000000 in
theorem k_X5_tell {l : Launch} {Z : li_Z} (d : Nat) (hd : 2 ≤ d) (p1 : Int32) (M0 : li_M) : li_Met l Z YX5_tell d [.ref (Z.2.2 3), .int p1] M0 (li_SV (fun i => i = 3 ∨ i = 4) M0) := by
  refine li_enter (by decide +kernel) (Nat.le_of_ble_eq_true rfl) ?_
  show li_T l Z YX5_tell d 0 [(0, .ref (Z.2.2 3)), (1, .int p1)] [] M0 _
  have hf : li_fr (fun i => i = 3 ∨ i = 4) M0 M0 := li_fr_refl
  refine li_aload_n 0 dX5_tell_0 rfl ?_
  refine li_getr (k := 0) (N := 2) (T := TX5) (C0 := RX5) dX5_tell_1 (by decide) sh_3 rfl rfl (by decide) (by decide) li_in5 w_159 ?_
  refine li_iconst 0 dX5_tell_4 (by decide) ?_
  refine li_iload_n 1 dX5_tell_5 rfl ?_
  refine li_callN (n := 3) (As := [.ref (Z.2.2 4), .int 0, .int p1]) dX5_tell_6 (k_X11_put (d - 1) (by omega) (by decide) sh_4 (by decide) 0 p1 M0) (by omega) (Nat.le_of_ble_eq_true rfl) nw_23 w_522 w_101 w_523 (by decide +kernel) rfl rfl (Nat.le_of_ble_eq_true rfl) (fun r M2 h3 => ?_)
  obtain ⟨rfl, h3⟩ := h3
  have hf := li_fr_trans hf h3 (fun i (h : i = 4) => (show i = 3 ∨ i = 4 by omega))
  refine li_aload_n 0 dX5_tell_9 rfl ?_
  refine li_iconst 1 dX5_tell_10 (by decide) ?_
  refine li_puti (k := 1) (N := 2) (T := TX5) (C0 := RX5) dX5_tell_11 (by decide) sh_3 rfl rfl (by decide) li_in5 tyX5_ok nmX5 rfl rfl rfl rfl w_161 ?_
  refine li_nm (fun M4 eM4 => ?_)
  have hf := li_fr_ui hf (show 3 = 3 ∨ 3 = 4 by omega) eM4
  exact li_vret dX5_tell_14 rfl ⟨rfl, hf⟩
set_option maxRecDepth 100000 in
set_option maxHeartbeats 4000000 in
theorem k_X5_tellTwo {l : Launch} {Z : li_Z} (d : Nat) (hd : 2 ≤ d) (p1 : Int32) (p2 : Int32) (M0 : li_M) : li_Met l Z YX5_tellTwo d [.ref (Z.2.2 3), .int p1, .int p2] M0 (li_SV (fun i => i = 3 ∨ i = 4) M0) := by
  refine li_enter (by decide +kernel) (Nat.le_of_ble_eq_true rfl) ?_
  show li_T l Z YX5_tellTwo d 0 [(0, .ref (Z.2.2 3)), (1, .int p1), (2, .int p2)] [] M0 _
  have hf : li_fr (fun i => i = 3 ∨ i = 4) M0 M0 := li_fr_refl
  refine li_aload_n 0 dX5_tellTwo_0 rfl ?_
  refine li_getr (k := 0) (N := 2) (T := TX5) (C0 := RX5) dX5_tellTwo_1 (by decide) sh_3 rfl rfl (by decide) (by decide) li_in5 w_159 ?_
  refine li_iconst 0 dX5_tellTwo_4 (by decide) ?_
  refine li_iload_n 1 dX5_tellTwo_5 rfl ?_
  refine li_callN (n := 3) (As := [.ref (Z.2.2 4), .int 0, .int p1]) dX5_tellTwo_6 (k_X11_put (d - 1) (by omega) (by decide) sh_4 (by decide) 0 p1 M0) (by omega) (Nat.le_of_ble_eq_true rfl) nw_23 w_522 w_101 w_523 (by decide +kernel) rfl rfl (Nat.le_of_ble_eq_true rfl) (fun r M2 h3 => ?_)
  obtain ⟨rfl, h3⟩ := h3
  have hf := li_fr_trans hf h3 (fun i (h : i = 4) => (show i = 3 ∨ i = 4 by omega))
  refine li_aload_n 0 dX5_tellTwo_9 rfl ?_
  refine li_getr (k := 0) (N := 2) (T := TX5) (C0 := RX5) dX5_tellTwo_10 (by decide) sh_3 rfl rfl (by decide) (by decide) li_in5 w_159 ?_
  refine li_iconst 1 dX5_tellTwo_13 (by decide) ?_
  refine li_iload_n 2 dX5_tellTwo_14 rfl ?_
  refine li_callN (n := 3) (As := [.ref (Z.2.2 4), .int 1, .int p2]) dX5_tellTwo_15 (k_X11_put (d - 1) (by omega) (by decide) sh_4 (by decide) 1 p2 M2) (by omega) (Nat.le_of_ble_eq_true rfl) nw_23 w_522 w_101 w_523 (by decide +kernel) rfl rfl (Nat.le_of_ble_eq_true rfl) (fun r M5 h6 => ?_)
  obtain ⟨rfl, h6⟩ := h6
  have hf := li_fr_trans hf h6 (fun i (h : i = 4) => (show i = 3 ∨ i = 4 by omega))
  refine li_aload_n 0 dX5_tellTwo_18 rfl ?_
  refine li_iconst 2 dX5_tellTwo_19 (by decide) ?_
  refine li_puti (k := 1) (N := 2) (T := TX5) (C0 := RX5) dX5_tellTwo_20 (by decide) sh_3 rfl rfl (by decide) li_in5 tyX5_ok nmX5 rfl rfl rfl rfl w_161 ?_
  refine li_nm (fun M7 eM7 => ?_)
  have hf := li_fr_ui hf (show 3 = 3 ∨ 3 = 4 by omega) eM7
  exact li_vret dX5_tellTwo_23 rfl ⟨rfl, hf⟩
set_option maxRecDepth 100000 in
set_option maxHeartbeats 4000000 in
theorem k_X5_tellAll {l : Launch} {Z : li_Z} (d : Nat) (hd : 2 ≤ d) {j n : Nat} (hj : j < li_N) (hs : li_sh j = .inr (0, n)) (hnn : n < 2147483648) (p1 p2 : Int32) (M0 : li_M) : li_Met l Z YX5_tellAll d [.ref (Z.2.2 3), .ref (Z.2.2 j), .int p1, .int p2] M0 (li_SV (fun i => i = 3 ∨ i = 4) M0) := by
  refine li_enter (by decide +kernel) (Nat.le_of_ble_eq_true rfl) ?_
  show li_T l Z YX5_tellAll d 0 [(0, .ref (Z.2.2 3)), (1, .ref (Z.2.2 j)), (2, .int p1), (3, .int p2)] [] M0 _
  have hf : li_fr (fun i => i = 3 ∨ i = 4) M0 M0 := li_fr_refl
  refine li_aload_n 0 dX5_tellAll_0 rfl ?_
  refine li_iload_n 3 dX5_tellAll_1 rfl ?_
  refine li_bipush 14 dX5_tellAll_2 (by decide) ?_
  refine li_callN (n := 2) (As := [.int p2, .int 14]) dX5_tellAll_4 (k_X11_clamp (d - 1) (by omega) p2 14 M0) (by omega) (Nat.le_of_ble_eq_true rfl) nw_28 w_772 w_101 w_773 (by decide +kernel) rfl rfl (Nat.le_of_ble_eq_true rfl) (fun r M2 h3 => ?_)
  obtain ⟨⟨x1, rfl⟩, h3⟩ := h3
  have hf := li_fr_trans hf h3 (fun i h => False.elim h)
  refine li_puti (k := 1) (N := 2) (T := TX5) (C0 := RX5) dX5_tellAll_7 (by decide) sh_3 rfl rfl (by decide) li_in5 tyX5_ok nmX5 rfl rfl rfl rfl w_161 ?_
  refine li_nm (fun M4 eM4 => ?_)
  have hf := li_fr_ui hf (show 3 = 3 ∨ 3 = 4 by omega) eM4
  refine li_iconst 0 dX5_tellAll_10 (by decide) ?_
  refine li_istore [(4, .int 0), (0, .ref (Z.2.2 3)), (1, .ref (Z.2.2 j)), (2, .int p1), (3, .int p2)] dX5_tellAll_11 (by decide) rfl ?_
  have L13 : ∀ (n : Nat) (x5 : Int32) (M6 : li_M), (2147483647 - (x5 : Int32).toInt).toNat < n → li_fr (fun i => i = 3 ∨ i = 4) M0 M6 → li_T l Z YX5_tellAll d 13 [(4, .int x5), (0, .ref (Z.2.2 3)), (1, .ref (Z.2.2 j)), (2, .int p1), (3, .int p2)] [] M6 (li_SV (fun i => i = 3 ∨ i = 4) M0) := by
    intro n
    induction n with
    | zero => intro x5 M6 hn; exact absurd hn (Nat.not_lt_zero _)
    | succ n ih13 =>
      intro x5 M6 hn hf
      refine li_iload 0 dX5_tellAll_13 rfl ?_
      refine li_aload_n 1 dX5_tellAll_15 rfl ?_
      refine li_geti (k := 1) (N := 2) (T := TX5) (C0 := RX5) dX5_tellAll_16 (by decide) sh_3 rfl rfl (by decide) li_in5 w_161 ?_
      refine li_top (fun x7 ex7 => ?_)
      refine li_icmp_ge 45 dX5_tellAll_19 (by decide) (fun c8 => ?_) (fun c8 => ?_)
      · exact li_vret dX5_tellAll_45 rfl ⟨rfl, hf⟩
      · refine li_aload_n 1 dX5_tellAll_22 rfl ?_
        refine li_getr (k := 0) (N := 2) (T := TX5) (C0 := RX5) dX5_tellAll_23 (by decide) sh_3 rfl rfl (by decide) (by decide) li_in5 w_159 ?_
        refine li_iload 0 dX5_tellAll_26 rfl ?_
        refine li_aload_n 2 dX5_tellAll_28 rfl ?_
        refine li_iload_n 3 dX5_tellAll_29 rfl ?_
        refine li_iload 0 dX5_tellAll_30 rfl ?_
        refine li_iadd dX5_tellAll_32 ?_
        refine li_top (fun x9 ex9 => ?_)
        refine li_callN (n := 2) (As := [.ref (Z.2.2 j), .int x9]) dX5_tellAll_33 (k_X11_at (d - 1) (by omega) hj hs hnn x9 M6) (by omega) (Nat.le_of_ble_eq_true rfl) nw_29 w_569 w_101 w_570 (by decide +kernel) rfl rfl (Nat.le_of_ble_eq_true rfl) (fun r M11 h12 => ?_)
        obtain ⟨⟨x10, rfl⟩, h12⟩ := h12
        have hf := li_fr_trans hf h12 (fun i h => False.elim h)
        refine li_callN (n := 3) (As := [.ref (Z.2.2 4), .int x5, .int x10]) dX5_tellAll_36 (k_X11_put (d - 1) (by omega) (by decide) sh_4 (by decide) x5 x10 M11) (by omega) (Nat.le_of_ble_eq_true rfl) nw_23 w_522 w_101 w_523 (by decide +kernel) rfl rfl (Nat.le_of_ble_eq_true rfl) (fun r M14 h15 => ?_)
        obtain ⟨rfl, h15⟩ := h15
        have hf := li_fr_trans hf h15 (fun i (h : i = 4) => (show i = 3 ∨ i = 4 by omega))
        obtain ⟨x16, ex16⟩ : ∃ y : Int32, y = x5 + 1 := ⟨_, rfl⟩
        refine li_iinc 0 [(4, .int x16), (0, .ref (Z.2.2 3)), (1, .ref (Z.2.2 j)), (2, .int p1), (3, .int p2)] x16 dX5_tellAll_39 rfl (by rw [ex16]; rfl) (by decide) rfl ?_
        refine li_goto 13 dX5_tellAll_42 (by decide) ?_
        refine li_pick [0, 1, 2, 3, 4] [(4, .int x16), (0, .ref (Z.2.2 3)), (1, .ref (Z.2.2 j)), (2, .int p1), (3, .int p2)] rfl ?_
        exact ih13 x16 M14 (by have h9 := li_up (li_gt c8); rw [← ex16] at h9; omega) hf
  exact L13 _ 0 M4 (Nat.lt_succ_self _) hf
