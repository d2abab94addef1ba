theorem w_60 : (Jvm.Cond.selects "ClockForTalkModel" ({ cls := "ClockForTalkModel", name := "field", desc := "(II)I" } : Jvm.MethodName) ({ cls := "ClockForTalkModel", name := "field", desc := "(II)I" } : Jvm.MethodName)) ∈ li_ws := li_mem 60 (by decide +kernel) (by decide +kernel)
theorem w_61 : (Jvm.Cond.selects "ClockForTalkModel" ({ cls := "ClockForTalkModel", name := "apart", desc := "(II)I" } : Jvm.MethodName) ({ cls := "ClockForTalkModel", name := "apart", desc := "(II)I" } : Jvm.MethodName)) ∈ li_ws := li_mem 61 (by decide +kernel) (by decide +kernel)
theorem w_1406 : (Jvm.Cond.fieldLink "ClockForTalkModel" (13 : Nat) "ClockForTalkModel" "step" "[I") ∈ li_ws := li_mem 1406 (by decide +kernel) (by decide +kernel)
theorem w_1409 : (Jvm.Cond.fieldLink "ClockForTalkModel" (19 : Nat) "ClockForTalkModel" "thing" "[I") ∈ li_ws := li_mem 1409 (by decide +kernel) (by decide +kernel)
theorem w_1410 : (Jvm.Cond.fieldLink "ClockForTalkModel" (22 : Nat) "ClockForTalkModel" "text" "[B") ∈ li_ws := li_mem 1410 (by decide +kernel) (by decide +kernel)
theorem w_1411 : (Jvm.Cond.fieldLink "ClockForTalkModel" (124 : Nat) "ClockForTalkModel" "typed" "I") ∈ li_ws := li_mem 1411 (by decide +kernel) (by decide +kernel)
theorem w_1412 : (Jvm.Cond.fieldLink "ClockForTalkModel" (26 : Nat) "ClockForTalkModel" "row" "[I") ∈ li_ws := li_mem 1412 (by decide +kernel) (by decide +kernel)
theorem w_1413 : (Jvm.Cond.fieldLink "ClockForTalkModel" (107 : Nat) "ClockForTalkModel" "rowMany" "I") ∈ li_ws := li_mem 1413 (by decide +kernel) (by decide +kernel)
theorem w_1668 : (Jvm.Cond.methodLink "ClockForTalkModel" (220 : Nat) ({ cls := "ClockForTalkModel", name := "field", desc := "(II)I" } : Jvm.MethodName)) ∈ li_ws := li_mem 1668 (by decide +kernel) (by decide +kernel)
theorem w_1670 : (Jvm.Cond.instanceMethod ({ cls := "ClockForTalkModel", name := "field", desc := "(II)I" } : Jvm.MethodName)) ∈ li_ws := li_mem 1670 (by decide +kernel) (by decide +kernel)
theorem w_1671 : (Jvm.Cond.code ({ cls := "ClockForTalkModel", name := "field", desc := "(II)I" } : Jvm.MethodName) prog_13_method_34_code (3 : Nat) (Option.some Jvm.ClassFile.FieldType.int)) ∈ li_ws := li_mem 1671 (by decide +kernel) (by decide +kernel)
theorem w_1672 : (Jvm.Cond.methodLink "ClockForTalkModel" (214 : Nat) ({ cls := "ClockForTalkModel", name := "apart", desc := "(II)I" } : Jvm.MethodName)) ∈ li_ws := li_mem 1672 (by decide +kernel) (by decide +kernel)
theorem w_1674 : (Jvm.Cond.instanceMethod ({ cls := "ClockForTalkModel", name := "apart", desc := "(II)I" } : Jvm.MethodName)) ∈ li_ws := li_mem 1674 (by decide +kernel) (by decide +kernel)
theorem w_1675 : (Jvm.Cond.code ({ cls := "ClockForTalkModel", name := "apart", desc := "(II)I" } : Jvm.MethodName) prog_13_method_32_code (3 : Nat) (Option.some Jvm.ClassFile.FieldType.int)) ∈ li_ws := li_mem 1675 (by decide +kernel) (by decide +kernel)
theorem w_1676 : (Jvm.Cond.methodLink "ClockForTalkModel" (211 : Nat) ({ cls := "java/lang/Math", name := "abs", desc := "(I)I" } : Jvm.MethodName)) ∈ li_ws := li_mem 1676 (by decide +kernel) (by decide +kernel)
theorem w_1685 : (Jvm.Cond.methodLink "ClockForTalkModel" (217 : Nat) ({ cls := "ClockForTalkModel", name := "carries", desc := "(I)I" } : Jvm.MethodName)) ∈ li_ws := li_mem 1685 (by decide +kernel) (by decide +kernel)
theorem w_1686 : (Jvm.Cond.static ({ cls := "ClockForTalkModel", name := "carries", desc := "(I)I" } : Jvm.MethodName)) ∈ li_ws := li_mem 1686 (by decide +kernel) (by decide +kernel)
theorem w_1687 : (Jvm.Cond.code ({ cls := "ClockForTalkModel", name := "carries", desc := "(I)I" } : Jvm.MethodName) prog_13_method_31_code (1 : Nat) (Option.some Jvm.ClassFile.FieldType.int)) ∈ li_ws := li_mem 1687 (by decide +kernel) (by decide +kernel)
theorem dX12_carries_0 : decode cX12_carries 0 = .ok (.iload_n 0, 1) := by decide +kernel
theorem dX12_carries_1 : decode cX12_carries 1 = .ok (.ifCond .ne 7, 3) := by decide +kernel
theorem dX12_carries_4 : decode cX12_carries 4 = .ok (.iconst 1, 1) := by decide +kernel
theorem dX12_carries_5 : decode cX12_carries 5 = .ok (.goto 24, 3) := by decide +kernel
theorem dX12_carries_8 : decode cX12_carries 8 = .ok (.iload_n 0, 1) := by decide +kernel
theorem dX12_carries_9 : decode cX12_carries 9 = .ok (.iconst 1, 1) := by decide +kernel
theorem dX12_carries_10 : decode cX12_carries 10 = .ok (.if_icmp .ne 7, 3) := by decide +kernel
theorem dX12_carries_13 : decode cX12_carries 13 = .ok (.iconst 3, 1) := by decide +kernel
theorem dX12_carries_14 : decode cX12_carries 14 = .ok (.goto 15, 3) := by decide +kernel
theorem dX12_carries_17 : decode cX12_carries 17 = .ok (.iload_n 0, 1) := by decide +kernel
theorem dX12_carries_18 : decode cX12_carries 18 = .ok (.iconst 2, 1) := by decide +kernel
theorem dX12_carries_19 : decode cX12_carries 19 = .ok (.if_icmp .ne 8, 3) := by decide +kernel
theorem dX12_carries_22 : decode cX12_carries 22 = .ok (.bipush 9, 2) := by decide +kernel
theorem dX12_carries_24 : decode cX12_carries 24 = .ok (.goto 5, 3) := by decide +kernel
theorem dX12_carries_27 : decode cX12_carries 27 = .ok (.bipush 99, 2) := by decide +kernel
theorem dX12_carries_29 : decode cX12_carries 29 = .ok (.ireturn, 1) := by decide +kernel
abbrev YX12_carries : li_Y := (yX12_carries, cX12_carries, 1, (some .int))
theorem dX12_letterOf_0 : decode cX12_letterOf 0 = .ok (.iload_n 0, 1) := by decide +kernel
theorem dX12_letterOf_1 : decode cX12_letterOf 1 = .ok (.bipush 108, 2) := by decide +kernel
theorem dX12_letterOf_3 : decode cX12_letterOf 3 = .ok (.if_icmp .ne 7, 3) := by decide +kernel
theorem dX12_letterOf_6 : decode cX12_letterOf 6 = .ok (.iconst 0, 1) := by decide +kernel
theorem dX12_letterOf_7 : decode cX12_letterOf 7 = .ok (.goto 54, 3) := by decide +kernel
theorem dX12_letterOf_10 : decode cX12_letterOf 10 = .ok (.iload_n 0, 1) := by decide +kernel
theorem dX12_letterOf_11 : decode cX12_letterOf 11 = .ok (.bipush 119, 2) := by decide +kernel
theorem dX12_letterOf_13 : decode cX12_letterOf 13 = .ok (.if_icmp .ne 7, 3) := by decide +kernel
theorem dX12_letterOf_16 : decode cX12_letterOf 16 = .ok (.iconst 1, 1) := by decide +kernel
theorem dX12_letterOf_17 : decode cX12_letterOf 17 = .ok (.goto 44, 3) := by decide +kernel
theorem dX12_letterOf_20 : decode cX12_letterOf 20 = .ok (.iload_n 0, 1) := by decide +kernel
theorem dX12_letterOf_21 : decode cX12_letterOf 21 = .ok (.bipush 115, 2) := by decide +kernel
theorem dX12_letterOf_23 : decode cX12_letterOf 23 = .ok (.if_icmp .ne 7, 3) := by decide +kernel
theorem dX12_letterOf_26 : decode cX12_letterOf 26 = .ok (.iconst 2, 1) := by decide +kernel
theorem dX12_letterOf_27 : decode cX12_letterOf 27 = .ok (.goto 34, 3) := by decide +kernel
theorem dX12_letterOf_30 : decode cX12_letterOf 30 = .ok (.iload_n 0, 1) := by decide +kernel
theorem dX12_letterOf_31 : decode cX12_letterOf 31 = .ok (.bipush 99, 2) := by decide +kernel
theorem dX12_letterOf_33 : decode cX12_letterOf 33 = .ok (.if_icmp .ne 7, 3) := by decide +kernel
theorem dX12_letterOf_36 : decode cX12_letterOf 36 = .ok (.iconst 3, 1) := by decide +kernel
theorem dX12_letterOf_37 : decode cX12_letterOf 37 = .ok (.goto 24, 3) := by decide +kernel
theorem dX12_letterOf_40 : decode cX12_letterOf 40 = .ok (.iload_n 0, 1) := by decide +kernel
theorem dX12_letterOf_41 : decode cX12_letterOf 41 = .ok (.bipush 100, 2) := by decide +kernel
theorem dX12_letterOf_43 : decode cX12_letterOf 43 = .ok (.if_icmp .ne 7, 3) := by decide +kernel
theorem dX12_letterOf_46 : decode cX12_letterOf 46 = .ok (.iconst 4, 1) := by decide +kernel
theorem dX12_letterOf_47 : decode cX12_letterOf 47 = .ok (.goto 14, 3) := by decide +kernel
theorem dX12_letterOf_50 : decode cX12_letterOf 50 = .ok (.iload_n 0, 1) := by decide +kernel
theorem dX12_letterOf_51 : decode cX12_letterOf 51 = .ok (.bipush 104, 2) := by decide +kernel
theorem dX12_letterOf_53 : decode cX12_letterOf 53 = .ok (.if_icmp .ne 7, 3) := by decide +kernel
theorem dX12_letterOf_56 : decode cX12_letterOf 56 = .ok (.iconst 5, 1) := by decide +kernel
theorem dX12_letterOf_57 : decode cX12_letterOf 57 = .ok (.goto 4, 3) := by decide +kernel
theorem dX12_letterOf_60 : decode cX12_letterOf 60 = .ok (.iconst (-1), 1) := by decide +kernel
theorem dX12_letterOf_61 : decode cX12_letterOf 61 = .ok (.ireturn, 1) := by decide +kernel
abbrev YX12_letterOf : li_Y := (yX12_letterOf, cX12_letterOf, 1, (some .int))
theorem dX12_tell_0 : decode cX12_tell 0 = .ok (.aload_n 0, 1) := by decide +kernel
theorem dX12_tell_1 : decode cX12_tell 1 = .ok (.getfield 26, 3) := by decide +kernel
theorem dX12_tell_4 : decode cX12_tell 4 = .ok (.aload_n 0, 1) := by decide +kernel
theorem dX12_tell_5 : decode cX12_tell 5 = .ok (.getfield 107, 3) := by decide +kernel
theorem dX12_tell_8 : decode cX12_tell 8 = .ok (.iload_n 1, 1) := by decide +kernel
theorem dX12_tell_9 : decode cX12_tell 9 = .ok (.iastore, 1) := by decide +kernel
theorem dX12_tell_10 : decode cX12_tell 10 = .ok (.aload_n 0, 1) := by decide +kernel
theorem dX12_tell_11 : decode cX12_tell 11 = .ok (.dup, 1) := by decide +kernel
theorem dX12_tell_12 : decode cX12_tell 12 = .ok (.getfield 107, 3) := by decide +kernel
theorem dX12_tell_15 : decode cX12_tell 15 = .ok (.iconst 1, 1) := by decide +kernel
theorem dX12_tell_16 : decode cX12_tell 16 = .ok (.iadd, 1) := by decide +kernel
theorem dX12_tell_17 : decode cX12_tell 17 = .ok (.putfield 107, 3) := by decide +kernel
theorem dX12_tell_20 : decode cX12_tell 20 = .ok (.return_, 1) := by decide +kernel
abbrev YX12_tell : li_Y := (yX12_tell, cX12_tell, 2, none)
theorem dX12_sign_0 : decode cX12_sign 0 = .ok (.aload_n 0, 1) := by decide +kernel
theorem dX12_sign_1 : decode cX12_sign 1 = .ok (.iconst 0, 1) := by decide +kernel
theorem dX12_sign_2 : decode cX12_sign 2 = .ok (.putfield 103, 3) := by decide +kernel
theorem dX12_sign_5 : decode cX12_sign 5 = .ok (.aload_n 0, 1) := by decide +kernel
theorem dX12_sign_6 : decode cX12_sign 6 = .ok (.getfield 124, 3) := by decide +kernel
theorem dX12_sign_9 : decode cX12_sign 9 = .ok (.iconst 4, 1) := by decide +kernel
theorem dX12_sign_10 : decode cX12_sign 10 = .ok (.iadd, 1) := by decide +kernel
theorem dX12_sign_11 : decode cX12_sign 11 = .ok (.bipush 80, 2) := by decide +kernel
theorem dX12_sign_13 : decode cX12_sign 13 = .ok (.if_icmp .le 5, 3) := by decide +kernel
theorem dX12_sign_16 : decode cX12_sign 16 = .ok (.iconst (-1), 1) := by decide +kernel
theorem dX12_sign_17 : decode cX12_sign 17 = .ok (.ireturn, 1) := by decide +kernel
theorem dX12_sign_18 : decode cX12_sign 18 = .ok (.iconst 3, 1) := by decide +kernel
theorem dX12_sign_19 : decode cX12_sign 19 = .ok (.istore_n 2, 1) := by decide +kernel
theorem dX12_sign_20 : decode cX12_sign 20 = .ok (.iload_n 2, 1) := by decide +kernel
theorem dX12_sign_21 : decode cX12_sign 21 = .ok (.ifCond .lt 32, 3) := by decide +kernel
theorem dX12_sign_24 : decode cX12_sign 24 = .ok (.aload_n 0, 1) := by decide +kernel
theorem dX12_sign_25 : decode cX12_sign 25 = .ok (.getfield 22, 3) := by decide +kernel
theorem dX12_sign_28 : decode cX12_sign 28 = .ok (.aload_n 0, 1) := by decide +kernel
theorem dX12_sign_29 : decode cX12_sign 29 = .ok (.dup, 1) := by decide +kernel
theorem dX12_sign_30 : decode cX12_sign 30 = .ok (.getfield 124, 3) := by decide +kernel
theorem dX12_sign_33 : decode cX12_sign 33 = .ok (.dup_x1, 1) := by decide +kernel
theorem dX12_sign_34 : decode cX12_sign 34 = .ok (.iconst 1, 1) := by decide +kernel
theorem dX12_sign_35 : decode cX12_sign 35 = .ok (.iadd, 1) := by decide +kernel
theorem dX12_sign_36 : decode cX12_sign 36 = .ok (.putfield 124, 3) := by decide +kernel
theorem dX12_sign_39 : decode cX12_sign 39 = .ok (.iload_n 1, 1) := by decide +kernel
theorem dX12_sign_40 : decode cX12_sign 40 = .ok (.bipush 8, 2) := by decide +kernel
theorem dX12_sign_42 : decode cX12_sign 42 = .ok (.iload_n 2, 1) := by decide +kernel
theorem dX12_sign_43 : decode cX12_sign 43 = .ok (.imul, 1) := by decide +kernel
theorem dX12_sign_44 : decode cX12_sign 44 = .ok (.ishr, 1) := by decide +kernel
theorem dX12_sign_45 : decode cX12_sign 45 = .ok (.i2b, 1) := by decide +kernel
theorem dX12_sign_46 : decode cX12_sign 46 = .ok (.bastore, 1) := by decide +kernel
theorem dX12_sign_47 : decode cX12_sign 47 = .ok (.iinc 2 (-1), 3) := by decide +kernel
theorem dX12_sign_50 : decode cX12_sign 50 = .ok (.goto (-30), 3) := by decide +kernel
theorem dX12_sign_53 : decode cX12_sign 53 = .ok (.aload_n 0, 1) := by decide +kernel
theorem dX12_sign_54 : decode cX12_sign 54 = .ok (.getfield 124, 3) := by decide +kernel
theorem dX12_sign_57 : decode cX12_sign 57 = .ok (.ireturn, 1) := by decide +kernel
abbrev YX12_sign : li_Y := (yX12_sign, cX12_sign, 3, (some .int))
theorem dX12_end_0 : decode cX12_end 0 = .ok (.aload_n 0, 1) := by decide +kernel
theorem dX12_end_1 : decode cX12_end 1 = .ok (.iconst 0, 1) := by decide +kernel
theorem dX12_end_2 : decode cX12_end 2 = .ok (.putfield 103, 3) := by decide +kernel
theorem dX12_end_5 : decode cX12_end 5 = .ok (.iload_n 1, 1) := by decide +kernel
theorem dX12_end_6 : decode cX12_end 6 = .ok (.iconst 0, 1) := by decide +kernel
theorem dX12_end_7 : decode cX12_end 7 = .ok (.aload_n 0, 1) := by decide +kernel
theorem dX12_end_8 : decode cX12_end 8 = .ok (.getfield 124, 3) := by decide +kernel
theorem dX12_end_11 : decode cX12_end 11 = .ok (.invokestatic 113, 3) := by decide +kernel
theorem dX12_end_14 : decode cX12_end 14 = .ok (.ifCond .ne 5, 3) := by decide +kernel
theorem dX12_end_17 : decode cX12_end 17 = .ok (.iconst 0, 1) := by decide +kernel
theorem dX12_end_18 : decode cX12_end 18 = .ok (.ireturn, 1) := by decide +kernel
theorem dX12_end_19 : decode cX12_end 19 = .ok (.aload_n 0, 1) := by decide +kernel
theorem dX12_end_20 : decode cX12_end 20 = .ok (.iload_n 1, 1) := by decide +kernel
theorem dX12_end_21 : decode cX12_end 21 = .ok (.putfield 124, 3) := by decide +kernel
theorem dX12_end_24 : decode cX12_end 24 = .ok (.iconst 1, 1) := by decide +kernel
theorem dX12_end_25 : decode cX12_end 25 = .ok (.ireturn, 1) := by decide +kernel
abbrev YX12_end : li_Y := (yX12_end, cX12_end, 2, (some .boolean))
theorem dX12_apart_0 : decode cX12_apart 0 = .ok (.aload_n 0, 1) := by decide +kernel
theorem dX12_apart_1 : decode cX12_apart 1 = .ok (.getfield 13, 3) := by decide +kernel
theorem dX12_apart_4 : decode cX12_apart 4 = .ok (.iload_n 1, 1) := by decide +kernel
theorem dX12_apart_5 : decode cX12_apart 5 = .ok (.iaload, 1) := by decide +kernel
theorem dX12_apart_6 : decode cX12_apart 6 = .ok (.aload_n 0, 1) := by decide +kernel
theorem dX12_apart_7 : decode cX12_apart 7 = .ok (.getfield 13, 3) := by decide +kernel
theorem dX12_apart_10 : decode cX12_apart 10 = .ok (.iload_n 2, 1) := by decide +kernel
theorem dX12_apart_11 : decode cX12_apart 11 = .ok (.iaload, 1) := by decide +kernel
theorem dX12_apart_12 : decode cX12_apart 12 = .ok (.isub, 1) := by decide +kernel
theorem dX12_apart_13 : decode cX12_apart 13 = .ok (.invokestatic 211, 3) := by decide +kernel
theorem dX12_apart_16 : decode cX12_apart 16 = .ok (.ireturn, 1) := by decide +kernel
abbrev YX12_apart : li_Y := (yX12_apart, cX12_apart, 3, (some .int))
theorem dX12_hears_0 : decode cX12_hears 0 = .ok (.iconst 0, 1) := by decide +kernel
theorem dX12_hears_1 : decode cX12_hears 1 = .ok (.istore_n 3, 1) := by decide +kernel
theorem dX12_hears_2 : decode cX12_hears 2 = .ok (.iconst 0, 1) := by decide +kernel
theorem dX12_hears_3 : decode cX12_hears 3 = .ok (.istore 4, 2) := by decide +kernel
theorem dX12_hears_5 : decode cX12_hears 5 = .ok (.iload 4, 2) := by decide +kernel
theorem dX12_hears_7 : decode cX12_hears 7 = .ok (.aload_n 0, 1) := by decide +kernel
theorem dX12_hears_8 : decode cX12_hears 8 = .ok (.getfield 110, 3) := by decide +kernel
theorem dX12_hears_11 : decode cX12_hears 11 = .ok (.if_icmp .ge 40, 3) := by decide +kernel
theorem dX12_hears_14 : decode cX12_hears 14 = .ok (.iload_n 3, 1) := by decide +kernel
theorem dX12_hears_15 : decode cX12_hears 15 = .ok (.iload 4, 2) := by decide +kernel
theorem dX12_hears_17 : decode cX12_hears 17 = .ok (.iload_n 1, 1) := by decide +kernel
theorem dX12_hears_18 : decode cX12_hears 18 = .ok (.if_icmp .eq 24, 3) := by decide +kernel
theorem dX12_hears_21 : decode cX12_hears 21 = .ok (.aload_n 0, 1) := by decide +kernel
theorem dX12_hears_22 : decode cX12_hears 22 = .ok (.iload_n 1, 1) := by decide +kernel
theorem dX12_hears_23 : decode cX12_hears 23 = .ok (.iload 4, 2) := by decide +kernel
theorem dX12_hears_25 : decode cX12_hears 25 = .ok (.invokevirtual 214, 3) := by decide +kernel
theorem dX12_hears_28 : decode cX12_hears 28 = .ok (.iload_n 2, 1) := by decide +kernel
theorem dX12_hears_29 : decode cX12_hears 29 = .ok (.invokestatic 217, 3) := by decide +kernel
theorem dX12_hears_32 : decode cX12_hears 32 = .ok (.if_icmp .gt 10, 3) := by decide +kernel
theorem dX12_hears_35 : decode cX12_hears 35 = .ok (.iconst 1, 1) := by decide +kernel
theorem dX12_hears_36 : decode cX12_hears 36 = .ok (.iload 4, 2) := by decide +kernel
theorem dX12_hears_38 : decode cX12_hears 38 = .ok (.ishl, 1) := by decide +kernel
theorem dX12_hears_39 : decode cX12_hears 39 = .ok (.goto 4, 3) := by decide +kernel
theorem dX12_hears_42 : decode cX12_hears 42 = .ok (.iconst 0, 1) := by decide +kernel
theorem dX12_hears_43 : decode cX12_hears 43 = .ok (.ior, 1) := by decide +kernel
theorem dX12_hears_44 : decode cX12_hears 44 = .ok (.istore_n 3, 1) := by decide +kernel
theorem dX12_hears_45 : decode cX12_hears 45 = .ok (.iinc 4 1, 3) := by decide +kernel
theorem dX12_hears_48 : decode cX12_hears 48 = .ok (.goto (-43), 3) := by decide +kernel
theorem dX12_hears_51 : decode cX12_hears 51 = .ok (.iload_n 3, 1) := by decide +kernel
theorem dX12_hears_52 : decode cX12_hears 52 = .ok (.ireturn, 1) := by decide +kernel
abbrev YX12_hears : li_Y := (yX12_hears, cX12_hears, 5, (some .int))
theorem dX12_field_0 : decode cX12_field 0 = .ok (.aload_n 0, 1) := by decide +kernel
theorem dX12_field_1 : decode cX12_field 1 = .ok (.getfield 19, 3) := by decide +kernel
theorem dX12_field_4 : decode cX12_field 4 = .ok (.iconst 5, 1) := by decide +kernel
theorem dX12_field_5 : decode cX12_field 5 = .ok (.iload_n 1, 1) := by decide +kernel
theorem dX12_field_6 : decode cX12_field 6 = .ok (.imul, 1) := by decide +kernel
theorem dX12_field_7 : decode cX12_field 7 = .ok (.iload_n 2, 1) := by decide +kernel
theorem dX12_field_8 : decode cX12_field 8 = .ok (.iadd, 1) := by decide +kernel
theorem dX12_field_9 : decode cX12_field 9 = .ok (.iaload, 1) := by decide +kernel
theorem dX12_field_10 : decode cX12_field 10 = .ok (.ireturn, 1) := by decide +kernel
abbrev YX12_field : li_Y := (yX12_field, cX12_field, 3, (some .int))
theorem dX12_isHeard_0 : decode cX12_isHeard 0 = .ok (.aload_n 0, 1) := by decide +kernel
theorem dX12_isHeard_1 : decode cX12_isHeard 1 = .ok (.aload_n 0, 1) := by decide +kernel
theorem dX12_isHeard_2 : decode cX12_isHeard 2 = .ok (.iload_n 1, 1) := by decide +kernel
theorem dX12_isHeard_3 : decode cX12_isHeard 3 = .ok (.iconst 0, 1) := by decide +kernel
theorem dX12_isHeard_4 : decode cX12_isHeard 4 = .ok (.invokevirtual 220, 3) := by decide +kernel
theorem dX12_isHeard_7 : decode cX12_isHeard 7 = .ok (.aload_n 0, 1) := by decide +kernel
theorem dX12_isHeard_8 : decode cX12_isHeard 8 = .ok (.iload_n 1, 1) := by decide +kernel
theorem dX12_isHeard_9 : decode cX12_isHeard 9 = .ok (.iconst 1, 1) := by decide +kernel
theorem dX12_isHeard_10 : decode cX12_isHeard 10 = .ok (.invokevirtual 220, 3) := by decide +kernel
theorem dX12_isHeard_13 : decode cX12_isHeard 13 = .ok (.invokevirtual 214, 3) := by decide +kernel
theorem dX12_isHeard_16 : decode cX12_isHeard 16 = .ok (.iload_n 2, 1) := by decide +kernel
theorem dX12_isHeard_17 : decode cX12_isHeard 17 = .ok (.invokestatic 217, 3) := by decide +kernel
theorem dX12_isHeard_20 : decode cX12_isHeard 20 = .ok (.if_icmp .gt 7, 3) := by decide +kernel
theorem dX12_isHeard_23 : decode cX12_isHeard 23 = .ok (.iconst 1, 1) := by decide +kernel
theorem dX12_isHeard_24 : decode cX12_isHeard 24 = .ok (.goto 4, 3) := by decide +kernel
theorem dX12_isHeard_27 : decode cX12_isHeard 27 = .ok (.iconst 0, 1) := by decide +kernel
theorem dX12_isHeard_28 : decode cX12_isHeard 28 = .ok (.ireturn, 1) := by decide +kernel
abbrev YX12_isHeard : li_Y := (yX12_isHeard, cX12_isHeard, 3, (some .boolean))
set_option maxRecDepth 100000 in
set_option maxHeartbeats 4000000 in
theorem k_X12_carries {l : Launch} {Z : li_Z} (d : Nat) (hd : 1 ≤ d) (p1 : Int32) (M0 : li_M) (hJ : li_J M0) : li_Met l Z YX12_carries d [.int p1] M0 (fun r M' => (∃ x : Int32, r = some (.int x)) ∧ li_fs (fun i k => False) M0 M' ∧ li_J M') := by
  refine li_enter (by decide +kernel) (Nat.le_of_ble_eq_true rfl) ?_
  show li_T l Z YX12_carries d 0 [(0, .int p1)] [] M0 _
  have hf : li_fs (fun i k => False) M0 M0 := li_fs_refl
  have gp1 := tl_rg p1
  refine li_iload_n 0 dX12_carries_0 rfl ?_
  refine li_if_ne 8 dX12_carries_1 (by decide) (fun c1 => ?_) (fun c1 => ?_)
  · have tc1 : ¬ p1.toInt = 0 := tl_ne c1
    refine li_iload_n 0 dX12_carries_8 rfl ?_
    refine li_iconst 1 dX12_carries_9 (by decide) ?_
    refine li_icmp_ne 17 dX12_carries_10 (by decide) (fun c2 => ?_) (fun c2 => ?_)
    · have tc2 : ¬ p1.toInt = 1 := tl_ne c2
      refine li_iload_n 0 dX12_carries_17 rfl ?_
      refine li_iconst 2 dX12_carries_18 (by decide) ?_
      refine li_icmp_ne 27 dX12_carries_19 (by decide) (fun c3 => ?_) (fun c3 => ?_)
      · have tc3 : ¬ p1.toInt = 2 := tl_ne c3
        refine li_bipush 99 dX12_carries_27 (by decide) ?_
        have z99 : (99 : Int32).toInt = 99 := rfl
        exact li_iret dX12_carries_29 rfl rfl ⟨⟨_, rfl⟩, hf, hJ⟩
      · have tc3 : p1.toInt = 2 := tl_eq c3
        refine li_bipush 9 dX12_carries_22 (by decide) ?_
        refine li_goto 29 dX12_carries_24 (by decide) ?_
        have z9 : (9 : Int32).toInt = 9 := rfl
        exact li_iret dX12_carries_29 rfl rfl ⟨⟨_, rfl⟩, hf, hJ⟩
    · have tc2 : p1.toInt = 1 := tl_eq c2
      refine li_iconst 3 dX12_carries_13 (by decide) ?_
      refine li_goto 29 dX12_carries_14 (by decide) ?_
      have z3 : (3 : Int32).toInt = 3 := rfl
      exact li_iret dX12_carries_29 rfl rfl ⟨⟨_, rfl⟩, hf, hJ⟩
  · have tc1 : p1.toInt = 0 := tl_eq c1
    refine li_iconst 1 dX12_carries_4 (by decide) ?_
    refine li_goto 29 dX12_carries_5 (by decide) ?_
    have z1 : (1 : Int32).toInt = 1 := rfl
    exact li_iret dX12_carries_29 rfl rfl ⟨⟨_, rfl⟩, hf, hJ⟩
set_option maxRecDepth 100000 in
set_option maxHeartbeats 4000000 in
theorem k_X12_letterOf {l : Launch} {Z : li_Z} (d : Nat) (hd : 1 ≤ d) (p1 : Int32) (M0 : li_M) (hJ : li_J M0) : li_Met l Z YX12_letterOf d [.int p1] M0 (fun r M' => (∃ x : Int32, r = some (.int x) ∧ (-1 ≤ x.toInt ∧ x.toInt ≤ 5 ∧ (x.toInt = -1 ∨ 97 ≤ p1.toInt) ∧ x.toInt = li_lt p1.toInt)) ∧ li_fs (fun i k => False) M0 M' ∧ li_J M') := by
  refine li_enter (by decide +kernel) (Nat.le_of_ble_eq_true rfl) ?_
  show li_T l Z YX12_letterOf d 0 [(0, .int p1)] [] M0 _
  have hf : li_fs (fun i k => False) M0 M0 := li_fs_refl
  have gp1 := tl_rg p1
  refine li_iload_n 0 dX12_letterOf_0 rfl ?_
  refine li_bipush 108 dX12_letterOf_1 (by decide) ?_
  refine li_icmp_ne 10 dX12_letterOf_3 (by decide) (fun c1 => ?_) (fun c1 => ?_)
  · have tc1 : ¬ p1.toInt = 108 := tl_ne c1
    refine li_iload_n 0 dX12_letterOf_10 rfl ?_
    refine li_bipush 119 dX12_letterOf_11 (by decide) ?_
    refine li_icmp_ne 20 dX12_letterOf_13 (by decide) (fun c2 => ?_) (fun c2 => ?_)
    · have tc2 : ¬ p1.toInt = 119 := tl_ne c2
      refine li_iload_n 0 dX12_letterOf_20 rfl ?_
      refine li_bipush 115 dX12_letterOf_21 (by decide) ?_
      refine li_icmp_ne 30 dX12_letterOf_23 (by decide) (fun c3 => ?_) (fun c3 => ?_)
      · have tc3 : ¬ p1.toInt = 115 := tl_ne c3
        refine li_iload_n 0 dX12_letterOf_30 rfl ?_
        refine li_bipush 99 dX12_letterOf_31 (by decide) ?_
        refine li_icmp_ne 40 dX12_letterOf_33 (by decide) (fun c4 => ?_) (fun c4 => ?_)
        · have tc4 : ¬ p1.toInt = 99 := tl_ne c4
          refine li_iload_n 0 dX12_letterOf_40 rfl ?_
          refine li_bipush 100 dX12_letterOf_41 (by decide) ?_
          refine li_icmp_ne 50 dX12_letterOf_43 (by decide) (fun c5 => ?_) (fun c5 => ?_)
          · have tc5 : ¬ p1.toInt = 100 := tl_ne c5
            refine li_iload_n 0 dX12_letterOf_50 rfl ?_
            refine li_bipush 104 dX12_letterOf_51 (by decide) ?_
            refine li_icmp_ne 60 dX12_letterOf_53 (by decide) (fun c6 => ?_) (fun c6 => ?_)
            · have tc6 : ¬ p1.toInt = 104 := tl_ne c6
              refine li_iconst (-1) dX12_letterOf_60 (by decide) ?_
              have zm1 : ((-1) : Int32).toInt = -1 := rfl
              exact li_iret dX12_letterOf_61 rfl rfl ⟨⟨_, rfl, (by refine ⟨by omega, by omega, by omega, ?_⟩; unfold li_lt; repeat' split; all_goals omega)⟩, hf, hJ⟩
            · have tc6 : p1.toInt = 104 := tl_eq c6
              refine li_iconst 5 dX12_letterOf_56 (by decide) ?_
              refine li_goto 61 dX12_letterOf_57 (by decide) ?_
              have z5 : (5 : Int32).toInt = 5 := rfl
              exact li_iret dX12_letterOf_61 rfl rfl ⟨⟨_, rfl, (by refine ⟨by omega, by omega, by omega, ?_⟩; unfold li_lt; repeat' split; all_goals omega)⟩, hf, hJ⟩
          · have tc5 : p1.toInt = 100 := tl_eq c5
            refine li_iconst 4 dX12_letterOf_46 (by decide) ?_
            refine li_goto 61 dX12_letterOf_47 (by decide) ?_
            have z4 : (4 : Int32).toInt = 4 := rfl
            exact li_iret dX12_letterOf_61 rfl rfl ⟨⟨_, rfl, (by refine ⟨by omega, by omega, by omega, ?_⟩; unfold li_lt; repeat' split; all_goals omega)⟩, hf, hJ⟩
        · have tc4 : p1.toInt = 99 := tl_eq c4
          refine li_iconst 3 dX12_letterOf_36 (by decide) ?_
          refine li_goto 61 dX12_letterOf_37 (by decide) ?_
          have z3 : (3 : Int32).toInt = 3 := rfl
          exact li_iret dX12_letterOf_61 rfl rfl ⟨⟨_, rfl, (by refine ⟨by omega, by omega, by omega, ?_⟩; unfold li_lt; repeat' split; all_goals omega)⟩, hf, hJ⟩
      · have tc3 : p1.toInt = 115 := tl_eq c3
        refine li_iconst 2 dX12_letterOf_26 (by decide) ?_
        refine li_goto 61 dX12_letterOf_27 (by decide) ?_
        have z2 : (2 : Int32).toInt = 2 := rfl
        exact li_iret dX12_letterOf_61 rfl rfl ⟨⟨_, rfl, (by refine ⟨by omega, by omega, by omega, ?_⟩; unfold li_lt; repeat' split; all_goals omega)⟩, hf, hJ⟩
    · have tc2 : p1.toInt = 119 := tl_eq c2
      refine li_iconst 1 dX12_letterOf_16 (by decide) ?_
      refine li_goto 61 dX12_letterOf_17 (by decide) ?_
      have z1 : (1 : Int32).toInt = 1 := rfl
      exact li_iret dX12_letterOf_61 rfl rfl ⟨⟨_, rfl, (by refine ⟨by omega, by omega, by omega, ?_⟩; unfold li_lt; repeat' split; all_goals omega)⟩, hf, hJ⟩
  · have tc1 : p1.toInt = 108 := tl_eq c1
    refine li_iconst 0 dX12_letterOf_6 (by decide) ?_
    refine li_goto 61 dX12_letterOf_7 (by decide) ?_
    have z0 : (0 : Int32).toInt = 0 := rfl
    exact li_iret dX12_letterOf_61 rfl rfl ⟨⟨_, rfl, (by refine ⟨by omega, by omega, by omega, ?_⟩; unfold li_lt; repeat' split; all_goals omega)⟩, hf, hJ⟩
set_option maxRecDepth 100000 in
set_option maxHeartbeats 4000000 in
theorem k_X12_tell {l : Launch} {Z : li_Z} (d : Nat) (hd : 1 ≤ d) (p1 : Int32) (M0 : li_M) (hJ : li_J M0) (h1 : (M0.1 175 9).toInt ≤ 19) : li_Met l Z YX12_tell d [.ref (Z.2.2 175), .int p1] M0 (fun r M' => r = none ∧ li_fs (fun i k => i = 181 ∨ (i = 175 ∧ k = 9)) M0 M' ∧ li_J M' ∧ ((M'.1 175 9).toInt = (M0.1 175 9).toInt + 1)) := by
  refine li_enter (by decide +kernel) (Nat.le_of_ble_eq_true rfl) ?_
  show li_T l Z YX12_tell d 0 [(0, .ref (Z.2.2 175)), (1, .int p1)] [] M0 _
  have hf : li_fs (fun i k => i = 181 ∨ (i = 175 ∧ k = 9)) M0 M0 := li_fs_refl
  have gp1 := tl_rg p1
  have rM0_9 := J_sl9 (M := M0) hJ
  refine li_aload_n 0 dX12_tell_0 rfl ?_
  refine li_getr (k := 8) (N := 52) (T := TX12) (C0 := RX12) dX12_tell_1 (by decide) sh_175 rfl rfl (by decide) (by decide) li_in12 w_1412 ?_
  refine li_aload_n 0 dX12_tell_4 rfl ?_
  refine li_geti (k := 9) (N := 52) (T := TX12) (C0 := RX12) dX12_tell_5 (by decide) sh_175 rfl rfl (by decide) li_in12 w_1413 ?_
  refine li_top (fun x1 ex1 => ?_)
  have gx1 : 0 ≤ x1.toInt ∧ x1.toInt ≤ 20 := by rw [ex1]; exact J_sl9 hJ
  have mx1 : x1.toInt = (M0.1 175 9).toInt := tl_slot ex1
  refine li_iload_n 1 dX12_tell_8 rfl ?_
  refine li_iast dX12_tell_9 (by decide) sh_181 (tl_in (by omega)) ?_
  refine li_nm (fun M2 eM2 => ?_)
  have hf := li_fs_ui hf (Or.inl rfl) eM2
  have hJ := hJ.st (by decide) (li_el_free (by unfold li_led; omega) (by decide) (by decide) (by unfold li_rq; omega)) eM2
  have rM2_9 := J_sl9 (M := M2) hJ
  have mM2_9 : (M2.1 175 9).toInt = (M0.1 175 9).toInt := by rw [eM2, li_ui_at, if_neg (by decide)]
  refine li_aload_n 0 dX12_tell_10 rfl ?_
  refine li_dup dX12_tell_11 rfl ?_
  refine li_geti (k := 9) (N := 52) (T := TX12) (C0 := RX12) dX12_tell_12 (by decide) sh_175 rfl rfl (by decide) li_in12 w_1413 ?_
  refine li_top (fun x3 ex3 => ?_)
  have gx3 : 0 ≤ x3.toInt ∧ x3.toInt ≤ 20 := by rw [ex3]; exact J_sl9 hJ
  have mx3 : x3.toInt = (M2.1 175 9).toInt := tl_slot ex3
  refine li_iconst 1 dX12_tell_15 (by decide) ?_
  refine li_iadd dX12_tell_16 ?_
  refine li_top (fun x4 ex4 => ?_)
  have z1 : (1 : Int32).toInt = 1 := rfl
  try (have tx4 : x4.toInt = (x3 : Int32).toInt + (1 : Int32).toInt := tl_add ex4 (by omega))
  refine li_puti (k := 9) (N := 52) (T := TX12) (C0 := RX12) dX12_tell_17 (by decide) sh_175 rfl rfl (by decide) li_in12 tyX12_ok nmX12 rfl rfl rfl rfl w_1413 ?_
  refine li_nm (fun M5 eM5 => ?_)
  have hf := li_fs_ui hf (Or.inr (⟨rfl, rfl⟩)) eM5
  have hJ := J_pt9 hJ (show 0 ≤ (x4 : Int32).toInt ∧ (x4 : Int32).toInt ≤ 20 by omega) eM5
  have rM5_9 := J_sl9 (M := M5) hJ
  have mM5_9 : (M5.1 175 9).toInt = x4.toInt := by rw [eM5, li_ui_at, if_pos rfl, if_pos rfl]
  exact li_vret dX12_tell_20 rfl ⟨rfl, hf, hJ, (by first | omega | (intro _; omega) | (refine ⟨?_, ?_⟩ <;> first | omega | (intro _; omega)) | (refine ⟨?_, ?_, ?_, ?_⟩ <;> first | omega | (intro _; omega)))⟩
set_option maxRecDepth 100000 in
set_option maxHeartbeats 4000000 in
theorem k_X12_end {l : Launch} {Z : li_Z} (d : Nat) (hd : 2 ≤ d) (p1 : Int32) (M0 : li_M) (hJ : li_J M0) : li_Met l Z YX12_end d [.ref (Z.2.2 175), .int p1] M0 (fun r M' => ((r = some (.int 1) ∧ (0 ≤ p1.toInt ∧ p1.toInt ≤ (M0.1 175 7).toInt ∧ (M'.1 175 7).toInt = p1.toInt)) ∨ (r = some (.int 0) ∧ ((p1.toInt < 0 ∨ (M0.1 175 7).toInt < p1.toInt) ∧ (M'.1 175 7).toInt = (M0.1 175 7).toInt))) ∧ li_fs (fun i k => (i = 175 ∧ k = 10) ∨ (i = 175 ∧ k = 7)) M0 M' ∧ li_J M') := by
  refine li_enter (by decide +kernel) (Nat.le_of_ble_eq_true rfl) ?_
  show li_T l Z YX12_end d 0 [(0, .ref (Z.2.2 175)), (1, .int p1)] [] M0 _
  have hf : li_fs (fun i k => (i = 175 ∧ k = 10) ∨ (i = 175 ∧ k = 7)) M0 M0 := li_fs_refl
  have gp1 := tl_rg p1
  have rM0_7 := J_sl7 (M := M0) hJ
  refine li_aload_n 0 dX12_end_0 rfl ?_
  refine li_iconst 0 dX12_end_1 (by decide) ?_
  refine li_puti (k := 10) (N := 52) (T := TX12) (C0 := RX12) dX12_end_2 (by decide) sh_175 rfl rfl (by decide) li_in12 tyX12_ok nmX12 rfl rfl rfl rfl w_1414 ?_
  refine li_nm (fun M1 eM1 => ?_)
  have hf := li_fs_ui hf (Or.inl ⟨rfl, rfl⟩) eM1
  have z0 : (0 : Int32).toInt = 0 := rfl
  have hJ := hJ.put (k := 10) (by decide) (rg_free rfl) eM1
  have rM1_7 := J_sl7 (M := M1) hJ
  have mM1_7 : (M1.1 175 7).toInt = (M0.1 175 7).toInt := by rw [eM1, li_ui_at, if_pos rfl, if_neg (by decide)]
  refine li_iload_n 1 dX12_end_5 rfl ?_
  refine li_iconst 0 dX12_end_6 (by decide) ?_
  refine li_aload_n 0 dX12_end_7 rfl ?_
  refine li_geti (k := 7) (N := 52) (T := TX12) (C0 := RX12) dX12_end_8 (by decide) sh_175 rfl rfl (by decide) li_in12 w_1411 ?_
  refine li_top (fun x2 ex2 => ?_)
  have gx2 : 0 ≤ x2.toInt ∧ x2.toInt ≤ 80 := by rw [ex2]; exact J_sl7 hJ
  have mx2 : x2.toInt = (M1.1 175 7).toInt := tl_slot ex2
  have z0 : (0 : Int32).toInt = 0 := rfl
  refine li_callS (n := 3) (As := [.int p1, .int 0, .int x2]) dX12_end_11 (k_X12_in (d - 1) (by omega) p1 0 x2 M1 hJ ) (by omega) (Nat.le_of_ble_eq_true rfl) w_1570 w_1571 w_112 w_1572 (by decide +kernel) rfl rfl (Nat.le_of_ble_eq_true rfl) (fun r M4 h5 => ?_)
  obtain ⟨qx3, h5, jM4⟩ := h5
  have hf := li_fs_trans hf h5 (fun i k h => False.elim h)
  have hJ := jM4
  have rM4_7 := J_sl7 (M := M4) hJ
  have mM4_7 : (M4.1 175 7).toInt = (M1.1 175 7).toInt := tl_slot (h5.1 175 7 id)
  rcases qx3 with ⟨rfl, qx3⟩ | ⟨rfl, qx3⟩
  · skip
    refine li_if_ne 19 dX12_end_14 (by decide) (fun c => ?_) (fun c => absurd c (by decide))
    refine li_aload_n 0 dX12_end_19 rfl ?_
    refine li_iload_n 1 dX12_end_20 rfl ?_
    refine li_puti (k := 7) (N := 52) (T := TX12) (C0 := RX12) dX12_end_21 (by decide) sh_175 rfl rfl (by decide) li_in12 tyX12_ok nmX12 rfl rfl rfl rfl w_1411 ?_
    refine li_nm (fun M7 eM7 => ?_)
    have hf := li_fs_ui hf (Or.inr (⟨rfl, rfl⟩)) eM7
    have hJ := J_pt7 hJ (show 0 ≤ (p1 : Int32).toInt ∧ (p1 : Int32).toInt ≤ 80 by omega) eM7
    have rM7_7 := J_sl7 (M := M7) hJ
    have mM7_7 : (M7.1 175 7).toInt = p1.toInt := by rw [eM7, li_ui_at, if_pos rfl, if_pos rfl]
    refine li_iconst 1 dX12_end_24 (by decide) ?_
    have z1 : (1 : Int32).toInt = 1 := rfl
    exact li_iret dX12_end_25 rfl (li_nz (Or.inr rfl)) ⟨Or.inl ⟨rfl, (by omega)⟩, hf, hJ⟩
  · skip
    refine li_if_ne 19 dX12_end_14 (by decide) (fun c => absurd rfl c) (fun c => ?_)
    refine li_iconst 0 dX12_end_17 (by decide) ?_
    have z0 : (0 : Int32).toInt = 0 := rfl
    exact li_iret dX12_end_18 rfl (li_nz (Or.inl rfl)) ⟨Or.inr ⟨rfl, (by omega)⟩, hf, hJ⟩
set_option maxRecDepth 100000 in
set_option maxHeartbeats 4000000 in
theorem k_X12_apart {l : Launch} {Z : li_Z} (d : Nat) (hd : 1 ≤ d) (p1 p2 : Int32) (M0 : li_M) (hJ : li_J M0) (h1 : 0 ≤ p1.toInt ∧ p1.toInt ≤ 5) (h2 : 0 ≤ p2.toInt ∧ p2.toInt ≤ 5) : li_Met l Z YX12_apart d [.ref (Z.2.2 175), .int p1, .int p2] M0 (fun r M' => (∃ x : Int32, r = some (.int x)) ∧ li_fs (fun i k => False) M0 M' ∧ li_J M') := by
  refine li_enter (by decide +kernel) (Nat.le_of_ble_eq_true rfl) ?_
  show li_T l Z YX12_apart d 0 [(0, .ref (Z.2.2 175)), (1, .int p1), (2, .int p2)] [] M0 _
  have hf : li_fs (fun i k => False) M0 M0 := li_fs_refl
  have gp1 := tl_rg p1
  have gp2 := tl_rg p2
  refine li_aload_n 0 dX12_apart_0 rfl ?_
  refine li_getr (k := 2) (N := 52) (T := TX12) (C0 := RX12) dX12_apart_1 (by decide) sh_175 rfl rfl (by decide) (by decide) li_in12 w_1406 ?_
  refine li_iload_n 1 dX12_apart_4 rfl ?_
  refine li_iald dX12_apart_5 (by decide) sh_177 (tl_in (by omega)) ?_
  refine li_top (fun x1 ex1 => ?_)
  have gx1 := tl_rg x1
  refine li_aload_n 0 dX12_apart_6 rfl ?_
  refine li_getr (k := 2) (N := 52) (T := TX12) (C0 := RX12) dX12_apart_7 (by decide) sh_175 rfl rfl (by decide) (by decide) li_in12 w_1406 ?_
  refine li_iload_n 2 dX12_apart_10 rfl ?_
  refine li_iald dX12_apart_11 (by decide) sh_177 (tl_in (by omega)) ?_
  refine li_top (fun x2 ex2 => ?_)
  have gx2 := tl_rg x2
  refine li_isub dX12_apart_12 ?_
  refine li_top (fun x3 ex3 => ?_)
  try (have tx3 : x3.toInt = (x1 : Int32).toInt - (x2 : Int32).toInt := tl_sub ex3 (by omega))
  refine li_mabs dX12_apart_13 (by omega) w_1676 w_802 w_113 w_803 (Nat.le_of_ble_eq_true rfl) ?_
  refine li_top (fun x4 ex4 => ?_)
  have gx4 := tl_rg x4
  exact li_iret dX12_apart_16 rfl rfl ⟨⟨_, rfl⟩, hf, hJ⟩
set_option maxRecDepth 100000 in
set_option maxHeartbeats 4000000 in
theorem k_X12_hears {l : Launch} {Z : li_Z} (d : Nat) (hd : 2 ≤ d) (p1 p2 : Int32) (M0 : li_M) (hJ : li_J M0) (h1 : 0 ≤ p1.toInt ∧ p1.toInt ≤ 5) : li_Met l Z YX12_hears d [.ref (Z.2.2 175), .int p1, .int p2] M0 (fun r M' => (∃ x : Int32, r = some (.int x)) ∧ li_fs (fun i k => False) M0 M' ∧ li_J M') := by
  refine li_enter (by decide +kernel) (Nat.le_of_ble_eq_true rfl) ?_
  show li_T l Z YX12_hears d 0 [(0, .ref (Z.2.2 175)), (1, .int p1), (2, .int p2)] [] M0 _
  have hf : li_fs (fun i k => False) M0 M0 := li_fs_refl
  have gp1 := tl_rg p1
  have gp2 := tl_rg p2
  refine li_iconst 0 dX12_hears_0 (by decide) ?_
  refine li_istore_n [(3, .int 0), (0, .ref (Z.2.2 175)), (1, .int p1), (2, .int p2)] dX12_hears_1 (by decide) rfl ?_
  refine li_iconst 0 dX12_hears_2 (by decide) ?_
  refine li_istore [(4, .int 0), (3, .int 0), (0, .ref (Z.2.2 175)), (1, .int p1), (2, .int p2)] dX12_hears_3 (by decide) rfl ?_
  have L5 : ∀ (n : Nat) (x1 : Int32) (x2 : Int32) (M3 : li_M), (6 - (x1 : Int32).toInt).toNat < n → li_fs (fun i k => False) M0 M3 → li_J M3 → 0 ≤ (x1 : Int32).toInt → li_T l Z YX12_hears d 5 [(4, .int x1), (3, .int x2), (0, .ref (Z.2.2 175)), (1, .int p1), (2, .int p2)] [] M3 (fun r M' => (∃ x : Int32, r = some (.int x)) ∧ li_fs (fun i k => False) M0 M' ∧ li_J M') := by
    intro n
    induction n with
    | zero => intro x1 x2 M3 hn; exact absurd hn (Nat.not_lt_zero _)
    | succ n ih5 =>
      intro x1 x2 M3 hn hf hJ hi
      have gx1 := tl_rg x1
      have gx2 := tl_rg x2
      refine li_iload 0 dX12_hears_5 rfl ?_
      refine li_aload_n 2 dX12_hears_7 rfl ?_
      refine li_geti (k := 1) (N := 52) (T := TX12) (C0 := RX12) dX12_hears_8 (by decide) sh_175 rfl rfl (by decide) li_in12 w_1405 ?_
      refine li_top (fun x4 ex4 => ?_)
      have gx4 : 0 ≤ x4.toInt ∧ x4.toInt ≤ 6 := by rw [ex4]; exact J_sl1 hJ
      have sx4 : x4.toInt = (M0.1 175 1).toInt := tl_slot (ex4.trans (hf.1 175 1 id))
      refine li_icmp_ge 51 dX12_hears_11 (by decide) (fun c5 => ?_) (fun c5 => ?_)
      · have tc5 : x4.toInt ≤ x1.toInt := tl_le c5
        refine li_iload_n 1 dX12_hears_51 rfl ?_
        exact li_iret dX12_hears_52 rfl rfl ⟨⟨_, rfl⟩, hf, hJ⟩
      · have tc5 : x1.toInt < x4.toInt := tl_nle c5
        refine li_iload_n 1 dX12_hears_14 rfl ?_
        refine li_iload 0 dX12_hears_15 rfl ?_
        refine li_iload_n 3 dX12_hears_17 rfl ?_
        have J43 : ∀ (x7 : Int32) (M8 : li_M), li_fs (fun i k => False) M0 M8 → li_J M8 → li_T l Z YX12_hears d 43 [(4, .int x1), (3, .int x2), (0, .ref (Z.2.2 175)), (1, .int p1), (2, .int p2)] [.int x7, .int x2] M8 (fun r M' => (∃ x : Int32, r = some (.int x)) ∧ li_fs (fun i k => False) M0 M' ∧ li_J M') := by
          intro x7 M8 hf hJ
          have gx7 := tl_rg x7
          refine li_ior dX12_hears_43 ?_
          refine li_top (fun x9 ex9 => ?_)
          try (have tx9 := tl_or255 ex9 (by omega) (by omega))
          refine li_istore_n [(3, .int x9), (4, .int x1), (0, .ref (Z.2.2 175)), (1, .int p1), (2, .int p2)] dX12_hears_44 (by decide) rfl ?_
          obtain ⟨x10, ex10⟩ : ∃ y : Int32, y = x1 + 1 := ⟨_, rfl⟩
          have z1 : (1 : Int32).toInt = 1 := rfl
          try (have tx10 : x10.toInt = (x1 : Int32).toInt + (1 : Int32).toInt := tl_add ex10 (by omega))
          refine li_iinc 1 [(4, .int x10), (3, .int x9), (0, .ref (Z.2.2 175)), (1, .int p1), (2, .int p2)] x10 dX12_hears_45 rfl (by rw [ex10]; rfl) (by decide) rfl ?_
          refine li_goto 5 dX12_hears_48 (by decide) ?_
          refine li_pick [0, 1, 2, 3, 4] [(4, .int x10), (3, .int x9), (0, .ref (Z.2.2 175)), (1, .int p1), (2, .int p2)] rfl ?_
          exact ih5 x10 x9 M8 (by omega) hf hJ (by omega)
        refine li_icmp_eq 42 dX12_hears_18 (by decide) (fun c6 => ?_) (fun c6 => ?_)
        · have tc6 : x1.toInt = p1.toInt := tl_eq c6
          refine li_iconst 0 dX12_hears_42 (by decide) ?_
          refine li_pick [0, 1, 2, 3, 4] [(4, .int x1), (3, .int x2), (0, .ref (Z.2.2 175)), (1, .int p1), (2, .int p2)] rfl ?_
          have z0 : (0 : Int32).toInt = 0 := rfl
          exact J43 0 M3 hf hJ
        · have tc6 : ¬ x1.toInt = p1.toInt := tl_ne c6
          refine li_aload_n 2 dX12_hears_21 rfl ?_
          refine li_iload_n 3 dX12_hears_22 rfl ?_
          refine li_iload 0 dX12_hears_23 rfl ?_
          refine li_callV (n := 2) (As := [.int p1, .int x1]) dX12_hears_25 (k_X12_apart (d - 1) (by omega) p1 x1 M3 hJ (by omega) (by omega)) (by omega) (Nat.le_of_ble_eq_true rfl) w_1672 w_1674 w_61 w_112 w_1675 (by decide +kernel) rfl (by decide) sh_175 rfl rfl (Nat.le_of_ble_eq_true rfl) (fun r M12 h13 => ?_)
          obtain ⟨⟨x11, rfl⟩, h13, jM12⟩ := h13
          have gx11 := tl_rg x11
          have hf := li_fs_trans hf h13 (fun i k h => False.elim h)
          have hJ := jM12
          refine li_iload_n 4 dX12_hears_28 rfl ?_
          refine li_callS (n := 1) (As := [.int p2]) dX12_hears_29 (k_X12_carries (d - 1) (by omega) p2 M12 hJ ) (by omega) (Nat.le_of_ble_eq_true rfl) w_1685 w_1686 w_112 w_1687 (by decide +kernel) rfl rfl (Nat.le_of_ble_eq_true rfl) (fun r M15 h16 => ?_)
          obtain ⟨⟨x14, rfl⟩, h16, jM15⟩ := h16
          have gx14 := tl_rg x14
          have hf := li_fs_trans hf h16 (fun i k h => False.elim h)
          have hJ := jM15
          refine li_icmp_gt 42 dX12_hears_32 (by decide) (fun c17 => ?_) (fun c17 => ?_)
          · have tc17 : x14.toInt < x11.toInt := tl_lt c17
            refine li_iconst 0 dX12_hears_42 (by decide) ?_
            refine li_pick [0, 1, 2, 3, 4] [(4, .int x1), (3, .int x2), (0, .ref (Z.2.2 175)), (1, .int p1), (2, .int p2)] rfl ?_
            have z0 : (0 : Int32).toInt = 0 := rfl
            exact J43 0 M15 hf hJ
          · have tc17 : x11.toInt ≤ x14.toInt := tl_nlt c17
            refine li_iconst 1 dX12_hears_35 (by decide) ?_
            refine li_iload 0 dX12_hears_36 rfl ?_
            refine li_ishl dX12_hears_38 ?_
            refine li_top (fun x18 ex18 => ?_)
            have z1 : (1 : Int32).toInt = 1 := rfl
            try (have tx18 := tl_shl255 ex18 (by omega))
            refine li_goto 43 dX12_hears_39 (by decide) ?_
            refine li_pick [0, 1, 2, 3, 4] [(4, .int x1), (3, .int x2), (0, .ref (Z.2.2 175)), (1, .int p1), (2, .int p2)] rfl ?_
            exact J43 x18 M15 hf hJ
  have z0 : (0 : Int32).toInt = 0 := rfl
  have z0 : (0 : Int32).toInt = 0 := rfl
  exact L5 _ 0 0 M0 (Nat.lt_succ_self _) hf hJ (by omega)
set_option maxRecDepth 100000 in
set_option maxHeartbeats 4000000 in
theorem k_X12_field {l : Launch} {Z : li_Z} (d : Nat) (hd : 1 ≤ d) (p1 p2 : Int32) (M0 : li_M) (hJ : li_J M0) (h1 : 0 ≤ p1.toInt ∧ p1.toInt ≤ 7) (h2 : 0 ≤ p2.toInt ∧ p2.toInt ≤ 4) : li_Met l Z YX12_field d [.ref (Z.2.2 175), .int p1, .int p2] M0 (fun r M' => (∃ x : Int32, r = some (.int x) ∧ (p2.toInt < 2 → 0 ≤ x.toInt ∧ x.toInt ≤ 5)) ∧ li_fs (fun i k => False) M0 M' ∧ li_J M') := by
  refine li_enter (by decide +kernel) (Nat.le_of_ble_eq_true rfl) ?_
  show li_T l Z YX12_field d 0 [(0, .ref (Z.2.2 175)), (1, .int p1), (2, .int p2)] [] M0 _
  have hf : li_fs (fun i k => False) M0 M0 := li_fs_refl
  have gp1 := tl_rg p1
  have gp2 := tl_rg p2
  refine li_aload_n 0 dX12_field_0 rfl ?_
  refine li_getr (k := 5) (N := 52) (T := TX12) (C0 := RX12) dX12_field_1 (by decide) sh_175 rfl rfl (by decide) (by decide) li_in12 w_1409 ?_
  refine li_iconst 5 dX12_field_4 (by decide) ?_
  refine li_iload_n 1 dX12_field_5 rfl ?_
  refine li_imul dX12_field_6 ?_
  refine li_top (fun x1 ex1 => ?_)
  have z5 : (5 : Int32).toInt = 5 := rfl
  try (have tx1 : x1.toInt = 5 * (p1 : Int32).toInt := tl_mul ex1 (show -2147483648 ≤ 5 * (p1 : Int32).toInt ∧ 5 * (p1 : Int32).toInt ≤ 2147483647 by omega))
  refine li_iload_n 2 dX12_field_7 rfl ?_
  refine li_iadd dX12_field_8 ?_
  refine li_top (fun x2 ex2 => ?_)
  try (have tx2 : x2.toInt = (x1 : Int32).toInt + (p2 : Int32).toInt := tl_add ex2 (by omega))
  refine li_iald dX12_field_9 (by decide) sh_179 (tl_in (by omega)) ?_
  refine li_top (fun x3 ex3 => ?_)
  have gx3 := tl_rg x3
  have lx3 : (x2 : Int32).toInt % 5 < 2 → 0 ≤ x3.toInt ∧ x3.toInt ≤ 5 := hJ.ldThing ex3 (by omega)
  exact li_iret dX12_field_10 rfl rfl ⟨⟨_, rfl, (by first | omega | (intro _; omega) | (refine ⟨?_, ?_⟩ <;> first | omega | (intro _; omega)) | (refine ⟨?_, ?_, ?_, ?_⟩ <;> first | omega | (intro _; omega)))⟩, hf, hJ⟩
set_option maxRecDepth 100000 in
set_option maxHeartbeats 4000000 in
theorem k_X12_isHeard {l : Launch} {Z : li_Z} (d : Nat) (hd : 2 ≤ d) (p1 p2 : Int32) (M0 : li_M) (hJ : li_J M0) (h1 : 0 ≤ p1.toInt ∧ p1.toInt ≤ 7) : li_Met l Z YX12_isHeard d [.ref (Z.2.2 175), .int p1, .int p2] M0 (fun r M' => ((r = some (.int 1) ∧ True) ∨ (r = some (.int 0) ∧ True)) ∧ li_fs (fun i k => False) M0 M' ∧ li_J M') := by
  refine li_enter (by decide +kernel) (Nat.le_of_ble_eq_true rfl) ?_
  show li_T l Z YX12_isHeard d 0 [(0, .ref (Z.2.2 175)), (1, .int p1), (2, .int p2)] [] M0 _
  have hf : li_fs (fun i k => False) M0 M0 := li_fs_refl
  have gp1 := tl_rg p1
  have gp2 := tl_rg p2
  refine li_aload_n 0 dX12_isHeard_0 rfl ?_
  refine li_aload_n 0 dX12_isHeard_1 rfl ?_
  refine li_iload_n 1 dX12_isHeard_2 rfl ?_
  refine li_iconst 0 dX12_isHeard_3 (by decide) ?_
  have z0 : (0 : Int32).toInt = 0 := rfl
  refine li_callV (n := 2) (As := [.int p1, .int 0]) dX12_isHeard_4 (k_X12_field (d - 1) (by omega) p1 0 M0 hJ (by omega) (by omega)) (by omega) (Nat.le_of_ble_eq_true rfl) w_1668 w_1670 w_60 w_112 w_1671 (by decide +kernel) rfl (by decide) sh_175 rfl rfl (Nat.le_of_ble_eq_true rfl) (fun r M2 h3 => ?_)
  obtain ⟨⟨x1, rfl, qx1⟩, h3, jM2⟩ := h3
  have gx1 := tl_rg x1
  have hf := li_fs_trans hf h3 (fun i k h => False.elim h)
  have hJ := jM2
  refine li_aload_n 0 dX12_isHeard_7 rfl ?_
  refine li_iload_n 1 dX12_isHeard_8 rfl ?_
  refine li_iconst 1 dX12_isHeard_9 (by decide) ?_
  have z1 : (1 : Int32).toInt = 1 := rfl
  refine li_callV (n := 2) (As := [.int p1, .int 1]) dX12_isHeard_10 (k_X12_field (d - 1) (by omega) p1 1 M2 hJ (by omega) (by omega)) (by omega) (Nat.le_of_ble_eq_true rfl) w_1668 w_1670 w_60 w_112 w_1671 (by decide +kernel) rfl (by decide) sh_175 rfl rfl (Nat.le_of_ble_eq_true rfl) (fun r M5 h6 => ?_)
  obtain ⟨⟨x4, rfl, qx4⟩, h6, jM5⟩ := h6
  have gx4 := tl_rg x4
  have hf := li_fs_trans hf h6 (fun i k h => False.elim h)
  have hJ := jM5
  refine li_callV (n := 2) (As := [.int x1, .int x4]) dX12_isHeard_13 (k_X12_apart (d - 1) (by omega) x1 x4 M5 hJ (by omega) (by omega)) (by omega) (Nat.le_of_ble_eq_true rfl) w_1672 w_1674 w_61 w_112 w_1675 (by decide +kernel) rfl (by decide) sh_175 rfl rfl (Nat.le_of_ble_eq_true rfl) (fun r M8 h9 => ?_)
  obtain ⟨⟨x7, rfl⟩, h9, jM8⟩ := h9
  have gx7 := tl_rg x7
  have hf := li_fs_trans hf h9 (fun i k h => False.elim h)
  have hJ := jM8
  refine li_iload_n 2 dX12_isHeard_16 rfl ?_
  refine li_callS (n := 1) (As := [.int p2]) dX12_isHeard_17 (k_X12_carries (d - 1) (by omega) p2 M8 hJ ) (by omega) (Nat.le_of_ble_eq_true rfl) w_1685 w_1686 w_112 w_1687 (by decide +kernel) rfl rfl (Nat.le_of_ble_eq_true rfl) (fun r M11 h12 => ?_)
  obtain ⟨⟨x10, rfl⟩, h12, jM11⟩ := h12
  have gx10 := tl_rg x10
  have hf := li_fs_trans hf h12 (fun i k h => False.elim h)
  have hJ := jM11
  refine li_icmp_gt 27 dX12_isHeard_20 (by decide) (fun c13 => ?_) (fun c13 => ?_)
  · have tc13 : x10.toInt < x7.toInt := tl_lt c13
    refine li_iconst 0 dX12_isHeard_27 (by decide) ?_
    have z0 : (0 : Int32).toInt = 0 := rfl
    exact li_iret dX12_isHeard_28 rfl (li_nz (Or.inl rfl)) ⟨Or.inr ⟨rfl, trivial⟩, hf, hJ⟩
  · have tc13 : x7.toInt ≤ x10.toInt := tl_nlt c13
    refine li_iconst 1 dX12_isHeard_23 (by decide) ?_
    refine li_goto 28 dX12_isHeard_24 (by decide) ?_
    have z1 : (1 : Int32).toInt = 1 := rfl
    exact li_iret dX12_isHeard_28 rfl (li_nz (Or.inr rfl)) ⟨Or.inl ⟨rfl, trivial⟩, hf, hJ⟩
