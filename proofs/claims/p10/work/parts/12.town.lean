theorem w_102 : (Jvm.Cond.initialized "ClockForTalk$Text") ∈ li_ws := li_mem 102 (by decide +kernel) (by decide +kernel)
theorem w_104 : (Jvm.Cond.initialized "ClockForTalk$Town") ∈ li_ws := li_mem 104 (by decide +kernel) (by decide +kernel)
theorem w_141 : (Jvm.Cond.fieldLink "ClockForTalk$Town" (76 : Nat) "ClockForTalk$Text" "length" "I") ∈ li_ws := li_mem 141 (by decide +kernel) (by decide +kernel)
theorem w_143 : (Jvm.Cond.fieldLink "ClockForTalk$Town" (73 : Nat) "ClockForTalk$Text" "place" "I") ∈ li_ws := li_mem 143 (by decide +kernel) (by decide +kernel)
theorem w_174 : (Jvm.Cond.fieldLink "ClockForTalk$Town" (33 : Nat) "ClockForTalk$Town" "persons" "I") ∈ li_ws := li_mem 174 (by decide +kernel) (by decide +kernel)
theorem w_179 : (Jvm.Cond.fieldLink "ClockForTalk$Town" (37 : Nat) "ClockForTalk$Town" "wishes" "I") ∈ li_ws := li_mem 179 (by decide +kernel) (by decide +kernel)
theorem w_183 : (Jvm.Cond.fieldLink "ClockForTalk$Town" (9 : Nat) "ClockForTalk$Town" "steps" "[I") ∈ li_ws := li_mem 183 (by decide +kernel) (by decide +kernel)
theorem w_185 : (Jvm.Cond.fieldLink "ClockForTalk$Town" (15 : Nat) "ClockForTalk$Town" "yearly" "[I") ∈ li_ws := li_mem 185 (by decide +kernel) (by decide +kernel)
theorem w_188 : (Jvm.Cond.fieldLink "ClockForTalk$Town" (18 : Nat) "ClockForTalk$Town" "who" "[I") ∈ li_ws := li_mem 188 (by decide +kernel) (by decide +kernel)
theorem w_191 : (Jvm.Cond.fieldLink "ClockForTalk$Town" (21 : Nat) "ClockForTalk$Town" "whom" "[I") ∈ li_ws := li_mem 191 (by decide +kernel) (by decide +kernel)
theorem w_194 : (Jvm.Cond.fieldLink "ClockForTalk$Town" (24 : Nat) "ClockForTalk$Town" "seconds" "[I") ∈ li_ws := li_mem 194 (by decide +kernel) (by decide +kernel)
theorem w_197 : (Jvm.Cond.fieldLink "ClockForTalk$Town" (27 : Nat) "ClockForTalk$Town" "by" "[I") ∈ li_ws := li_mem 197 (by decide +kernel) (by decide +kernel)
theorem w_201 : (Jvm.Cond.fieldLink "ClockForTalk$Town" (30 : Nat) "ClockForTalk$Town" "worth" "[I") ∈ li_ws := li_mem 201 (by decide +kernel) (by decide +kernel)
theorem w_565 : (Jvm.Cond.instanceMethod ({ cls := "ClockForTalk$Text", name := "skip", desc := "(I)Z" } : Jvm.MethodName)) ∈ li_ws := li_mem 565 (by decide +kernel) (by decide +kernel)
theorem w_566 : (Jvm.Cond.selects "ClockForTalk$Text" ({ cls := "ClockForTalk$Text", name := "skip", desc := "(I)Z" } : Jvm.MethodName) ({ cls := "ClockForTalk$Text", name := "skip", desc := "(I)Z" } : Jvm.MethodName)) ∈ li_ws := li_mem 566 (by decide +kernel) (by decide +kernel)
theorem w_567 : (Jvm.Cond.code ({ cls := "ClockForTalk$Text", name := "skip", desc := "(I)Z" } : Jvm.MethodName) prog_8_method_5_code (2 : Nat) (Option.some Jvm.ClassFile.FieldType.boolean)) ∈ li_ws := li_mem 567 (by decide +kernel) (by decide +kernel)
theorem w_635 : (Jvm.Cond.instanceMethod ({ cls := "ClockForTalk$Text", name := "takeNumber", desc := "(I)I" } : Jvm.MethodName)) ∈ li_ws := li_mem 635 (by decide +kernel) (by decide +kernel)
theorem w_636 : (Jvm.Cond.selects "ClockForTalk$Text" ({ cls := "ClockForTalk$Text", name := "takeNumber", desc := "(I)I" } : Jvm.MethodName) ({ cls := "ClockForTalk$Text", name := "takeNumber", desc := "(I)I" } : Jvm.MethodName)) ∈ li_ws := li_mem 636 (by decide +kernel) (by decide +kernel)
theorem w_637 : (Jvm.Cond.code ({ cls := "ClockForTalk$Text", name := "takeNumber", desc := "(I)I" } : Jvm.MethodName) prog_8_method_8_code (5 : Nat) (Option.some Jvm.ClassFile.FieldType.int)) ∈ li_ws := li_mem 637 (by decide +kernel) (by decide +kernel)
theorem w_659 : (Jvm.Cond.instanceMethod ({ cls := "ClockForTalk$Text", name := "takeOneOf", desc := "(II)I" } : Jvm.MethodName)) ∈ li_ws := li_mem 659 (by decide +kernel) (by decide +kernel)
theorem w_660 : (Jvm.Cond.selects "ClockForTalk$Text" ({ cls := "ClockForTalk$Text", name := "takeOneOf", desc := "(II)I" } : Jvm.MethodName) ({ cls := "ClockForTalk$Text", name := "takeOneOf", desc := "(II)I" } : Jvm.MethodName)) ∈ li_ws := li_mem 660 (by decide +kernel) (by decide +kernel)
theorem w_661 : (Jvm.Cond.code ({ cls := "ClockForTalk$Text", name := "takeOneOf", desc := "(II)I" } : Jvm.MethodName) prog_8_method_6_code (4 : Nat) (Option.some Jvm.ClassFile.FieldType.int)) ∈ li_ws := li_mem 661 (by decide +kernel) (by decide +kernel)
theorem w_676 : (Jvm.Cond.methodLink "ClockForTalk$Town" (58 : Nat) ({ cls := "ClockForTalk$Text", name := "takeNumber", desc := "(I)I" } : Jvm.MethodName)) ∈ li_ws := li_mem 676 (by decide +kernel) (by decide +kernel)
theorem w_677 : (Jvm.Cond.methodLink "ClockForTalk$Town" (63 : Nat) ({ cls := "ClockForTalk$Text", name := "skip", desc := "(I)Z" } : Jvm.MethodName)) ∈ li_ws := li_mem 677 (by decide +kernel) (by decide +kernel)
theorem w_687 : (Jvm.Cond.methodLink "ClockForTalk$Town" (70 : Nat) ({ cls := "ClockForTalk$Text", name := "takeOneOf", desc := "(II)I" } : Jvm.MethodName)) ∈ li_ws := li_mem 687 (by decide +kernel) (by decide +kernel)
theorem w_759 : (Jvm.Cond.instanceMethod ({ cls := "ClockForTalk$Town", name := "hasPerson", desc := "(I)Z" } : Jvm.MethodName)) ∈ li_ws := li_mem 759 (by decide +kernel) (by decide +kernel)
theorem w_760 : (Jvm.Cond.selects "ClockForTalk$Town" ({ cls := "ClockForTalk$Town", name := "hasPerson", desc := "(I)Z" } : Jvm.MethodName) ({ cls := "ClockForTalk$Town", name := "hasPerson", desc := "(I)Z" } : Jvm.MethodName)) ∈ li_ws := li_mem 760 (by decide +kernel) (by decide +kernel)
theorem w_761 : (Jvm.Cond.code ({ cls := "ClockForTalk$Town", name := "hasPerson", desc := "(I)Z" } : Jvm.MethodName) prog_9_method_2_code (2 : Nat) (Option.some Jvm.ClassFile.FieldType.boolean)) ∈ li_ws := li_mem 761 (by decide +kernel) (by decide +kernel)
theorem w_797 : (Jvm.Cond.methodLink "ClockForTalk$Town" (54 : Nat) ({ cls := "ClockForTalk$Town", name := "apart", desc := "(II)I" } : Jvm.MethodName)) ∈ li_ws := li_mem 797 (by decide +kernel) (by decide +kernel)
theorem w_798 : (Jvm.Cond.instanceMethod ({ cls := "ClockForTalk$Town", name := "apart", desc := "(II)I" } : Jvm.MethodName)) ∈ li_ws := li_mem 798 (by decide +kernel) (by decide +kernel)
theorem w_799 : (Jvm.Cond.selects "ClockForTalk$Town" ({ cls := "ClockForTalk$Town", name := "apart", desc := "(II)I" } : Jvm.MethodName) ({ cls := "ClockForTalk$Town", name := "apart", desc := "(II)I" } : Jvm.MethodName)) ∈ li_ws := li_mem 799 (by decide +kernel) (by decide +kernel)
theorem w_800 : (Jvm.Cond.code ({ cls := "ClockForTalk$Town", name := "apart", desc := "(II)I" } : Jvm.MethodName) prog_9_method_5_code (3 : Nat) (Option.some Jvm.ClassFile.FieldType.int)) ∈ li_ws := li_mem 800 (by decide +kernel) (by decide +kernel)
theorem w_801 : (Jvm.Cond.methodLink "ClockForTalk$Town" (48 : Nat) ({ cls := "java/lang/Math", name := "abs", desc := "(I)I" } : Jvm.MethodName)) ∈ li_ws := li_mem 801 (by decide +kernel) (by decide +kernel)
theorem w_802 : (Jvm.Cond.static ({ cls := "java/lang/Math", name := "abs", desc := "(I)I" } : Jvm.MethodName)) ∈ li_ws := li_mem 802 (by decide +kernel) (by decide +kernel)
theorem w_803 : (Jvm.Cond.code ({ cls := "java/lang/Math", name := "abs", desc := "(I)I" } : Jvm.MethodName) prog_19_method_59_code (1 : Nat) (Option.some Jvm.ClassFile.FieldType.int)) ∈ li_ws := li_mem 803 (by decide +kernel) (by decide +kernel)
theorem w_888 : (Jvm.Cond.methodLink "ClockForTalk$Town" (40 : Nat) ({ cls := "ClockForTalk$Town", name := "hasPerson", desc := "(I)Z" } : Jvm.MethodName)) ∈ li_ws := li_mem 888 (by decide +kernel) (by decide +kernel)
theorem dX8_hasPerson_0 : decode cX8_hasPerson 0 = .ok (.iload_n 1, 1) := by decide +kernel
theorem dX8_hasPerson_1 : decode cX8_hasPerson 1 = .ok (.ifCond .lt 15, 3) := by decide +kernel
theorem dX8_hasPerson_4 : decode cX8_hasPerson 4 = .ok (.iload_n 1, 1) := by decide +kernel
theorem dX8_hasPerson_5 : decode cX8_hasPerson 5 = .ok (.aload_n 0, 1) := by decide +kernel
theorem dX8_hasPerson_6 : decode cX8_hasPerson 6 = .ok (.getfield 33, 3) := by decide +kernel
theorem dX8_hasPerson_9 : decode cX8_hasPerson 9 = .ok (.if_icmp .ge 7, 3) := by decide +kernel
theorem dX8_hasPerson_12 : decode cX8_hasPerson 12 = .ok (.iconst 1, 1) := by decide +kernel
theorem dX8_hasPerson_13 : decode cX8_hasPerson 13 = .ok (.goto 4, 3) := by decide +kernel
theorem dX8_hasPerson_16 : decode cX8_hasPerson 16 = .ok (.iconst 0, 1) := by decide +kernel
theorem dX8_hasPerson_17 : decode cX8_hasPerson 17 = .ok (.ireturn, 1) := by decide +kernel
abbrev YX8_hasPerson : li_Y := (yX8_hasPerson, cX8_hasPerson, 2, (some .boolean))
theorem dX8_hasThing_0 : decode cX8_hasThing 0 = .ok (.iload_n 1, 1) := by decide +kernel
theorem dX8_hasThing_1 : decode cX8_hasThing 1 = .ok (.ifCond .lt 15, 3) := by decide +kernel
theorem dX8_hasThing_4 : decode cX8_hasThing 4 = .ok (.iload_n 1, 1) := by decide +kernel
theorem dX8_hasThing_5 : decode cX8_hasThing 5 = .ok (.aload_n 0, 1) := by decide +kernel
theorem dX8_hasThing_6 : decode cX8_hasThing 6 = .ok (.getfield 37, 3) := by decide +kernel
theorem dX8_hasThing_9 : decode cX8_hasThing 9 = .ok (.if_icmp .ge 7, 3) := by decide +kernel
theorem dX8_hasThing_12 : decode cX8_hasThing 12 = .ok (.iconst 1, 1) := by decide +kernel
theorem dX8_hasThing_13 : decode cX8_hasThing 13 = .ok (.goto 4, 3) := by decide +kernel
theorem dX8_hasThing_16 : decode cX8_hasThing 16 = .ok (.iconst 0, 1) := by decide +kernel
theorem dX8_hasThing_17 : decode cX8_hasThing 17 = .ok (.ireturn, 1) := by decide +kernel
abbrev YX8_hasThing : li_Y := (yX8_hasThing, cX8_hasThing, 2, (some .boolean))
theorem dX8_areTwo_0 : decode cX8_areTwo 0 = .ok (.aload_n 0, 1) := by decide +kernel
theorem dX8_areTwo_1 : decode cX8_areTwo 1 = .ok (.iload_n 1, 1) := by decide +kernel
theorem dX8_areTwo_2 : decode cX8_areTwo 2 = .ok (.invokevirtual 40, 3) := by decide +kernel
theorem dX8_areTwo_5 : decode cX8_areTwo 5 = .ok (.ifCond .eq 20, 3) := by decide +kernel
theorem dX8_areTwo_8 : decode cX8_areTwo 8 = .ok (.aload_n 0, 1) := by decide +kernel
theorem dX8_areTwo_9 : decode cX8_areTwo 9 = .ok (.iload_n 2, 1) := by decide +kernel
theorem dX8_areTwo_10 : decode cX8_areTwo 10 = .ok (.invokevirtual 40, 3) := by decide +kernel
theorem dX8_areTwo_13 : decode cX8_areTwo 13 = .ok (.ifCond .eq 12, 3) := by decide +kernel
theorem dX8_areTwo_16 : decode cX8_areTwo 16 = .ok (.iload_n 1, 1) := by decide +kernel
theorem dX8_areTwo_17 : decode cX8_areTwo 17 = .ok (.iload_n 2, 1) := by decide +kernel
theorem dX8_areTwo_18 : decode cX8_areTwo 18 = .ok (.if_icmp .eq 7, 3) := by decide +kernel
theorem dX8_areTwo_21 : decode cX8_areTwo 21 = .ok (.iconst 1, 1) := by decide +kernel
theorem dX8_areTwo_22 : decode cX8_areTwo 22 = .ok (.goto 4, 3) := by decide +kernel
theorem dX8_areTwo_25 : decode cX8_areTwo 25 = .ok (.iconst 0, 1) := by decide +kernel
theorem dX8_areTwo_26 : decode cX8_areTwo 26 = .ok (.ireturn, 1) := by decide +kernel
abbrev YX8_areTwo : li_Y := (yX8_areTwo, cX8_areTwo, 3, (some .boolean))
theorem dX8_apart_0 : decode cX8_apart 0 = .ok (.aload_n 0, 1) := by decide +kernel
theorem dX8_apart_1 : decode cX8_apart 1 = .ok (.getfield 9, 3) := by decide +kernel
theorem dX8_apart_4 : decode cX8_apart 4 = .ok (.iload_n 1, 1) := by decide +kernel
theorem dX8_apart_5 : decode cX8_apart 5 = .ok (.invokestatic 44, 3) := by decide +kernel
theorem dX8_apart_8 : decode cX8_apart 8 = .ok (.aload_n 0, 1) := by decide +kernel
theorem dX8_apart_9 : decode cX8_apart 9 = .ok (.getfield 9, 3) := by decide +kernel
theorem dX8_apart_12 : decode cX8_apart 12 = .ok (.iload_n 2, 1) := by decide +kernel
theorem dX8_apart_13 : decode cX8_apart 13 = .ok (.invokestatic 44, 3) := by decide +kernel
theorem dX8_apart_16 : decode cX8_apart 16 = .ok (.isub, 1) := by decide +kernel
theorem dX8_apart_17 : decode cX8_apart 17 = .ok (.invokestatic 48, 3) := by decide +kernel
theorem dX8_apart_20 : decode cX8_apart 20 = .ok (.ireturn, 1) := by decide +kernel
abbrev YX8_apart : li_Y := (yX8_apart, cX8_apart, 3, (some .int))
theorem dX8_apartFor_0 : decode cX8_apartFor 0 = .ok (.aload_n 0, 1) := by decide +kernel
theorem dX8_apartFor_1 : decode cX8_apartFor 1 = .ok (.aload_n 0, 1) := by decide +kernel
theorem dX8_apartFor_2 : decode cX8_apartFor 2 = .ok (.getfield 18, 3) := by decide +kernel
theorem dX8_apartFor_5 : decode cX8_apartFor 5 = .ok (.iload_n 1, 1) := by decide +kernel
theorem dX8_apartFor_6 : decode cX8_apartFor 6 = .ok (.invokestatic 44, 3) := by decide +kernel
theorem dX8_apartFor_9 : decode cX8_apartFor 9 = .ok (.aload_n 0, 1) := by decide +kernel
theorem dX8_apartFor_10 : decode cX8_apartFor 10 = .ok (.getfield 21, 3) := by decide +kernel
theorem dX8_apartFor_13 : decode cX8_apartFor 13 = .ok (.iload_n 1, 1) := by decide +kernel
theorem dX8_apartFor_14 : decode cX8_apartFor 14 = .ok (.invokestatic 44, 3) := by decide +kernel
theorem dX8_apartFor_17 : decode cX8_apartFor 17 = .ok (.invokevirtual 54, 3) := by decide +kernel
theorem dX8_apartFor_20 : decode cX8_apartFor 20 = .ok (.ireturn, 1) := by decide +kernel
abbrev YX8_apartFor : li_Y := (yX8_apartFor, cX8_apartFor, 2, (some .int))
theorem dX8_thingsOf_0 : decode cX8_thingsOf 0 = .ok (.iconst 0, 1) := by decide +kernel
theorem dX8_thingsOf_1 : decode cX8_thingsOf 1 = .ok (.istore_n 2, 1) := by decide +kernel
theorem dX8_thingsOf_2 : decode cX8_thingsOf 2 = .ok (.iconst 0, 1) := by decide +kernel
theorem dX8_thingsOf_3 : decode cX8_thingsOf 3 = .ok (.istore_n 3, 1) := by decide +kernel
theorem dX8_thingsOf_4 : decode cX8_thingsOf 4 = .ok (.iload_n 3, 1) := by decide +kernel
theorem dX8_thingsOf_5 : decode cX8_thingsOf 5 = .ok (.aload_n 0, 1) := by decide +kernel
theorem dX8_thingsOf_6 : decode cX8_thingsOf 6 = .ok (.getfield 37, 3) := by decide +kernel
theorem dX8_thingsOf_9 : decode cX8_thingsOf 9 = .ok (.if_icmp .ge 27, 3) := by decide +kernel
theorem dX8_thingsOf_12 : decode cX8_thingsOf 12 = .ok (.aload_n 0, 1) := by decide +kernel
theorem dX8_thingsOf_13 : decode cX8_thingsOf 13 = .ok (.getfield 18, 3) := by decide +kernel
theorem dX8_thingsOf_16 : decode cX8_thingsOf 16 = .ok (.iload_n 3, 1) := by decide +kernel
theorem dX8_thingsOf_17 : decode cX8_thingsOf 17 = .ok (.invokestatic 44, 3) := by decide +kernel
theorem dX8_thingsOf_20 : decode cX8_thingsOf 20 = .ok (.iload_n 1, 1) := by decide +kernel
theorem dX8_thingsOf_21 : decode cX8_thingsOf 21 = .ok (.if_icmp .ne 9, 3) := by decide +kernel
theorem dX8_thingsOf_24 : decode cX8_thingsOf 24 = .ok (.iload_n 2, 1) := by decide +kernel
theorem dX8_thingsOf_25 : decode cX8_thingsOf 25 = .ok (.iconst 1, 1) := by decide +kernel
theorem dX8_thingsOf_26 : decode cX8_thingsOf 26 = .ok (.iload_n 3, 1) := by decide +kernel
theorem dX8_thingsOf_27 : decode cX8_thingsOf 27 = .ok (.ishl, 1) := by decide +kernel
theorem dX8_thingsOf_28 : decode cX8_thingsOf 28 = .ok (.ior, 1) := by decide +kernel
theorem dX8_thingsOf_29 : decode cX8_thingsOf 29 = .ok (.istore_n 2, 1) := by decide +kernel
theorem dX8_thingsOf_30 : decode cX8_thingsOf 30 = .ok (.iinc 3 1, 3) := by decide +kernel
theorem dX8_thingsOf_33 : decode cX8_thingsOf 33 = .ok (.goto (-29), 3) := by decide +kernel
theorem dX8_thingsOf_36 : decode cX8_thingsOf 36 = .ok (.iload_n 2, 1) := by decide +kernel
theorem dX8_thingsOf_37 : decode cX8_thingsOf 37 = .ok (.ireturn, 1) := by decide +kernel
abbrev YX8_thingsOf : li_Y := (yX8_thingsOf, cX8_thingsOf, 4, (some .int))
theorem dX8_readPerson_0 : decode cX8_readPerson 0 = .ok (.aload_n 1, 1) := by decide +kernel
theorem dX8_readPerson_1 : decode cX8_readPerson 1 = .ok (.iconst 2, 1) := by decide +kernel
theorem dX8_readPerson_2 : decode cX8_readPerson 2 = .ok (.invokevirtual 58, 3) := by decide +kernel
theorem dX8_readPerson_5 : decode cX8_readPerson 5 = .ok (.istore_n 3, 1) := by decide +kernel
theorem dX8_readPerson_6 : decode cX8_readPerson 6 = .ok (.iload_n 3, 1) := by decide +kernel
theorem dX8_readPerson_7 : decode cX8_readPerson 7 = .ok (.ifCond .lt 12, 3) := by decide +kernel
theorem dX8_readPerson_10 : decode cX8_readPerson 10 = .ok (.aload_n 1, 1) := by decide +kernel
theorem dX8_readPerson_11 : decode cX8_readPerson 11 = .ok (.bipush 58, 2) := by decide +kernel
theorem dX8_readPerson_13 : decode cX8_readPerson 13 = .ok (.invokevirtual 63, 3) := by decide +kernel
theorem dX8_readPerson_16 : decode cX8_readPerson 16 = .ok (.ifCond .ne 5, 3) := by decide +kernel
theorem dX8_readPerson_19 : decode cX8_readPerson 19 = .ok (.iconst 0, 1) := by decide +kernel
theorem dX8_readPerson_20 : decode cX8_readPerson 20 = .ok (.ireturn, 1) := by decide +kernel
theorem dX8_readPerson_21 : decode cX8_readPerson 21 = .ok (.aload_n 1, 1) := by decide +kernel
theorem dX8_readPerson_22 : decode cX8_readPerson 22 = .ok (.iconst 3, 1) := by decide +kernel
theorem dX8_readPerson_23 : decode cX8_readPerson 23 = .ok (.invokevirtual 58, 3) := by decide +kernel
theorem dX8_readPerson_26 : decode cX8_readPerson 26 = .ok (.istore 4, 2) := by decide +kernel
theorem dX8_readPerson_28 : decode cX8_readPerson 28 = .ok (.aload_n 0, 1) := by decide +kernel
theorem dX8_readPerson_29 : decode cX8_readPerson 29 = .ok (.getfield 9, 3) := by decide +kernel
theorem dX8_readPerson_32 : decode cX8_readPerson 32 = .ok (.iload_n 2, 1) := by decide +kernel
theorem dX8_readPerson_33 : decode cX8_readPerson 33 = .ok (.iload_n 3, 1) := by decide +kernel
theorem dX8_readPerson_34 : decode cX8_readPerson 34 = .ok (.invokestatic 66, 3) := by decide +kernel
theorem dX8_readPerson_37 : decode cX8_readPerson 37 = .ok (.aload_n 0, 1) := by decide +kernel
theorem dX8_readPerson_38 : decode cX8_readPerson 38 = .ok (.getfield 15, 3) := by decide +kernel
theorem dX8_readPerson_41 : decode cX8_readPerson 41 = .ok (.iload_n 2, 1) := by decide +kernel
theorem dX8_readPerson_42 : decode cX8_readPerson 42 = .ok (.iload 4, 2) := by decide +kernel
theorem dX8_readPerson_44 : decode cX8_readPerson 44 = .ok (.invokestatic 66, 3) := by decide +kernel
theorem dX8_readPerson_47 : decode cX8_readPerson 47 = .ok (.iload 4, 2) := by decide +kernel
theorem dX8_readPerson_49 : decode cX8_readPerson 49 = .ok (.ifCond .lt 7, 3) := by decide +kernel
theorem dX8_readPerson_52 : decode cX8_readPerson 52 = .ok (.iconst 1, 1) := by decide +kernel
theorem dX8_readPerson_53 : decode cX8_readPerson 53 = .ok (.goto 4, 3) := by decide +kernel
theorem dX8_readPerson_56 : decode cX8_readPerson 56 = .ok (.iconst 0, 1) := by decide +kernel
theorem dX8_readPerson_57 : decode cX8_readPerson 57 = .ok (.ireturn, 1) := by decide +kernel
abbrev YX8_readPerson : li_Y := (yX8_readPerson, cX8_readPerson, 5, (some .boolean))
theorem dX8_readTwo_0 : decode cX8_readTwo 0 = .ok (.aload_n 1, 1) := by decide +kernel
theorem dX8_readTwo_1 : decode cX8_readTwo 1 = .ok (.bipush 97, 2) := by decide +kernel
theorem dX8_readTwo_3 : decode cX8_readTwo 3 = .ok (.aload_n 0, 1) := by decide +kernel
theorem dX8_readTwo_4 : decode cX8_readTwo 4 = .ok (.getfield 33, 3) := by decide +kernel
theorem dX8_readTwo_7 : decode cX8_readTwo 7 = .ok (.invokevirtual 70, 3) := by decide +kernel
theorem dX8_readTwo_10 : decode cX8_readTwo 10 = .ok (.istore_n 3, 1) := by decide +kernel
theorem dX8_readTwo_11 : decode cX8_readTwo 11 = .ok (.iload_n 3, 1) := by decide +kernel
theorem dX8_readTwo_12 : decode cX8_readTwo 12 = .ok (.ifCond .ge 5, 3) := by decide +kernel
theorem dX8_readTwo_15 : decode cX8_readTwo 15 = .ok (.iconst 0, 1) := by decide +kernel
theorem dX8_readTwo_16 : decode cX8_readTwo 16 = .ok (.ireturn, 1) := by decide +kernel
theorem dX8_readTwo_17 : decode cX8_readTwo 17 = .ok (.aload_n 1, 1) := by decide +kernel
theorem dX8_readTwo_18 : decode cX8_readTwo 18 = .ok (.bipush 97, 2) := by decide +kernel
theorem dX8_readTwo_20 : decode cX8_readTwo 20 = .ok (.aload_n 0, 1) := by decide +kernel
theorem dX8_readTwo_21 : decode cX8_readTwo 21 = .ok (.getfield 33, 3) := by decide +kernel
theorem dX8_readTwo_24 : decode cX8_readTwo 24 = .ok (.invokevirtual 70, 3) := by decide +kernel
theorem dX8_readTwo_27 : decode cX8_readTwo 27 = .ok (.istore 4, 2) := by decide +kernel
theorem dX8_readTwo_29 : decode cX8_readTwo 29 = .ok (.iload 4, 2) := by decide +kernel
theorem dX8_readTwo_31 : decode cX8_readTwo 31 = .ok (.ifCond .lt 9, 3) := by decide +kernel
theorem dX8_readTwo_34 : decode cX8_readTwo 34 = .ok (.iload 4, 2) := by decide +kernel
theorem dX8_readTwo_36 : decode cX8_readTwo 36 = .ok (.iload_n 3, 1) := by decide +kernel
theorem dX8_readTwo_37 : decode cX8_readTwo 37 = .ok (.if_icmp .ne 24, 3) := by decide +kernel
theorem dX8_readTwo_40 : decode cX8_readTwo 40 = .ok (.aload_n 1, 1) := by decide +kernel
theorem dX8_readTwo_41 : decode cX8_readTwo 41 = .ok (.dup, 1) := by decide +kernel
theorem dX8_readTwo_42 : decode cX8_readTwo 42 = .ok (.getfield 73, 3) := by decide +kernel
theorem dX8_readTwo_45 : decode cX8_readTwo 45 = .ok (.iload 4, 2) := by decide +kernel
theorem dX8_readTwo_47 : decode cX8_readTwo 47 = .ok (.ifCond .ge 7, 3) := by decide +kernel
theorem dX8_readTwo_50 : decode cX8_readTwo 50 = .ok (.iconst 0, 1) := by decide +kernel
theorem dX8_readTwo_51 : decode cX8_readTwo 51 = .ok (.goto 4, 3) := by decide +kernel
theorem dX8_readTwo_54 : decode cX8_readTwo 54 = .ok (.iconst 1, 1) := by decide +kernel
theorem dX8_readTwo_55 : decode cX8_readTwo 55 = .ok (.isub, 1) := by decide +kernel
theorem dX8_readTwo_56 : decode cX8_readTwo 56 = .ok (.putfield 73, 3) := by decide +kernel
theorem dX8_readTwo_59 : decode cX8_readTwo 59 = .ok (.iconst 0, 1) := by decide +kernel
theorem dX8_readTwo_60 : decode cX8_readTwo 60 = .ok (.ireturn, 1) := by decide +kernel
theorem dX8_readTwo_61 : decode cX8_readTwo 61 = .ok (.aload_n 0, 1) := by decide +kernel
theorem dX8_readTwo_62 : decode cX8_readTwo 62 = .ok (.getfield 18, 3) := by decide +kernel
theorem dX8_readTwo_65 : decode cX8_readTwo 65 = .ok (.iload_n 2, 1) := by decide +kernel
theorem dX8_readTwo_66 : decode cX8_readTwo 66 = .ok (.iload_n 3, 1) := by decide +kernel
theorem dX8_readTwo_67 : decode cX8_readTwo 67 = .ok (.invokestatic 66, 3) := by decide +kernel
theorem dX8_readTwo_70 : decode cX8_readTwo 70 = .ok (.aload_n 0, 1) := by decide +kernel
theorem dX8_readTwo_71 : decode cX8_readTwo 71 = .ok (.getfield 21, 3) := by decide +kernel
theorem dX8_readTwo_74 : decode cX8_readTwo 74 = .ok (.iload_n 2, 1) := by decide +kernel
theorem dX8_readTwo_75 : decode cX8_readTwo 75 = .ok (.iload 4, 2) := by decide +kernel
theorem dX8_readTwo_77 : decode cX8_readTwo 77 = .ok (.invokestatic 66, 3) := by decide +kernel
theorem dX8_readTwo_80 : decode cX8_readTwo 80 = .ok (.iconst 1, 1) := by decide +kernel
theorem dX8_readTwo_81 : decode cX8_readTwo 81 = .ok (.ireturn, 1) := by decide +kernel
abbrev YX8_readTwo : li_Y := (yX8_readTwo, cX8_readTwo, 5, (some .boolean))
theorem dX8_readSeconds_0 : decode cX8_readSeconds 0 = .ok (.aload_n 1, 1) := by decide +kernel
theorem dX8_readSeconds_1 : decode cX8_readSeconds 1 = .ok (.getfield 73, 3) := by decide +kernel
theorem dX8_readSeconds_4 : decode cX8_readSeconds 4 = .ok (.bipush 75, 2) := by decide +kernel
theorem dX8_readSeconds_6 : decode cX8_readSeconds 6 = .ok (.if_icmp .ne 16, 3) := by decide +kernel
theorem dX8_readSeconds_9 : decode cX8_readSeconds 9 = .ok (.aload_n 1, 1) := by decide +kernel
theorem dX8_readSeconds_10 : decode cX8_readSeconds 10 = .ok (.getfield 76, 3) := by decide +kernel
theorem dX8_readSeconds_13 : decode cX8_readSeconds 13 = .ok (.bipush 76, 2) := by decide +kernel
theorem dX8_readSeconds_15 : decode cX8_readSeconds 15 = .ok (.if_icmp .le 7, 3) := by decide +kernel
theorem dX8_readSeconds_18 : decode cX8_readSeconds 18 = .ok (.iconst 1, 1) := by decide +kernel
theorem dX8_readSeconds_19 : decode cX8_readSeconds 19 = .ok (.goto 4, 3) := by decide +kernel
theorem dX8_readSeconds_22 : decode cX8_readSeconds 22 = .ok (.iconst 0, 1) := by decide +kernel
theorem dX8_readSeconds_23 : decode cX8_readSeconds 23 = .ok (.istore_n 3, 1) := by decide +kernel
theorem dX8_readSeconds_24 : decode cX8_readSeconds 24 = .ok (.aload_n 1, 1) := by decide +kernel
theorem dX8_readSeconds_25 : decode cX8_readSeconds 25 = .ok (.iconst 2, 1) := by decide +kernel
theorem dX8_readSeconds_26 : decode cX8_readSeconds 26 = .ok (.invokevirtual 58, 3) := by decide +kernel
theorem dX8_readSeconds_29 : decode cX8_readSeconds 29 = .ok (.istore 4, 2) := by decide +kernel
theorem dX8_readSeconds_31 : decode cX8_readSeconds 31 = .ok (.iload 4, 2) := by decide +kernel
theorem dX8_readSeconds_33 : decode cX8_readSeconds 33 = .ok (.ifCond .ne 17, 3) := by decide +kernel
theorem dX8_readSeconds_36 : decode cX8_readSeconds 36 = .ok (.iload_n 3, 1) := by decide +kernel
theorem dX8_readSeconds_37 : decode cX8_readSeconds 37 = .ok (.ifCond .ne 13, 3) := by decide +kernel
theorem dX8_readSeconds_40 : decode cX8_readSeconds 40 = .ok (.aload_n 1, 1) := by decide +kernel
theorem dX8_readSeconds_41 : decode cX8_readSeconds 41 = .ok (.dup, 1) := by decide +kernel
theorem dX8_readSeconds_42 : decode cX8_readSeconds 42 = .ok (.getfield 73, 3) := by decide +kernel
theorem dX8_readSeconds_45 : decode cX8_readSeconds 45 = .ok (.iconst 1, 1) := by decide +kernel
theorem dX8_readSeconds_46 : decode cX8_readSeconds 46 = .ok (.isub, 1) := by decide +kernel
theorem dX8_readSeconds_47 : decode cX8_readSeconds 47 = .ok (.putfield 73, 3) := by decide +kernel
theorem dX8_readSeconds_50 : decode cX8_readSeconds 50 = .ok (.aload_n 0, 1) := by decide +kernel
theorem dX8_readSeconds_51 : decode cX8_readSeconds 51 = .ok (.getfield 24, 3) := by decide +kernel
theorem dX8_readSeconds_54 : decode cX8_readSeconds 54 = .ok (.iload_n 2, 1) := by decide +kernel
theorem dX8_readSeconds_55 : decode cX8_readSeconds 55 = .ok (.iload 4, 2) := by decide +kernel
theorem dX8_readSeconds_57 : decode cX8_readSeconds 57 = .ok (.invokestatic 66, 3) := by decide +kernel
theorem dX8_readSeconds_60 : decode cX8_readSeconds 60 = .ok (.iload 4, 2) := by decide +kernel
theorem dX8_readSeconds_62 : decode cX8_readSeconds 62 = .ok (.ifCond .le 16, 3) := by decide +kernel
theorem dX8_readSeconds_65 : decode cX8_readSeconds 65 = .ok (.aload_n 1, 1) := by decide +kernel
theorem dX8_readSeconds_66 : decode cX8_readSeconds 66 = .ok (.bipush 45, 2) := by decide +kernel
theorem dX8_readSeconds_68 : decode cX8_readSeconds 68 = .ok (.invokevirtual 63, 3) := by decide +kernel
theorem dX8_readSeconds_71 : decode cX8_readSeconds 71 = .ok (.ifCond .eq 7, 3) := by decide +kernel
theorem dX8_readSeconds_74 : decode cX8_readSeconds 74 = .ok (.iconst 1, 1) := by decide +kernel
theorem dX8_readSeconds_75 : decode cX8_readSeconds 75 = .ok (.goto 4, 3) := by decide +kernel
theorem dX8_readSeconds_78 : decode cX8_readSeconds 78 = .ok (.iconst 0, 1) := by decide +kernel
theorem dX8_readSeconds_79 : decode cX8_readSeconds 79 = .ok (.ireturn, 1) := by decide +kernel
abbrev YX8_readSeconds : li_Y := (yX8_readSeconds, cX8_readSeconds, 5, (some .boolean))
theorem dX8_readDayAndWorth_0 : decode cX8_readDayAndWorth 0 = .ok (.aload_n 1, 1) := by decide +kernel
theorem dX8_readDayAndWorth_1 : decode cX8_readDayAndWorth 1 = .ok (.iconst 2, 1) := by decide +kernel
theorem dX8_readDayAndWorth_2 : decode cX8_readDayAndWorth 2 = .ok (.invokevirtual 58, 3) := by decide +kernel
theorem dX8_readDayAndWorth_5 : decode cX8_readDayAndWorth 5 = .ok (.istore_n 3, 1) := by decide +kernel
theorem dX8_readDayAndWorth_6 : decode cX8_readDayAndWorth 6 = .ok (.iload_n 3, 1) := by decide +kernel
theorem dX8_readDayAndWorth_7 : decode cX8_readDayAndWorth 7 = .ok (.ifCond .lt 12, 3) := by decide +kernel
theorem dX8_readDayAndWorth_10 : decode cX8_readDayAndWorth 10 = .ok (.aload_n 1, 1) := by decide +kernel
theorem dX8_readDayAndWorth_11 : decode cX8_readDayAndWorth 11 = .ok (.bipush 61, 2) := by decide +kernel
theorem dX8_readDayAndWorth_13 : decode cX8_readDayAndWorth 13 = .ok (.invokevirtual 63, 3) := by decide +kernel
theorem dX8_readDayAndWorth_16 : decode cX8_readDayAndWorth 16 = .ok (.ifCond .ne 5, 3) := by decide +kernel
theorem dX8_readDayAndWorth_19 : decode cX8_readDayAndWorth 19 = .ok (.iconst 0, 1) := by decide +kernel
theorem dX8_readDayAndWorth_20 : decode cX8_readDayAndWorth 20 = .ok (.ireturn, 1) := by decide +kernel
theorem dX8_readDayAndWorth_21 : decode cX8_readDayAndWorth 21 = .ok (.aload_n 1, 1) := by decide +kernel
theorem dX8_readDayAndWorth_22 : decode cX8_readDayAndWorth 22 = .ok (.iconst 2, 1) := by decide +kernel
theorem dX8_readDayAndWorth_23 : decode cX8_readDayAndWorth 23 = .ok (.invokevirtual 58, 3) := by decide +kernel
theorem dX8_readDayAndWorth_26 : decode cX8_readDayAndWorth 26 = .ok (.istore 4, 2) := by decide +kernel
theorem dX8_readDayAndWorth_28 : decode cX8_readDayAndWorth 28 = .ok (.aload_n 0, 1) := by decide +kernel
theorem dX8_readDayAndWorth_29 : decode cX8_readDayAndWorth 29 = .ok (.getfield 27, 3) := by decide +kernel
theorem dX8_readDayAndWorth_32 : decode cX8_readDayAndWorth 32 = .ok (.iload_n 2, 1) := by decide +kernel
theorem dX8_readDayAndWorth_33 : decode cX8_readDayAndWorth 33 = .ok (.iload_n 3, 1) := by decide +kernel
theorem dX8_readDayAndWorth_34 : decode cX8_readDayAndWorth 34 = .ok (.invokestatic 66, 3) := by decide +kernel
theorem dX8_readDayAndWorth_37 : decode cX8_readDayAndWorth 37 = .ok (.aload_n 0, 1) := by decide +kernel
theorem dX8_readDayAndWorth_38 : decode cX8_readDayAndWorth 38 = .ok (.getfield 30, 3) := by decide +kernel
theorem dX8_readDayAndWorth_41 : decode cX8_readDayAndWorth 41 = .ok (.iload_n 2, 1) := by decide +kernel
theorem dX8_readDayAndWorth_42 : decode cX8_readDayAndWorth 42 = .ok (.iload 4, 2) := by decide +kernel
theorem dX8_readDayAndWorth_44 : decode cX8_readDayAndWorth 44 = .ok (.invokestatic 66, 3) := by decide +kernel
theorem dX8_readDayAndWorth_47 : decode cX8_readDayAndWorth 47 = .ok (.iload 4, 2) := by decide +kernel
theorem dX8_readDayAndWorth_49 : decode cX8_readDayAndWorth 49 = .ok (.ifCond .lt 7, 3) := by decide +kernel
theorem dX8_readDayAndWorth_52 : decode cX8_readDayAndWorth 52 = .ok (.iconst 1, 1) := by decide +kernel
theorem dX8_readDayAndWorth_53 : decode cX8_readDayAndWorth 53 = .ok (.goto 4, 3) := by decide +kernel
theorem dX8_readDayAndWorth_56 : decode cX8_readDayAndWorth 56 = .ok (.iconst 0, 1) := by decide +kernel
theorem dX8_readDayAndWorth_57 : decode cX8_readDayAndWorth 57 = .ok (.ireturn, 1) := by decide +kernel
abbrev YX8_readDayAndWorth : li_Y := (yX8_readDayAndWorth, cX8_readDayAndWorth, 5, (some .boolean))
set_option maxRecDepth 100000 in
set_option maxHeartbeats 4000000 in
theorem k_X8_hasPerson {l : Launch} {Z : li_Z} (d : Nat) (hd : 1 ≤ d) (p1 : Int32) (M0 : li_M) : li_Met l Z YX8_hasPerson d [.ref (Z.2.2 5), .int p1] M0 (li_SZ (fun i => False) M0) := by
  refine li_enter (by decide +kernel) (Nat.le_of_ble_eq_true rfl) ?_
  show li_T l Z YX8_hasPerson d 0 [(0, .ref (Z.2.2 5)), (1, .int p1)] [] M0 _
  have hf : li_fr (fun i => False) M0 M0 := li_fr_refl
  refine li_iload_n 1 dX8_hasPerson_0 rfl ?_
  refine li_if_lt 16 dX8_hasPerson_1 (by decide) (fun c1 => ?_) (fun c1 => ?_)
  · refine li_iconst 0 dX8_hasPerson_16 (by decide) ?_
    exact li_iret dX8_hasPerson_17 rfl (li_nz (Or.inl rfl)) ⟨⟨_, rfl, Or.inl rfl⟩, hf⟩
  · refine li_iload_n 1 dX8_hasPerson_4 rfl ?_
    refine li_aload_n 0 dX8_hasPerson_5 rfl ?_
    refine li_geti (k := 0) (N := 9) (T := TX8) (C0 := RX8) dX8_hasPerson_6 (by decide) sh_5 rfl rfl (by decide) li_in8 w_174 ?_
    refine li_top (fun x2 ex2 => ?_)
    refine li_icmp_ge 16 dX8_hasPerson_9 (by decide) (fun c3 => ?_) (fun c3 => ?_)
    · refine li_iconst 0 dX8_hasPerson_16 (by decide) ?_
      exact li_iret dX8_hasPerson_17 rfl (li_nz (Or.inl rfl)) ⟨⟨_, rfl, Or.inl rfl⟩, hf⟩
    · refine li_iconst 1 dX8_hasPerson_12 (by decide) ?_
      refine li_goto 17 dX8_hasPerson_13 (by decide) ?_
      exact li_iret dX8_hasPerson_17 rfl (li_nz (Or.inr rfl)) ⟨⟨_, rfl, Or.inr rfl⟩, hf⟩
set_option maxRecDepth 100000 in
set_option maxHeartbeats 4000000 in
theorem k_X8_hasThing {l : Launch} {Z : li_Z} (d : Nat) (hd : 1 ≤ d) (p1 : Int32) (M0 : li_M) : li_Met l Z YX8_hasThing d [.ref (Z.2.2 5), .int p1] M0 (li_SZ (fun i => False) M0) := by
  refine li_enter (by decide +kernel) (Nat.le_of_ble_eq_true rfl) ?_
  show li_T l Z YX8_hasThing d 0 [(0, .ref (Z.2.2 5)), (1, .int p1)] [] M0 _
  have hf : li_fr (fun i => False) M0 M0 := li_fr_refl
  refine li_iload_n 1 dX8_hasThing_0 rfl ?_
  refine li_if_lt 16 dX8_hasThing_1 (by decide) (fun c1 => ?_) (fun c1 => ?_)
  · refine li_iconst 0 dX8_hasThing_16 (by decide) ?_
    exact li_iret dX8_hasThing_17 rfl (li_nz (Or.inl rfl)) ⟨⟨_, rfl, Or.inl rfl⟩, hf⟩
  · refine li_iload_n 1 dX8_hasThing_4 rfl ?_
    refine li_aload_n 0 dX8_hasThing_5 rfl ?_
    refine li_geti (k := 1) (N := 9) (T := TX8) (C0 := RX8) dX8_hasThing_6 (by decide) sh_5 rfl rfl (by decide) li_in8 w_179 ?_
    refine li_top (fun x2 ex2 => ?_)
    refine li_icmp_ge 16 dX8_hasThing_9 (by decide) (fun c3 => ?_) (fun c3 => ?_)
    · refine li_iconst 0 dX8_hasThing_16 (by decide) ?_
      exact li_iret dX8_hasThing_17 rfl (li_nz (Or.inl rfl)) ⟨⟨_, rfl, Or.inl rfl⟩, hf⟩
    · refine li_iconst 1 dX8_hasThing_12 (by decide) ?_
      refine li_goto 17 dX8_hasThing_13 (by decide) ?_
      exact li_iret dX8_hasThing_17 rfl (li_nz (Or.inr rfl)) ⟨⟨_, rfl, Or.inr rfl⟩, hf⟩
set_option maxRecDepth 100000 in
set_option maxHeartbeats 4000000 in
theorem k_X8_areTwo {l : Launch} {Z : li_Z} (d : Nat) (hd : 2 ≤ d) (p1 : Int32) (p2 : Int32) (M0 : li_M) : li_Met l Z YX8_areTwo d [.ref (Z.2.2 5), .int p1, .int p2] M0 (li_SZ (fun i => False) M0) := by
  refine li_enter (by decide +kernel) (Nat.le_of_ble_eq_true rfl) ?_
  show li_T l Z YX8_areTwo d 0 [(0, .ref (Z.2.2 5)), (1, .int p1), (2, .int p2)] [] M0 _
  have hf : li_fr (fun i => False) M0 M0 := li_fr_refl
  refine li_aload_n 0 dX8_areTwo_0 rfl ?_
  refine li_iload_n 1 dX8_areTwo_1 rfl ?_
  refine li_callV (n := 1) (As := [.int p1]) dX8_areTwo_2 (k_X8_hasPerson (d - 1) (by omega) p1 M0) (by omega) (Nat.le_of_ble_eq_true rfl) w_888 w_759 w_760 w_104 w_761 (by decide +kernel) rfl (by decide) sh_5 rfl rfl (Nat.le_of_ble_eq_true rfl) (fun r M2 h3 => ?_)
  obtain ⟨⟨x1, rfl, bx1⟩, h3⟩ := h3
  have hf := li_fr_trans hf h3 (fun i h => False.elim h)
  refine li_if_eq 25 dX8_areTwo_5 (by decide) (fun c4 => ?_) (fun c4 => ?_)
  · refine li_iconst 0 dX8_areTwo_25 (by decide) ?_
    exact li_iret dX8_areTwo_26 rfl (li_nz (Or.inl rfl)) ⟨⟨_, rfl, Or.inl rfl⟩, hf⟩
  · refine li_aload_n 0 dX8_areTwo_8 rfl ?_
    refine li_iload_n 2 dX8_areTwo_9 rfl ?_
    refine li_callV (n := 1) (As := [.int p2]) dX8_areTwo_10 (k_X8_hasPerson (d - 1) (by omega) p2 M2) (by omega) (Nat.le_of_ble_eq_true rfl) w_888 w_759 w_760 w_104 w_761 (by decide +kernel) rfl (by decide) sh_5 rfl rfl (Nat.le_of_ble_eq_true rfl) (fun r M6 h7 => ?_)
    obtain ⟨⟨x5, rfl, bx5⟩, h7⟩ := h7
    have hf := li_fr_trans hf h7 (fun i h => False.elim h)
    refine li_if_eq 25 dX8_areTwo_13 (by decide) (fun c8 => ?_) (fun c8 => ?_)
    · refine li_iconst 0 dX8_areTwo_25 (by decide) ?_
      exact li_iret dX8_areTwo_26 rfl (li_nz (Or.inl rfl)) ⟨⟨_, rfl, Or.inl rfl⟩, hf⟩
    · refine li_iload_n 1 dX8_areTwo_16 rfl ?_
      refine li_iload_n 2 dX8_areTwo_17 rfl ?_
      refine li_icmp_eq 25 dX8_areTwo_18 (by decide) (fun c9 => ?_) (fun c9 => ?_)
      · refine li_iconst 0 dX8_areTwo_25 (by decide) ?_
        exact li_iret dX8_areTwo_26 rfl (li_nz (Or.inl rfl)) ⟨⟨_, rfl, Or.inl rfl⟩, hf⟩
      · refine li_iconst 1 dX8_areTwo_21 (by decide) ?_
        refine li_goto 26 dX8_areTwo_22 (by decide) ?_
        exact li_iret dX8_areTwo_26 rfl (li_nz (Or.inr rfl)) ⟨⟨_, rfl, Or.inr rfl⟩, hf⟩
set_option maxRecDepth 100000 in
set_option maxHeartbeats 4000000 in
theorem k_X8_apart {l : Launch} {Z : li_Z} (d : Nat) (hd : 2 ≤ d) (p1 : Int32) (p2 : Int32) (M0 : li_M) : li_Met l Z YX8_apart d [.ref (Z.2.2 5), .int p1, .int p2] M0 (li_SI (fun i => False) M0) := by
  refine li_enter (by decide +kernel) (Nat.le_of_ble_eq_true rfl) ?_
  show li_T l Z YX8_apart d 0 [(0, .ref (Z.2.2 5)), (1, .int p1), (2, .int p2)] [] M0 _
  have hf : li_fr (fun i => False) M0 M0 := li_fr_refl
  refine li_aload_n 0 dX8_apart_0 rfl ?_
  refine li_getr (k := 2) (N := 9) (T := TX8) (C0 := RX8) dX8_apart_1 (by decide) sh_5 rfl rfl (by decide) (by decide) li_in8 w_183 ?_
  refine li_iload_n 1 dX8_apart_4 rfl ?_
  refine li_callN (n := 2) (As := [.ref (Z.2.2 6), .int p1]) dX8_apart_5 (k_X11_at (d - 1) (by omega) (by decide) sh_6 (by decide) p1 M0) (by omega) (Nat.le_of_ble_eq_true rfl) nw_15 w_569 w_101 w_570 (by decide +kernel) rfl rfl (Nat.le_of_ble_eq_true rfl) (fun r M2 h3 => ?_)
  obtain ⟨⟨x1, rfl⟩, h3⟩ := h3
  have hf := li_fr_trans hf h3 (fun i h => False.elim h)
  refine li_aload_n 0 dX8_apart_8 rfl ?_
  refine li_getr (k := 2) (N := 9) (T := TX8) (C0 := RX8) dX8_apart_9 (by decide) sh_5 rfl rfl (by decide) (by decide) li_in8 w_183 ?_
  refine li_iload_n 2 dX8_apart_12 rfl ?_
  refine li_callN (n := 2) (As := [.ref (Z.2.2 6), .int p2]) dX8_apart_13 (k_X11_at (d - 1) (by omega) (by decide) sh_6 (by decide) p2 M2) (by omega) (Nat.le_of_ble_eq_true rfl) nw_15 w_569 w_101 w_570 (by decide +kernel) rfl rfl (Nat.le_of_ble_eq_true rfl) (fun r M5 h6 => ?_)
  obtain ⟨⟨x4, rfl⟩, h6⟩ := h6
  have hf := li_fr_trans hf h6 (fun i h => False.elim h)
  refine li_isub dX8_apart_16 ?_
  refine li_top (fun x7 ex7 => ?_)
  refine li_mabs dX8_apart_17 (by omega) w_801 w_802 w_113 w_803 (Nat.le_of_ble_eq_true rfl) ?_
  refine li_top (fun x8 ex8 => ?_)
  exact li_iret dX8_apart_20 rfl rfl ⟨⟨_, rfl⟩, hf⟩
set_option maxRecDepth 100000 in
set_option maxHeartbeats 4000000 in
theorem k_X8_apartFor {l : Launch} {Z : li_Z} (d : Nat) (hd : 3 ≤ d) (p1 : Int32) (M0 : li_M) : li_Met l Z YX8_apartFor d [.ref (Z.2.2 5), .int p1] M0 (li_SI (fun i => False) M0) := by
  refine li_enter (by decide +kernel) (Nat.le_of_ble_eq_true rfl) ?_
  show li_T l Z YX8_apartFor d 0 [(0, .ref (Z.2.2 5)), (1, .int p1)] [] M0 _
  have hf : li_fr (fun i => False) M0 M0 := li_fr_refl
  refine li_aload_n 0 dX8_apartFor_0 rfl ?_
  refine li_aload_n 0 dX8_apartFor_1 rfl ?_
  refine li_getr (k := 4) (N := 9) (T := TX8) (C0 := RX8) dX8_apartFor_2 (by decide) sh_5 rfl rfl (by decide) (by decide) li_in8 w_188 ?_
  refine li_iload_n 1 dX8_apartFor_5 rfl ?_
  refine li_callN (n := 2) (As := [.ref (Z.2.2 8), .int p1]) dX8_apartFor_6 (k_X11_at (d - 1) (by omega) (by decide) sh_8 (by decide) p1 M0) (by omega) (Nat.le_of_ble_eq_true rfl) nw_15 w_569 w_101 w_570 (by decide +kernel) rfl rfl (Nat.le_of_ble_eq_true rfl) (fun r M2 h3 => ?_)
  obtain ⟨⟨x1, rfl⟩, h3⟩ := h3
  have hf := li_fr_trans hf h3 (fun i h => False.elim h)
  refine li_aload_n 0 dX8_apartFor_9 rfl ?_
  refine li_getr (k := 5) (N := 9) (T := TX8) (C0 := RX8) dX8_apartFor_10 (by decide) sh_5 rfl rfl (by decide) (by decide) li_in8 w_191 ?_
  refine li_iload_n 1 dX8_apartFor_13 rfl ?_
  refine li_callN (n := 2) (As := [.ref (Z.2.2 9), .int p1]) dX8_apartFor_14 (k_X11_at (d - 1) (by omega) (by decide) sh_9 (by decide) p1 M2) (by omega) (Nat.le_of_ble_eq_true rfl) nw_15 w_569 w_101 w_570 (by decide +kernel) rfl rfl (Nat.le_of_ble_eq_true rfl) (fun r M5 h6 => ?_)
  obtain ⟨⟨x4, rfl⟩, h6⟩ := h6
  have hf := li_fr_trans hf h6 (fun i h => False.elim h)
  refine li_callV (n := 2) (As := [.int x1, .int x4]) dX8_apartFor_17 (k_X8_apart (d - 1) (by omega) x1 x4 M5) (by omega) (Nat.le_of_ble_eq_true rfl) w_797 w_798 w_799 w_104 w_800 (by decide +kernel) rfl (by decide) sh_5 rfl rfl (Nat.le_of_ble_eq_true rfl) (fun r M8 h9 => ?_)
  obtain ⟨⟨x7, rfl⟩, h9⟩ := h9
  have hf := li_fr_trans hf h9 (fun i h => False.elim h)
  exact li_iret dX8_apartFor_20 rfl rfl ⟨⟨_, rfl⟩, hf⟩
set_option maxRecDepth 100000 in
set_option maxHeartbeats 4000000 in
theorem k_X8_thingsOf {l : Launch} {Z : li_Z} (d : Nat) (hd : 2 ≤ d) (p1 : Int32) (M0 : li_M) : li_Met l Z YX8_thingsOf d [.ref (Z.2.2 5), .int p1] M0 (li_SI (fun i => False) M0) := by
  refine li_enter (by decide +kernel) (Nat.le_of_ble_eq_true rfl) ?_
  show li_T l Z YX8_thingsOf d 0 [(0, .ref (Z.2.2 5)), (1, .int p1)] [] M0 _
  have hf : li_fr (fun i => False) M0 M0 := li_fr_refl
  refine li_iconst 0 dX8_thingsOf_0 (by decide) ?_
  refine li_istore_n [(2, .int 0), (0, .ref (Z.2.2 5)), (1, .int p1)] dX8_thingsOf_1 (by decide) rfl ?_
  refine li_iconst 0 dX8_thingsOf_2 (by decide) ?_
  refine li_istore_n [(3, .int 0), (2, .int 0), (0, .ref (Z.2.2 5)), (1, .int p1)] dX8_thingsOf_3 (by decide) rfl ?_
  have L4 : ∀ (n : Nat) (x1 : Int32) (x2 : Int32) (M3 : li_M), (2147483647 - (x1 : Int32).toInt).toNat < n → li_fr (fun i => False) M0 M3 → li_T l Z YX8_thingsOf d 4 [(3, .int x1), (2, .int x2), (0, .ref (Z.2.2 5)), (1, .int p1)] [] M3 (li_SI (fun i => False) M0) := by
    intro n
    induction n with
    | zero => intro x1 x2 M3 hn; exact absurd hn (Nat.not_lt_zero _)
    | succ n ih4 =>
      intro x1 x2 M3 hn hf
      refine li_iload_n 0 dX8_thingsOf_4 rfl ?_
      refine li_aload_n 2 dX8_thingsOf_5 rfl ?_
      refine li_geti (k := 1) (N := 9) (T := TX8) (C0 := RX8) dX8_thingsOf_6 (by decide) sh_5 rfl rfl (by decide) li_in8 w_179 ?_
      refine li_top (fun x4 ex4 => ?_)
      refine li_icmp_ge 36 dX8_thingsOf_9 (by decide) (fun c5 => ?_) (fun c5 => ?_)
      · refine li_iload_n 1 dX8_thingsOf_36 rfl ?_
        exact li_iret dX8_thingsOf_37 rfl rfl ⟨⟨_, rfl⟩, hf⟩
      · refine li_aload_n 2 dX8_thingsOf_12 rfl ?_
        refine li_getr (k := 4) (N := 9) (T := TX8) (C0 := RX8) dX8_thingsOf_13 (by decide) sh_5 rfl rfl (by decide) (by decide) li_in8 w_188 ?_
        refine li_iload_n 0 dX8_thingsOf_16 rfl ?_
        refine li_callN (n := 2) (As := [.ref (Z.2.2 8), .int x1]) dX8_thingsOf_17 (k_X11_at (d - 1) (by omega) (by decide) sh_8 (by decide) x1 M3) (by omega) (Nat.le_of_ble_eq_true rfl) nw_15 w_569 w_101 w_570 (by decide +kernel) rfl rfl (Nat.le_of_ble_eq_true rfl) (fun r M7 h8 => ?_)
        obtain ⟨⟨x6, rfl⟩, h8⟩ := h8
        have hf := li_fr_trans hf h8 (fun i h => False.elim h)
        refine li_iload_n 3 dX8_thingsOf_20 rfl ?_
        have J30 : ∀ (x10 : Int32) (M11 : li_M), li_fr (fun i => False) M0 M11 → li_T l Z YX8_thingsOf d 30 [(3, .int x1), (2, .int x10), (0, .ref (Z.2.2 5)), (1, .int p1)] [] M11 (li_SI (fun i => False) M0) := by
          intro x10 M11 hf
          obtain ⟨x12, ex12⟩ : ∃ y : Int32, y = x1 + 1 := ⟨_, rfl⟩
          refine li_iinc 0 [(3, .int x12), (2, .int x10), (0, .ref (Z.2.2 5)), (1, .int p1)] x12 dX8_thingsOf_30 rfl (by rw [ex12]; rfl) (by decide) rfl ?_
          refine li_goto 4 dX8_thingsOf_33 (by decide) ?_
          refine li_pick [0, 1, 2, 3] [(3, .int x12), (2, .int x10), (0, .ref (Z.2.2 5)), (1, .int p1)] rfl ?_
          exact ih4 x12 x10 M11 (by have h9 := li_up (li_gt c5); rw [← ex12] at h9; omega) hf
        refine li_icmp_ne 30 dX8_thingsOf_21 (by decide) (fun c9 => ?_) (fun c9 => ?_)
        · refine li_pick [0, 1, 2, 3] [(3, .int x1), (2, .int x2), (0, .ref (Z.2.2 5)), (1, .int p1)] rfl ?_
          exact J30 x2 M7 hf
        · refine li_iload_n 1 dX8_thingsOf_24 rfl ?_
          refine li_iconst 1 dX8_thingsOf_25 (by decide) ?_
          refine li_iload_n 0 dX8_thingsOf_26 rfl ?_
          refine li_ishl dX8_thingsOf_27 ?_
          refine li_top (fun x13 ex13 => ?_)
          refine li_ior dX8_thingsOf_28 ?_
          refine li_top (fun x14 ex14 => ?_)
          refine li_istore_n [(2, .int x14), (3, .int x1), (0, .ref (Z.2.2 5)), (1, .int p1)] dX8_thingsOf_29 (by decide) rfl ?_
          refine li_pick [1, 0, 2, 3] [(3, .int x1), (2, .int x14), (0, .ref (Z.2.2 5)), (1, .int p1)] rfl ?_
          exact J30 x14 M7 hf
  exact L4 _ 0 0 M0 (Nat.lt_succ_self _) hf
set_option maxRecDepth 100000 in
set_option maxHeartbeats 4000000 in
theorem k_X8_readTwo {l : Launch} {Z : li_Z} (d : Nat) (hd : 3 ≤ d) (p1 : Int32) (M0 : li_M) : li_Met l Z YX8_readTwo d [.ref (Z.2.2 5), .ref (Z.2.2 1), .int p1] M0 (li_SZ (fun i => i = 1 ∨ i = 8 ∨ i = 9) M0) := by
  refine li_enter (by decide +kernel) (Nat.le_of_ble_eq_true rfl) ?_
  show li_T l Z YX8_readTwo d 0 [(0, .ref (Z.2.2 5)), (1, .ref (Z.2.2 1)), (2, .int p1)] [] M0 _
  have hf : li_fr (fun i => i = 1 ∨ i = 8 ∨ i = 9) M0 M0 := li_fr_refl
  refine li_aload_n 1 dX8_readTwo_0 rfl ?_
  refine li_bipush 97 dX8_readTwo_1 (by decide) ?_
  refine li_aload_n 0 dX8_readTwo_3 rfl ?_
  refine li_geti (k := 0) (N := 9) (T := TX8) (C0 := RX8) dX8_readTwo_4 (by decide) sh_5 rfl rfl (by decide) li_in8 w_174 ?_
  refine li_top (fun x1 ex1 => ?_)
  refine li_callV (n := 2) (As := [.int 97, .int x1]) dX8_readTwo_7 (k_X7_takeOneOf (d - 1) (by omega) 97 x1 M0) (by omega) (Nat.le_of_ble_eq_true rfl) w_687 w_659 w_660 w_102 w_661 (by decide +kernel) rfl (by decide) sh_1 rfl rfl (Nat.le_of_ble_eq_true rfl) (fun r M3 h4 => ?_)
  obtain ⟨⟨x2, rfl⟩, h4⟩ := h4
  have hf := li_fr_trans hf h4 (fun i (h : i = 1) => (show i = 1 ∨ i = 8 ∨ i = 9 by omega))
  refine li_istore_n [(3, .int x2), (0, .ref (Z.2.2 5)), (1, .ref (Z.2.2 1)), (2, .int p1)] dX8_readTwo_10 (by decide) rfl ?_
  refine li_iload_n 0 dX8_readTwo_11 rfl ?_
  refine li_if_ge 17 dX8_readTwo_12 (by decide) (fun c5 => ?_) (fun c5 => ?_)
  · refine li_aload_n 2 dX8_readTwo_17 rfl ?_
    refine li_bipush 97 dX8_readTwo_18 (by decide) ?_
    refine li_aload_n 1 dX8_readTwo_20 rfl ?_
    refine li_geti (k := 0) (N := 9) (T := TX8) (C0 := RX8) dX8_readTwo_21 (by decide) sh_5 rfl rfl (by decide) li_in8 w_174 ?_
    refine li_top (fun x6 ex6 => ?_)
    refine li_callV (n := 2) (As := [.int 97, .int x6]) dX8_readTwo_24 (k_X7_takeOneOf (d - 1) (by omega) 97 x6 M3) (by omega) (Nat.le_of_ble_eq_true rfl) w_687 w_659 w_660 w_102 w_661 (by decide +kernel) rfl (by decide) sh_1 rfl rfl (Nat.le_of_ble_eq_true rfl) (fun r M8 h9 => ?_)
    obtain ⟨⟨x7, rfl⟩, h9⟩ := h9
    have hf := li_fr_trans hf h9 (fun i (h : i = 1) => (show i = 1 ∨ i = 8 ∨ i = 9 by omega))
    refine li_istore [(4, .int x7), (3, .int x2), (0, .ref (Z.2.2 5)), (1, .ref (Z.2.2 1)), (2, .int p1)] dX8_readTwo_27 (by decide) rfl ?_
    refine li_iload 0 dX8_readTwo_29 rfl ?_
    refine li_if_lt 40 dX8_readTwo_31 (by decide) (fun c10 => ?_) (fun c10 => ?_)
    · refine li_aload_n 3 dX8_readTwo_40 rfl ?_
      refine li_dup dX8_readTwo_41 rfl ?_
      refine li_geti (k := 2) (N := 3) (T := TX7) (C0 := RX7) dX8_readTwo_42 (by decide) sh_1 rfl rfl (by decide) li_in7 w_143 ?_
      refine li_top (fun x11 ex11 => ?_)
      refine li_iload 0 dX8_readTwo_45 rfl ?_
      refine li_if_ge 54 dX8_readTwo_47 (by decide) (fun c12 => ?_) (fun c12 => ?_)
      · refine li_iconst 1 dX8_readTwo_54 (by decide) ?_
        refine li_isub dX8_readTwo_55 ?_
        refine li_top (fun x13 ex13 => ?_)
        refine li_puti (k := 2) (N := 3) (T := TX7) (C0 := RX7) dX8_readTwo_56 (by decide) sh_1 rfl rfl (by decide) li_in7 tyX7_ok nmX7 rfl rfl rfl rfl w_143 ?_
        refine li_nm (fun M14 eM14 => ?_)
        have hf := li_fr_ui hf (show 1 = 1 ∨ 1 = 8 ∨ 1 = 9 by omega) eM14
        refine li_iconst 0 dX8_readTwo_59 (by decide) ?_
        exact li_iret dX8_readTwo_60 rfl (li_nz (Or.inl rfl)) ⟨⟨_, rfl, Or.inl rfl⟩, hf⟩
      · refine li_iconst 0 dX8_readTwo_50 (by decide) ?_
        refine li_goto 55 dX8_readTwo_51 (by decide) ?_
        refine li_isub dX8_readTwo_55 ?_
        refine li_top (fun x15 ex15 => ?_)
        refine li_puti (k := 2) (N := 3) (T := TX7) (C0 := RX7) dX8_readTwo_56 (by decide) sh_1 rfl rfl (by decide) li_in7 tyX7_ok nmX7 rfl rfl rfl rfl w_143 ?_
        refine li_nm (fun M16 eM16 => ?_)
        have hf := li_fr_ui hf (show 1 = 1 ∨ 1 = 8 ∨ 1 = 9 by omega) eM16
        refine li_iconst 0 dX8_readTwo_59 (by decide) ?_
        exact li_iret dX8_readTwo_60 rfl (li_nz (Or.inl rfl)) ⟨⟨_, rfl, Or.inl rfl⟩, hf⟩
    · refine li_iload 0 dX8_readTwo_34 rfl ?_
      refine li_iload_n 1 dX8_readTwo_36 rfl ?_
      refine li_icmp_ne 61 dX8_readTwo_37 (by decide) (fun c17 => ?_) (fun c17 => ?_)
      · refine li_aload_n 2 dX8_readTwo_61 rfl ?_
        refine li_getr (k := 4) (N := 9) (T := TX8) (C0 := RX8) dX8_readTwo_62 (by decide) sh_5 rfl rfl (by decide) (by decide) li_in8 w_188 ?_
        refine li_iload_n 4 dX8_readTwo_65 rfl ?_
        refine li_iload_n 1 dX8_readTwo_66 rfl ?_
        refine li_callN (n := 3) (As := [.ref (Z.2.2 8), .int p1, .int x2]) dX8_readTwo_67 (k_X11_put (d - 1) (by omega) (by decide) sh_8 (by decide) p1 x2 M8) (by omega) (Nat.le_of_ble_eq_true rfl) nw_12 w_522 w_101 w_523 (by decide +kernel) rfl rfl (Nat.le_of_ble_eq_true rfl) (fun r M19 h20 => ?_)
        obtain ⟨rfl, h20⟩ := h20
        have hf := li_fr_trans hf h20 (fun i (h : i = 8) => (show i = 1 ∨ i = 8 ∨ i = 9 by omega))
        refine li_aload_n 2 dX8_readTwo_70 rfl ?_
        refine li_getr (k := 5) (N := 9) (T := TX8) (C0 := RX8) dX8_readTwo_71 (by decide) sh_5 rfl rfl (by decide) (by decide) li_in8 w_191 ?_
        refine li_iload_n 4 dX8_readTwo_74 rfl ?_
        refine li_iload 0 dX8_readTwo_75 rfl ?_
        refine li_callN (n := 3) (As := [.ref (Z.2.2 9), .int p1, .int x7]) dX8_readTwo_77 (k_X11_put (d - 1) (by omega) (by decide) sh_9 (by decide) p1 x7 M19) (by omega) (Nat.le_of_ble_eq_true rfl) nw_12 w_522 w_101 w_523 (by decide +kernel) rfl rfl (Nat.le_of_ble_eq_true rfl) (fun r M22 h23 => ?_)
        obtain ⟨rfl, h23⟩ := h23
        have hf := li_fr_trans hf h23 (fun i (h : i = 9) => (show i = 1 ∨ i = 8 ∨ i = 9 by omega))
        refine li_iconst 1 dX8_readTwo_80 (by decide) ?_
        exact li_iret dX8_readTwo_81 rfl (li_nz (Or.inr rfl)) ⟨⟨_, rfl, Or.inr rfl⟩, hf⟩
      · refine li_aload_n 3 dX8_readTwo_40 rfl ?_
        refine li_dup dX8_readTwo_41 rfl ?_
        refine li_geti (k := 2) (N := 3) (T := TX7) (C0 := RX7) dX8_readTwo_42 (by decide) sh_1 rfl rfl (by decide) li_in7 w_143 ?_
        refine li_top (fun x24 ex24 => ?_)
        refine li_iload 0 dX8_readTwo_45 rfl ?_
        refine li_if_ge 54 dX8_readTwo_47 (by decide) (fun c25 => ?_) (fun c25 => ?_)
        · refine li_iconst 1 dX8_readTwo_54 (by decide) ?_
          refine li_isub dX8_readTwo_55 ?_
          refine li_top (fun x26 ex26 => ?_)
          refine li_puti (k := 2) (N := 3) (T := TX7) (C0 := RX7) dX8_readTwo_56 (by decide) sh_1 rfl rfl (by decide) li_in7 tyX7_ok nmX7 rfl rfl rfl rfl w_143 ?_
          refine li_nm (fun M27 eM27 => ?_)
          have hf := li_fr_ui hf (show 1 = 1 ∨ 1 = 8 ∨ 1 = 9 by omega) eM27
          refine li_iconst 0 dX8_readTwo_59 (by decide) ?_
          exact li_iret dX8_readTwo_60 rfl (li_nz (Or.inl rfl)) ⟨⟨_, rfl, Or.inl rfl⟩, hf⟩
        · refine li_iconst 0 dX8_readTwo_50 (by decide) ?_
          refine li_goto 55 dX8_readTwo_51 (by decide) ?_
          refine li_isub dX8_readTwo_55 ?_
          refine li_top (fun x28 ex28 => ?_)
          refine li_puti (k := 2) (N := 3) (T := TX7) (C0 := RX7) dX8_readTwo_56 (by decide) sh_1 rfl rfl (by decide) li_in7 tyX7_ok nmX7 rfl rfl rfl rfl w_143 ?_
          refine li_nm (fun M29 eM29 => ?_)
          have hf := li_fr_ui hf (show 1 = 1 ∨ 1 = 8 ∨ 1 = 9 by omega) eM29
          refine li_iconst 0 dX8_readTwo_59 (by decide) ?_
          exact li_iret dX8_readTwo_60 rfl (li_nz (Or.inl rfl)) ⟨⟨_, rfl, Or.inl rfl⟩, hf⟩
  · refine li_iconst 0 dX8_readTwo_15 (by decide) ?_
    exact li_iret dX8_readTwo_16 rfl (li_nz (Or.inl rfl)) ⟨⟨_, rfl, Or.inl rfl⟩, hf⟩
set_option maxRecDepth 100000 in
set_option maxHeartbeats 4000000 in
theorem k_X8_readSeconds {l : Launch} {Z : li_Z} (d : Nat) (hd : 3 ≤ d) (p1 : Int32) (M0 : li_M) : li_Met l Z YX8_readSeconds d [.ref (Z.2.2 5), .ref (Z.2.2 1), .int p1] M0 (li_SZ (fun i => i = 1 ∨ i = 10) M0) := by
  refine li_enter (by decide +kernel) (Nat.le_of_ble_eq_true rfl) ?_
  show li_T l Z YX8_readSeconds d 0 [(0, .ref (Z.2.2 5)), (1, .ref (Z.2.2 1)), (2, .int p1)] [] M0 _
  have hf : li_fr (fun i => i = 1 ∨ i = 10) M0 M0 := li_fr_refl
  refine li_aload_n 1 dX8_readSeconds_0 rfl ?_
  refine li_geti (k := 2) (N := 3) (T := TX7) (C0 := RX7) dX8_readSeconds_1 (by decide) sh_1 rfl rfl (by decide) li_in7 w_143 ?_
  refine li_top (fun x1 ex1 => ?_)
  refine li_bipush 75 dX8_readSeconds_4 (by decide) ?_
  have J23 : ∀ (x3 : Int32) (M4 : li_M), li_fr (fun i => i = 1 ∨ i = 10) M0 M4 → li_T l Z YX8_readSeconds d 23 [(0, .ref (Z.2.2 5)), (1, .ref (Z.2.2 1)), (2, .int p1)] [.int x3] M4 (li_SZ (fun i => i = 1 ∨ i = 10) M0) := by
    intro x3 M4 hf
    refine li_istore_n [(3, .int x3), (0, .ref (Z.2.2 5)), (1, .ref (Z.2.2 1)), (2, .int p1)] dX8_readSeconds_23 (by decide) rfl ?_
    refine li_aload_n 2 dX8_readSeconds_24 rfl ?_
    refine li_iconst 2 dX8_readSeconds_25 (by decide) ?_
    refine li_callV (n := 1) (As := [.int 2]) dX8_readSeconds_26 (k_X7_takeNumber (d - 1) (by omega) 2 M4) (by omega) (Nat.le_of_ble_eq_true rfl) w_676 w_635 w_636 w_102 w_637 (by decide +kernel) rfl (by decide) sh_1 rfl rfl (Nat.le_of_ble_eq_true rfl) (fun r M6 h7 => ?_)
    obtain ⟨⟨x5, rfl⟩, h7⟩ := h7
    have hf := li_fr_trans hf h7 (fun i (h : i = 1) => (show i = 1 ∨ i = 10 by omega))
    refine li_istore [(4, .int x5), (3, .int x3), (0, .ref (Z.2.2 5)), (1, .ref (Z.2.2 1)), (2, .int p1)] dX8_readSeconds_29 (by decide) rfl ?_
    refine li_iload 0 dX8_readSeconds_31 rfl ?_
    have J50 : ∀  (M9 : li_M), li_fr (fun i => i = 1 ∨ i = 10) M0 M9 → li_T l Z YX8_readSeconds d 50 [(4, .int x5), (3, .int x3), (0, .ref (Z.2.2 5)), (1, .ref (Z.2.2 1)), (2, .int p1)] [] M9 (li_SZ (fun i => i = 1 ∨ i = 10) M0) := by
      intro  M9 hf
      refine li_aload_n 2 dX8_readSeconds_50 rfl ?_
      refine li_getr (k := 6) (N := 9) (T := TX8) (C0 := RX8) dX8_readSeconds_51 (by decide) sh_5 rfl rfl (by decide) (by decide) li_in8 w_194 ?_
      refine li_iload_n 4 dX8_readSeconds_54 rfl ?_
      refine li_iload 0 dX8_readSeconds_55 rfl ?_
      refine li_callN (n := 3) (As := [.ref (Z.2.2 10), .int p1, .int x5]) dX8_readSeconds_57 (k_X11_put (d - 1) (by omega) (by decide) sh_10 (by decide) p1 x5 M9) (by omega) (Nat.le_of_ble_eq_true rfl) nw_12 w_522 w_101 w_523 (by decide +kernel) rfl rfl (Nat.le_of_ble_eq_true rfl) (fun r M11 h12 => ?_)
      obtain ⟨rfl, h12⟩ := h12
      have hf := li_fr_trans hf h12 (fun i (h : i = 10) => (show i = 1 ∨ i = 10 by omega))
      refine li_iload 0 dX8_readSeconds_60 rfl ?_
      refine li_if_le 78 dX8_readSeconds_62 (by decide) (fun c13 => ?_) (fun c13 => ?_)
      · refine li_iconst 0 dX8_readSeconds_78 (by decide) ?_
        exact li_iret dX8_readSeconds_79 rfl (li_nz (Or.inl rfl)) ⟨⟨_, rfl, Or.inl rfl⟩, hf⟩
      · refine li_aload_n 3 dX8_readSeconds_65 rfl ?_
        refine li_bipush 45 dX8_readSeconds_66 (by decide) ?_
        refine li_callV (n := 1) (As := [.int 45]) dX8_readSeconds_68 (k_X7_skip (d - 1) (by omega) 45 M11) (by omega) (Nat.le_of_ble_eq_true rfl) w_677 w_565 w_566 w_102 w_567 (by decide +kernel) rfl (by decide) sh_1 rfl rfl (Nat.le_of_ble_eq_true rfl) (fun r M15 h16 => ?_)
        obtain ⟨⟨x14, rfl, bx14⟩, h16⟩ := h16
        have hf := li_fr_trans hf h16 (fun i (h : i = 1) => (show i = 1 ∨ i = 10 by omega))
        refine li_if_eq 78 dX8_readSeconds_71 (by decide) (fun c17 => ?_) (fun c17 => ?_)
        · refine li_iconst 0 dX8_readSeconds_78 (by decide) ?_
          exact li_iret dX8_readSeconds_79 rfl (li_nz (Or.inl rfl)) ⟨⟨_, rfl, Or.inl rfl⟩, hf⟩
        · refine li_iconst 1 dX8_readSeconds_74 (by decide) ?_
          refine li_goto 79 dX8_readSeconds_75 (by decide) ?_
          exact li_iret dX8_readSeconds_79 rfl (li_nz (Or.inr rfl)) ⟨⟨_, rfl, Or.inr rfl⟩, hf⟩
    refine li_if_ne 50 dX8_readSeconds_33 (by decide) (fun c8 => ?_) (fun c8 => ?_)
    · refine li_pick [0, 1, 2, 3, 4] [(4, .int x5), (3, .int x3), (0, .ref (Z.2.2 5)), (1, .ref (Z.2.2 1)), (2, .int p1)] rfl ?_
      exact J50  M6 hf
    · refine li_iload_n 1 dX8_readSeconds_36 rfl ?_
      refine li_if_ne 50 dX8_readSeconds_37 (by decide) (fun c18 => ?_) (fun c18 => ?_)
      · refine li_pick [0, 1, 2, 3, 4] [(4, .int x5), (3, .int x3), (0, .ref (Z.2.2 5)), (1, .ref (Z.2.2 1)), (2, .int p1)] rfl ?_
        exact J50  M6 hf
      · refine li_aload_n 3 dX8_readSeconds_40 rfl ?_
        refine li_dup dX8_readSeconds_41 rfl ?_
        refine li_geti (k := 2) (N := 3) (T := TX7) (C0 := RX7) dX8_readSeconds_42 (by decide) sh_1 rfl rfl (by decide) li_in7 w_143 ?_
        refine li_top (fun x19 ex19 => ?_)
        refine li_iconst 1 dX8_readSeconds_45 (by decide) ?_
        refine li_isub dX8_readSeconds_46 ?_
        refine li_top (fun x20 ex20 => ?_)
        refine li_puti (k := 2) (N := 3) (T := TX7) (C0 := RX7) dX8_readSeconds_47 (by decide) sh_1 rfl rfl (by decide) li_in7 tyX7_ok nmX7 rfl rfl rfl rfl w_143 ?_
        refine li_nm (fun M21 eM21 => ?_)
        have hf := li_fr_ui hf (show 1 = 1 ∨ 1 = 10 by omega) eM21
        refine li_pick [0, 1, 2, 3, 4] [(4, .int x5), (3, .int x3), (0, .ref (Z.2.2 5)), (1, .ref (Z.2.2 1)), (2, .int p1)] rfl ?_
        exact J50  M21 hf
  refine li_icmp_ne 22 dX8_readSeconds_6 (by decide) (fun c2 => ?_) (fun c2 => ?_)
  · refine li_iconst 0 dX8_readSeconds_22 (by decide) ?_
    refine li_pick [0, 1, 2] [(0, .ref (Z.2.2 5)), (1, .ref (Z.2.2 1)), (2, .int p1)] rfl ?_
    exact J23 0 M0 hf
  · refine li_aload_n 1 dX8_readSeconds_9 rfl ?_
    refine li_geti (k := 1) (N := 3) (T := TX7) (C0 := RX7) dX8_readSeconds_10 (by decide) sh_1 rfl rfl (by decide) li_in7 w_141 ?_
    refine li_top (fun x22 ex22 => ?_)
    refine li_bipush 76 dX8_readSeconds_13 (by decide) ?_
    refine li_icmp_le 22 dX8_readSeconds_15 (by decide) (fun c23 => ?_) (fun c23 => ?_)
    · refine li_iconst 0 dX8_readSeconds_22 (by decide) ?_
      refine li_pick [0, 1, 2] [(0, .ref (Z.2.2 5)), (1, .ref (Z.2.2 1)), (2, .int p1)] rfl ?_
      exact J23 0 M0 hf
    · refine li_iconst 1 dX8_readSeconds_18 (by decide) ?_
      refine li_goto 23 dX8_readSeconds_19 (by decide) ?_
      refine li_pick [0, 1, 2] [(0, .ref (Z.2.2 5)), (1, .ref (Z.2.2 1)), (2, .int p1)] rfl ?_
      exact J23 1 M0 hf
set_option maxRecDepth 100000 in
set_option maxHeartbeats 4000000 in
theorem k_X8_readDayAndWorth {l : Launch} {Z : li_Z} (d : Nat) (hd : 3 ≤ d) (p1 : Int32) (M0 : li_M) : li_Met l Z YX8_readDayAndWorth d [.ref (Z.2.2 5), .ref (Z.2.2 1), .int p1] M0 (li_SZ (fun i => i = 1 ∨ i = 11 ∨ i = 12) M0) := by
  refine li_enter (by decide +kernel) (Nat.le_of_ble_eq_true rfl) ?_
  show li_T l Z YX8_readDayAndWorth d 0 [(0, .ref (Z.2.2 5)), (1, .ref (Z.2.2 1)), (2, .int p1)] [] M0 _
  have hf : li_fr (fun i => i = 1 ∨ i = 11 ∨ i = 12) M0 M0 := li_fr_refl
  refine li_aload_n 1 dX8_readDayAndWorth_0 rfl ?_
  refine li_iconst 2 dX8_readDayAndWorth_1 (by decide) ?_
  refine li_callV (n := 1) (As := [.int 2]) dX8_readDayAndWorth_2 (k_X7_takeNumber (d - 1) (by omega) 2 M0) (by omega) (Nat.le_of_ble_eq_true rfl) w_676 w_635 w_636 w_102 w_637 (by decide +kernel) rfl (by decide) sh_1 rfl rfl (Nat.le_of_ble_eq_true rfl) (fun r M2 h3 => ?_)
  obtain ⟨⟨x1, rfl⟩, h3⟩ := h3
  have hf := li_fr_trans hf h3 (fun i (h : i = 1) => (show i = 1 ∨ i = 11 ∨ i = 12 by omega))
  refine li_istore_n [(3, .int x1), (0, .ref (Z.2.2 5)), (1, .ref (Z.2.2 1)), (2, .int p1)] dX8_readDayAndWorth_5 (by decide) rfl ?_
  refine li_iload_n 0 dX8_readDayAndWorth_6 rfl ?_
  refine li_if_lt 19 dX8_readDayAndWorth_7 (by decide) (fun c4 => ?_) (fun c4 => ?_)
  · refine li_iconst 0 dX8_readDayAndWorth_19 (by decide) ?_
    exact li_iret dX8_readDayAndWorth_20 rfl (li_nz (Or.inl rfl)) ⟨⟨_, rfl, Or.inl rfl⟩, hf⟩
  · refine li_aload_n 2 dX8_readDayAndWorth_10 rfl ?_
    refine li_bipush 61 dX8_readDayAndWorth_11 (by decide) ?_
    refine li_callV (n := 1) (As := [.int 61]) dX8_readDayAndWorth_13 (k_X7_skip (d - 1) (by omega) 61 M2) (by omega) (Nat.le_of_ble_eq_true rfl) w_677 w_565 w_566 w_102 w_567 (by decide +kernel) rfl (by decide) sh_1 rfl rfl (Nat.le_of_ble_eq_true rfl) (fun r M6 h7 => ?_)
    obtain ⟨⟨x5, rfl, bx5⟩, h7⟩ := h7
    have hf := li_fr_trans hf h7 (fun i (h : i = 1) => (show i = 1 ∨ i = 11 ∨ i = 12 by omega))
    refine li_if_ne 21 dX8_readDayAndWorth_16 (by decide) (fun c8 => ?_) (fun c8 => ?_)
    · refine li_aload_n 2 dX8_readDayAndWorth_21 rfl ?_
      refine li_iconst 2 dX8_readDayAndWorth_22 (by decide) ?_
      refine li_callV (n := 1) (As := [.int 2]) dX8_readDayAndWorth_23 (k_X7_takeNumber (d - 1) (by omega) 2 M6) (by omega) (Nat.le_of_ble_eq_true rfl) w_676 w_635 w_636 w_102 w_637 (by decide +kernel) rfl (by decide) sh_1 rfl rfl (Nat.le_of_ble_eq_true rfl) (fun r M10 h11 => ?_)
      obtain ⟨⟨x9, rfl⟩, h11⟩ := h11
      have hf := li_fr_trans hf h11 (fun i (h : i = 1) => (show i = 1 ∨ i = 11 ∨ i = 12 by omega))
      refine li_istore [(4, .int x9), (3, .int x1), (0, .ref (Z.2.2 5)), (1, .ref (Z.2.2 1)), (2, .int p1)] dX8_readDayAndWorth_26 (by decide) rfl ?_
      refine li_aload_n 2 dX8_readDayAndWorth_28 rfl ?_
      refine li_getr (k := 7) (N := 9) (T := TX8) (C0 := RX8) dX8_readDayAndWorth_29 (by decide) sh_5 rfl rfl (by decide) (by decide) li_in8 w_197 ?_
      refine li_iload_n 4 dX8_readDayAndWorth_32 rfl ?_
      refine li_iload_n 1 dX8_readDayAndWorth_33 rfl ?_
      refine li_callN (n := 3) (As := [.ref (Z.2.2 11), .int p1, .int x1]) dX8_readDayAndWorth_34 (k_X11_put (d - 1) (by omega) (by decide) sh_11 (by decide) p1 x1 M10) (by omega) (Nat.le_of_ble_eq_true rfl) nw_12 w_522 w_101 w_523 (by decide +kernel) rfl rfl (Nat.le_of_ble_eq_true rfl) (fun r M13 h14 => ?_)
      obtain ⟨rfl, h14⟩ := h14
      have hf := li_fr_trans hf h14 (fun i (h : i = 11) => (show i = 1 ∨ i = 11 ∨ i = 12 by omega))
      refine li_aload_n 2 dX8_readDayAndWorth_37 rfl ?_
      refine li_getr (k := 8) (N := 9) (T := TX8) (C0 := RX8) dX8_readDayAndWorth_38 (by decide) sh_5 rfl rfl (by decide) (by decide) li_in8 w_201 ?_
      refine li_iload_n 4 dX8_readDayAndWorth_41 rfl ?_
      refine li_iload 0 dX8_readDayAndWorth_42 rfl ?_
      refine li_callN (n := 3) (As := [.ref (Z.2.2 12), .int p1, .int x9]) dX8_readDayAndWorth_44 (k_X11_put (d - 1) (by omega) (by decide) sh_12 (by decide) p1 x9 M13) (by omega) (Nat.le_of_ble_eq_true rfl) nw_12 w_522 w_101 w_523 (by decide +kernel) rfl rfl (Nat.le_of_ble_eq_true rfl) (fun r M16 h17 => ?_)
      obtain ⟨rfl, h17⟩ := h17
      have hf := li_fr_trans hf h17 (fun i (h : i = 12) => (show i = 1 ∨ i = 11 ∨ i = 12 by omega))
      refine li_iload 0 dX8_readDayAndWorth_47 rfl ?_
      refine li_if_lt 56 dX8_readDayAndWorth_49 (by decide) (fun c18 => ?_) (fun c18 => ?_)
      · refine li_iconst 0 dX8_readDayAndWorth_56 (by decide) ?_
        exact li_iret dX8_readDayAndWorth_57 rfl (li_nz (Or.inl rfl)) ⟨⟨_, rfl, Or.inl rfl⟩, hf⟩
      · refine li_iconst 1 dX8_readDayAndWorth_52 (by decide) ?_
        refine li_goto 57 dX8_readDayAndWorth_53 (by decide) ?_
        exact li_iret dX8_readDayAndWorth_57 rfl (li_nz (Or.inr rfl)) ⟨⟨_, rfl, Or.inr rfl⟩, hf⟩
    · refine li_iconst 0 dX8_readDayAndWorth_19 (by decide) ?_
      exact li_iret dX8_readDayAndWorth_20 rfl (li_nz (Or.inl rfl)) ⟨⟨_, rfl, Or.inl rfl⟩, hf⟩
