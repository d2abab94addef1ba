theorem w_101 : (Jvm.Cond.initialized "ClockForTalk") ∈ li_ws := li_mem 101 (by decide +kernel) (by decide +kernel)
theorem w_113 : (Jvm.Cond.initialized "java/lang/Math") ∈ li_ws := li_mem 113 (by decide +kernel) (by decide +kernel)
theorem w_642 : (Jvm.Cond.static ({ cls := "java/lang/Math", name := "max", desc := "(II)I" } : Jvm.MethodName)) ∈ li_ws := li_mem 642 (by decide +kernel) (by decide +kernel)
theorem w_643 : (Jvm.Cond.code ({ cls := "java/lang/Math", name := "max", desc := "(II)I" } : Jvm.MethodName) prog_19_method_65_code (2 : Nat) (Option.some Jvm.ClassFile.FieldType.int)) ∈ li_ws := li_mem 643 (by decide +kernel) (by decide +kernel)
theorem w_726 : (Jvm.Cond.static ({ cls := "java/lang/Math", name := "min", desc := "(II)I" } : Jvm.MethodName)) ∈ li_ws := li_mem 726 (by decide +kernel) (by decide +kernel)
theorem w_727 : (Jvm.Cond.code ({ cls := "java/lang/Math", name := "min", desc := "(II)I" } : Jvm.MethodName) prog_19_method_69_code (2 : Nat) (Option.some Jvm.ClassFile.FieldType.int)) ∈ li_ws := li_mem 727 (by decide +kernel) (by decide +kernel)
theorem w_771 : (Jvm.Cond.methodLink "ClockForTalk" (512 : Nat) ({ cls := "ClockForTalk", name := "clamp", desc := "(II)I" } : Jvm.MethodName)) ∈ li_ws := li_mem 771 (by decide +kernel) (by decide +kernel)
theorem w_772 : (Jvm.Cond.static ({ cls := "ClockForTalk", name := "clamp", desc := "(II)I" } : Jvm.MethodName)) ∈ li_ws := li_mem 772 (by decide +kernel) (by decide +kernel)
theorem w_773 : (Jvm.Cond.code ({ cls := "ClockForTalk", name := "clamp", desc := "(II)I" } : Jvm.MethodName) prog_1_method_62_code (2 : Nat) (Option.some Jvm.ClassFile.FieldType.int)) ∈ li_ws := li_mem 773 (by decide +kernel) (by decide +kernel)
theorem w_774 : (Jvm.Cond.methodLink "ClockForTalk" (509 : Nat) ({ cls := "java/lang/Math", name := "min", desc := "(II)I" } : Jvm.MethodName)) ∈ li_ws := li_mem 774 (by decide +kernel) (by decide +kernel)
theorem w_775 : (Jvm.Cond.methodLink "ClockForTalk" (325 : Nat) ({ cls := "java/lang/Math", name := "max", desc := "(II)I" } : Jvm.MethodName)) ∈ li_ws := li_mem 775 (by decide +kernel) (by decide +kernel)
theorem w_824 : (Jvm.Cond.constant "java/lang/Integer" (265 : Nat) (1431655765 : Int32)) ∈ li_ws := li_mem 824 (by decide +kernel) (by decide +kernel)
theorem w_825 : (Jvm.Cond.constant "java/lang/Integer" (266 : Nat) (858993459 : Int32)) ∈ li_ws := li_mem 825 (by decide +kernel) (by decide +kernel)
theorem w_826 : (Jvm.Cond.constant "java/lang/Integer" (267 : Nat) (252645135 : Int32)) ∈ li_ws := li_mem 826 (by decide +kernel) (by decide +kernel)
theorem dX11_within_0 : decode cX11_within 0 = .ok (.iload_n 0, 1) := by decide +kernel
theorem dX11_within_1 : decode cX11_within 1 = .ok (.iload_n 1, 1) := by decide +kernel
theorem dX11_within_2 : decode cX11_within 2 = .ok (.if_icmp .lt 12, 3) := by decide +kernel
theorem dX11_within_5 : decode cX11_within 5 = .ok (.iload_n 0, 1) := by decide +kernel
theorem dX11_within_6 : decode cX11_within 6 = .ok (.iload_n 2, 1) := by decide +kernel
theorem dX11_within_7 : decode cX11_within 7 = .ok (.if_icmp .gt 7, 3) := by decide +kernel
theorem dX11_within_10 : decode cX11_within 10 = .ok (.iconst 1, 1) := by decide +kernel
theorem dX11_within_11 : decode cX11_within 11 = .ok (.goto 4, 3) := by decide +kernel
theorem dX11_within_14 : decode cX11_within 14 = .ok (.iconst 0, 1) := by decide +kernel
theorem dX11_within_15 : decode cX11_within 15 = .ok (.ireturn, 1) := by decide +kernel
abbrev YX11_within : li_Y := (yX11_within, cX11_within, 3, (some .boolean))
theorem dJ6_bitCount_0f7a4_0 : decode cJ6_bitCount_0f7a4 0 = .ok (.iload_n 0, 1) := by decide +kernel
theorem dJ6_bitCount_0f7a4_1 : decode cJ6_bitCount_0f7a4 1 = .ok (.iload_n 0, 1) := by decide +kernel
theorem dJ6_bitCount_0f7a4_2 : decode cJ6_bitCount_0f7a4 2 = .ok (.iconst 1, 1) := by decide +kernel
theorem dJ6_bitCount_0f7a4_3 : decode cJ6_bitCount_0f7a4 3 = .ok (.iushr, 1) := by decide +kernel
theorem dJ6_bitCount_0f7a4_4 : decode cJ6_bitCount_0f7a4 4 = .ok (.ldc_w 265, 3) := by decide +kernel
theorem dJ6_bitCount_0f7a4_7 : decode cJ6_bitCount_0f7a4 7 = .ok (.iand, 1) := by decide +kernel
theorem dJ6_bitCount_0f7a4_8 : decode cJ6_bitCount_0f7a4 8 = .ok (.isub, 1) := by decide +kernel
theorem dJ6_bitCount_0f7a4_9 : decode cJ6_bitCount_0f7a4 9 = .ok (.istore_n 0, 1) := by decide +kernel
theorem dJ6_bitCount_0f7a4_10 : decode cJ6_bitCount_0f7a4 10 = .ok (.iload_n 0, 1) := by decide +kernel
theorem dJ6_bitCount_0f7a4_11 : decode cJ6_bitCount_0f7a4 11 = .ok (.ldc_w 266, 3) := by decide +kernel
theorem dJ6_bitCount_0f7a4_14 : decode cJ6_bitCount_0f7a4 14 = .ok (.iand, 1) := by decide +kernel
theorem dJ6_bitCount_0f7a4_15 : decode cJ6_bitCount_0f7a4 15 = .ok (.iload_n 0, 1) := by decide +kernel
theorem dJ6_bitCount_0f7a4_16 : decode cJ6_bitCount_0f7a4 16 = .ok (.iconst 2, 1) := by decide +kernel
theorem dJ6_bitCount_0f7a4_17 : decode cJ6_bitCount_0f7a4 17 = .ok (.iushr, 1) := by decide +kernel
theorem dJ6_bitCount_0f7a4_18 : decode cJ6_bitCount_0f7a4 18 = .ok (.ldc_w 266, 3) := by decide +kernel
theorem dJ6_bitCount_0f7a4_21 : decode cJ6_bitCount_0f7a4 21 = .ok (.iand, 1) := by decide +kernel
theorem dJ6_bitCount_0f7a4_22 : decode cJ6_bitCount_0f7a4 22 = .ok (.iadd, 1) := by decide +kernel
theorem dJ6_bitCount_0f7a4_23 : decode cJ6_bitCount_0f7a4 23 = .ok (.istore_n 0, 1) := by decide +kernel
theorem dJ6_bitCount_0f7a4_24 : decode cJ6_bitCount_0f7a4 24 = .ok (.iload_n 0, 1) := by decide +kernel
theorem dJ6_bitCount_0f7a4_25 : decode cJ6_bitCount_0f7a4 25 = .ok (.iload_n 0, 1) := by decide +kernel
theorem dJ6_bitCount_0f7a4_26 : decode cJ6_bitCount_0f7a4 26 = .ok (.iconst 4, 1) := by decide +kernel
theorem dJ6_bitCount_0f7a4_27 : decode cJ6_bitCount_0f7a4 27 = .ok (.iushr, 1) := by decide +kernel
theorem dJ6_bitCount_0f7a4_28 : decode cJ6_bitCount_0f7a4 28 = .ok (.iadd, 1) := by decide +kernel
theorem dJ6_bitCount_0f7a4_29 : decode cJ6_bitCount_0f7a4 29 = .ok (.ldc_w 267, 3) := by decide +kernel
theorem dJ6_bitCount_0f7a4_32 : decode cJ6_bitCount_0f7a4 32 = .ok (.iand, 1) := by decide +kernel
theorem dJ6_bitCount_0f7a4_33 : decode cJ6_bitCount_0f7a4 33 = .ok (.istore_n 0, 1) := by decide +kernel
theorem dJ6_bitCount_0f7a4_34 : decode cJ6_bitCount_0f7a4 34 = .ok (.iload_n 0, 1) := by decide +kernel
theorem dJ6_bitCount_0f7a4_35 : decode cJ6_bitCount_0f7a4 35 = .ok (.iload_n 0, 1) := by decide +kernel
theorem dJ6_bitCount_0f7a4_36 : decode cJ6_bitCount_0f7a4 36 = .ok (.bipush 8, 2) := by decide +kernel
theorem dJ6_bitCount_0f7a4_38 : decode cJ6_bitCount_0f7a4 38 = .ok (.iushr, 1) := by decide +kernel
theorem dJ6_bitCount_0f7a4_39 : decode cJ6_bitCount_0f7a4 39 = .ok (.iadd, 1) := by decide +kernel
theorem dJ6_bitCount_0f7a4_40 : decode cJ6_bitCount_0f7a4 40 = .ok (.istore_n 0, 1) := by decide +kernel
theorem dJ6_bitCount_0f7a4_41 : decode cJ6_bitCount_0f7a4 41 = .ok (.iload_n 0, 1) := by decide +kernel
theorem dJ6_bitCount_0f7a4_42 : decode cJ6_bitCount_0f7a4 42 = .ok (.iload_n 0, 1) := by decide +kernel
theorem dJ6_bitCount_0f7a4_43 : decode cJ6_bitCount_0f7a4 43 = .ok (.bipush 16, 2) := by decide +kernel
theorem dJ6_bitCount_0f7a4_45 : decode cJ6_bitCount_0f7a4 45 = .ok (.iushr, 1) := by decide +kernel
theorem dJ6_bitCount_0f7a4_46 : decode cJ6_bitCount_0f7a4 46 = .ok (.iadd, 1) := by decide +kernel
theorem dJ6_bitCount_0f7a4_47 : decode cJ6_bitCount_0f7a4 47 = .ok (.istore_n 0, 1) := by decide +kernel
theorem dJ6_bitCount_0f7a4_48 : decode cJ6_bitCount_0f7a4 48 = .ok (.iload_n 0, 1) := by decide +kernel
theorem dJ6_bitCount_0f7a4_49 : decode cJ6_bitCount_0f7a4 49 = .ok (.bipush 63, 2) := by decide +kernel
theorem dJ6_bitCount_0f7a4_51 : decode cJ6_bitCount_0f7a4 51 = .ok (.iand, 1) := by decide +kernel
theorem dJ6_bitCount_0f7a4_52 : decode cJ6_bitCount_0f7a4 52 = .ok (.ireturn, 1) := by decide +kernel
abbrev YJ6_bitCount_0f7a4 : li_Y := (yJ6_bitCount_0f7a4, cJ6_bitCount_0f7a4, 1, (some .int))
theorem dX11_clamp_0 : decode cX11_clamp 0 = .ok (.iconst 0, 1) := by decide +kernel
theorem dX11_clamp_1 : decode cX11_clamp 1 = .ok (.iload_n 0, 1) := by decide +kernel
theorem dX11_clamp_2 : decode cX11_clamp 2 = .ok (.iload_n 1, 1) := by decide +kernel
theorem dX11_clamp_3 : decode cX11_clamp 3 = .ok (.invokestatic 509, 3) := by decide +kernel
theorem dX11_clamp_6 : decode cX11_clamp 6 = .ok (.invokestatic 325, 3) := by decide +kernel
theorem dX11_clamp_9 : decode cX11_clamp 9 = .ok (.ireturn, 1) := by decide +kernel
abbrev YX11_clamp : li_Y := (yX11_clamp, cX11_clamp, 2, (some .int))
theorem dX11_holds_0 : decode cX11_holds 0 = .ok (.iload_n 1, 1) := by decide +kernel
theorem dX11_holds_1 : decode cX11_holds 1 = .ok (.ifCond .lt 21, 3) := by decide +kernel
theorem dX11_holds_4 : decode cX11_holds 4 = .ok (.iload_n 1, 1) := by decide +kernel
theorem dX11_holds_5 : decode cX11_holds 5 = .ok (.bipush 32, 2) := by decide +kernel
theorem dX11_holds_7 : decode cX11_holds 7 = .ok (.if_icmp .ge 15, 3) := by decide +kernel
theorem dX11_holds_10 : decode cX11_holds 10 = .ok (.iload_n 0, 1) := by decide +kernel
theorem dX11_holds_11 : decode cX11_holds 11 = .ok (.iload_n 1, 1) := by decide +kernel
theorem dX11_holds_12 : decode cX11_holds 12 = .ok (.iushr, 1) := by decide +kernel
theorem dX11_holds_13 : decode cX11_holds 13 = .ok (.iconst 1, 1) := by decide +kernel
theorem dX11_holds_14 : decode cX11_holds 14 = .ok (.iand, 1) := by decide +kernel
theorem dX11_holds_15 : decode cX11_holds 15 = .ok (.ifCond .eq 7, 3) := by decide +kernel
theorem dX11_holds_22 : decode cX11_holds 22 = .ok (.iconst 0, 1) := by decide +kernel
theorem dX11_holds_23 : decode cX11_holds 23 = .ok (.ireturn, 1) := by decide +kernel
abbrev YX11_holds : li_Y := (yX11_holds, cX11_holds, 2, (some .boolean))
theorem dX11_areBitsOf_0 : decode cX11_areBitsOf 0 = .ok (.iload_n 0, 1) := by decide +kernel
theorem dX11_areBitsOf_1 : decode cX11_areBitsOf 1 = .ok (.iconst 1, 1) := by decide +kernel
theorem dX11_areBitsOf_2 : decode cX11_areBitsOf 2 = .ok (.iload_n 1, 1) := by decide +kernel
theorem dX11_areBitsOf_3 : decode cX11_areBitsOf 3 = .ok (.ishl, 1) := by decide +kernel
theorem dX11_areBitsOf_4 : decode cX11_areBitsOf 4 = .ok (.iconst 1, 1) := by decide +kernel
theorem dX11_areBitsOf_5 : decode cX11_areBitsOf 5 = .ok (.isub, 1) := by decide +kernel
theorem dX11_areBitsOf_6 : decode cX11_areBitsOf 6 = .ok (.iconst (-1), 1) := by decide +kernel
theorem dX11_areBitsOf_7 : decode cX11_areBitsOf 7 = .ok (.ixor, 1) := by decide +kernel
theorem dX11_areBitsOf_8 : decode cX11_areBitsOf 8 = .ok (.iand, 1) := by decide +kernel
theorem dX11_areBitsOf_9 : decode cX11_areBitsOf 9 = .ok (.ifCond .ne 7, 3) := by decide +kernel
theorem dX11_areBitsOf_12 : decode cX11_areBitsOf 12 = .ok (.iconst 1, 1) := by decide +kernel
theorem dX11_areBitsOf_13 : decode cX11_areBitsOf 13 = .ok (.goto 4, 3) := by decide +kernel
theorem dX11_areBitsOf_16 : decode cX11_areBitsOf 16 = .ok (.iconst 0, 1) := by decide +kernel
theorem dX11_areBitsOf_17 : decode cX11_areBitsOf 17 = .ok (.ireturn, 1) := by decide +kernel
abbrev YX11_areBitsOf : li_Y := (yX11_areBitsOf, cX11_areBitsOf, 2, (some .boolean))
theorem dX11_entryOf_0 : decode cX11_entryOf 0 = .ok (.iload_n 1, 1) := by decide +kernel
theorem dX11_entryOf_1 : decode cX11_entryOf 1 = .ok (.istore_n 2, 1) := by decide +kernel
theorem dX11_entryOf_2 : decode cX11_entryOf 2 = .ok (.iload_n 0, 1) := by decide +kernel
theorem dX11_entryOf_3 : decode cX11_entryOf 3 = .ok (.ifCond .ne 9, 3) := by decide +kernel
theorem dX11_entryOf_6 : decode cX11_entryOf 6 = .ok (.iload_n 1, 1) := by decide +kernel
theorem dX11_entryOf_7 : decode cX11_entryOf 7 = .ok (.i2b, 1) := by decide +kernel
theorem dX11_entryOf_8 : decode cX11_entryOf 8 = .ok (.istore_n 2, 1) := by decide +kernel
theorem dX11_entryOf_9 : decode cX11_entryOf 9 = .ok (.goto 11, 3) := by decide +kernel
theorem dX11_entryOf_12 : decode cX11_entryOf 12 = .ok (.iload_n 0, 1) := by decide +kernel
theorem dX11_entryOf_13 : decode cX11_entryOf 13 = .ok (.iconst 1, 1) := by decide +kernel
theorem dX11_entryOf_14 : decode cX11_entryOf 14 = .ok (.if_icmp .ne 6, 3) := by decide +kernel
theorem dX11_entryOf_17 : decode cX11_entryOf 17 = .ok (.iload_n 1, 1) := by decide +kernel
theorem dX11_entryOf_18 : decode cX11_entryOf 18 = .ok (.i2s, 1) := by decide +kernel
theorem dX11_entryOf_19 : decode cX11_entryOf 19 = .ok (.istore_n 2, 1) := by decide +kernel
theorem dX11_entryOf_20 : decode cX11_entryOf 20 = .ok (.iload_n 2, 1) := by decide +kernel
theorem dX11_entryOf_21 : decode cX11_entryOf 21 = .ok (.sipush 9999, 3) := by decide +kernel
theorem dX11_entryOf_24 : decode cX11_entryOf 24 = .ok (.invokestatic 512, 3) := by decide +kernel
theorem dX11_entryOf_27 : decode cX11_entryOf 27 = .ok (.ireturn, 1) := by decide +kernel
abbrev YX11_entryOf : li_Y := (yX11_entryOf, cX11_entryOf, 3, (some .int))
theorem dX6_usual_0 : decode cX6_usual 0 = .ok (.iload_n 1, 1) := by decide +kernel
theorem dX6_usual_1 : decode cX6_usual 1 = .ok (.tableswitch 41 0 2 #[27, 33, 39], 27) := by decide +kernel
theorem dX6_usual_28 : decode cX6_usual 28 = .ok (.iload_n 0, 1) := by decide +kernel
theorem dX6_usual_29 : decode cX6_usual 29 = .ok (.iconst 1, 1) := by decide +kernel
theorem dX6_usual_30 : decode cX6_usual 30 = .ok (.iadd, 1) := by decide +kernel
theorem dX6_usual_31 : decode cX6_usual 31 = .ok (.iconst 2, 1) := by decide +kernel
theorem dX6_usual_32 : decode cX6_usual 32 = .ok (.idiv, 1) := by decide +kernel
theorem dX6_usual_33 : decode cX6_usual 33 = .ok (.ireturn, 1) := by decide +kernel
theorem dX6_usual_34 : decode cX6_usual 34 = .ok (.iload_n 0, 1) := by decide +kernel
theorem dX6_usual_35 : decode cX6_usual 35 = .ok (.iconst 2, 1) := by decide +kernel
theorem dX6_usual_36 : decode cX6_usual 36 = .ok (.iadd, 1) := by decide +kernel
theorem dX6_usual_37 : decode cX6_usual 37 = .ok (.iconst 3, 1) := by decide +kernel
theorem dX6_usual_38 : decode cX6_usual 38 = .ok (.idiv, 1) := by decide +kernel
theorem dX6_usual_39 : decode cX6_usual 39 = .ok (.ireturn, 1) := by decide +kernel
theorem dX6_usual_40 : decode cX6_usual 40 = .ok (.iload_n 0, 1) := by decide +kernel
theorem dX6_usual_41 : decode cX6_usual 41 = .ok (.ireturn, 1) := by decide +kernel
theorem dX6_usual_42 : decode cX6_usual 42 = .ok (.iload_n 0, 1) := by decide +kernel
theorem dX6_usual_43 : decode cX6_usual 43 = .ok (.iconst 2, 1) := by decide +kernel
theorem dX6_usual_44 : decode cX6_usual 44 = .ok (.imul, 1) := by decide +kernel
theorem dX6_usual_45 : decode cX6_usual 45 = .ok (.ireturn, 1) := by decide +kernel
abbrev YX6_usual : li_Y := (yX6_usual, cX6_usual, 2, (some .int))
theorem dX6_reckon_0 : decode cX6_reckon 0 = .ok (.iload_n 0, 1) := by decide +kernel
theorem dX6_reckon_1 : decode cX6_reckon 1 = .ok (.lookupswitch 104 #[(42, 100), (43, 92), (45, 96), (60, 59), (61, 81), (62, 70)], 59) := by decide +kernel
theorem dX6_reckon_60 : decode cX6_reckon 60 = .ok (.iload_n 1, 1) := by decide +kernel
theorem dX6_reckon_61 : decode cX6_reckon 61 = .ok (.iload_n 2, 1) := by decide +kernel
theorem dX6_reckon_62 : decode cX6_reckon 62 = .ok (.if_icmp .ge 7, 3) := by decide +kernel
theorem dX6_reckon_65 : decode cX6_reckon 65 = .ok (.iconst 1, 1) := by decide +kernel
theorem dX6_reckon_66 : decode cX6_reckon 66 = .ok (.goto 4, 3) := by decide +kernel
theorem dX6_reckon_69 : decode cX6_reckon 69 = .ok (.iconst 0, 1) := by decide +kernel
theorem dX6_reckon_70 : decode cX6_reckon 70 = .ok (.ireturn, 1) := by decide +kernel
theorem dX6_reckon_71 : decode cX6_reckon 71 = .ok (.iload_n 1, 1) := by decide +kernel
theorem dX6_reckon_72 : decode cX6_reckon 72 = .ok (.iload_n 2, 1) := by decide +kernel
theorem dX6_reckon_73 : decode cX6_reckon 73 = .ok (.if_icmp .le 7, 3) := by decide +kernel
theorem dX6_reckon_76 : decode cX6_reckon 76 = .ok (.iconst 1, 1) := by decide +kernel
theorem dX6_reckon_77 : decode cX6_reckon 77 = .ok (.goto 4, 3) := by decide +kernel
theorem dX6_reckon_80 : decode cX6_reckon 80 = .ok (.iconst 0, 1) := by decide +kernel
theorem dX6_reckon_81 : decode cX6_reckon 81 = .ok (.ireturn, 1) := by decide +kernel
theorem dX6_reckon_82 : decode cX6_reckon 82 = .ok (.iload_n 1, 1) := by decide +kernel
theorem dX6_reckon_83 : decode cX6_reckon 83 = .ok (.iload_n 2, 1) := by decide +kernel
theorem dX6_reckon_84 : decode cX6_reckon 84 = .ok (.if_icmp .ne 7, 3) := by decide +kernel
theorem dX6_reckon_87 : decode cX6_reckon 87 = .ok (.iconst 1, 1) := by decide +kernel
theorem dX6_reckon_88 : decode cX6_reckon 88 = .ok (.goto 4, 3) := by decide +kernel
theorem dX6_reckon_91 : decode cX6_reckon 91 = .ok (.iconst 0, 1) := by decide +kernel
theorem dX6_reckon_92 : decode cX6_reckon 92 = .ok (.ireturn, 1) := by decide +kernel
theorem dX6_reckon_93 : decode cX6_reckon 93 = .ok (.iload_n 1, 1) := by decide +kernel
theorem dX6_reckon_94 : decode cX6_reckon 94 = .ok (.iload_n 2, 1) := by decide +kernel
theorem dX6_reckon_95 : decode cX6_reckon 95 = .ok (.iadd, 1) := by decide +kernel
theorem dX6_reckon_96 : decode cX6_reckon 96 = .ok (.ireturn, 1) := by decide +kernel
theorem dX6_reckon_97 : decode cX6_reckon 97 = .ok (.iload_n 1, 1) := by decide +kernel
theorem dX6_reckon_98 : decode cX6_reckon 98 = .ok (.iload_n 2, 1) := by decide +kernel
theorem dX6_reckon_99 : decode cX6_reckon 99 = .ok (.isub, 1) := by decide +kernel
theorem dX6_reckon_100 : decode cX6_reckon 100 = .ok (.ireturn, 1) := by decide +kernel
theorem dX6_reckon_101 : decode cX6_reckon 101 = .ok (.iload_n 1, 1) := by decide +kernel
theorem dX6_reckon_102 : decode cX6_reckon 102 = .ok (.iload_n 2, 1) := by decide +kernel
theorem dX6_reckon_103 : decode cX6_reckon 103 = .ok (.imul, 1) := by decide +kernel
theorem dX6_reckon_104 : decode cX6_reckon 104 = .ok (.ireturn, 1) := by decide +kernel
theorem dX6_reckon_105 : decode cX6_reckon 105 = .ok (.iload_n 2, 1) := by decide +kernel
theorem dX6_reckon_106 : decode cX6_reckon 106 = .ok (.ifCond .ne 7, 3) := by decide +kernel
theorem dX6_reckon_109 : decode cX6_reckon 109 = .ok (.iconst 0, 1) := by decide +kernel
theorem dX6_reckon_110 : decode cX6_reckon 110 = .ok (.goto 6, 3) := by decide +kernel
theorem dX6_reckon_113 : decode cX6_reckon 113 = .ok (.iload_n 1, 1) := by decide +kernel
theorem dX6_reckon_114 : decode cX6_reckon 114 = .ok (.iload_n 2, 1) := by decide +kernel
theorem dX6_reckon_115 : decode cX6_reckon 115 = .ok (.idiv, 1) := by decide +kernel
theorem dX6_reckon_116 : decode cX6_reckon 116 = .ok (.ireturn, 1) := by decide +kernel
abbrev YX6_reckon : li_Y := (yX6_reckon, cX6_reckon, 3, (some .int))
set_option maxRecDepth 100000 in
set_option maxHeartbeats 4000000 in
theorem k_J6_bitCount_0f7a4 {l : Launch} {Z : li_Z} (d : Nat) (hd : 1 ≤ d) (p1 : Int32) (M0 : li_M) : li_Met l Z YJ6_bitCount_0f7a4 d [.int p1] M0 (li_SI (fun i => False) M0) := by
  refine li_enter (by decide +kernel) (Nat.le_of_ble_eq_true rfl) ?_
  show li_T l Z YJ6_bitCount_0f7a4 d 0 [(0, .int p1)] [] M0 _
  have hf : li_fr (fun i => False) M0 M0 := li_fr_refl
  refine li_iload_n 0 dJ6_bitCount_0f7a4_0 rfl ?_
  refine li_iload_n 0 dJ6_bitCount_0f7a4_1 rfl ?_
  refine li_iconst 1 dJ6_bitCount_0f7a4_2 (by decide) ?_
  refine li_iushr dJ6_bitCount_0f7a4_3 ?_
  refine li_top (fun x1 ex1 => ?_)
  refine li_ldcw 1431655765 dJ6_bitCount_0f7a4_4 w_824 ?_
  refine li_iand dJ6_bitCount_0f7a4_7 ?_
  refine li_top (fun x2 ex2 => ?_)
  refine li_isub dJ6_bitCount_0f7a4_8 ?_
  refine li_top (fun x3 ex3 => ?_)
  refine li_istore_n [(0, .int x3)] dJ6_bitCount_0f7a4_9 (by decide) rfl ?_
  refine li_iload_n 0 dJ6_bitCount_0f7a4_10 rfl ?_
  refine li_ldcw 858993459 dJ6_bitCount_0f7a4_11 w_825 ?_
  refine li_iand dJ6_bitCount_0f7a4_14 ?_
  refine li_top (fun x4 ex4 => ?_)
  refine li_iload_n 0 dJ6_bitCount_0f7a4_15 rfl ?_
  refine li_iconst 2 dJ6_bitCount_0f7a4_16 (by decide) ?_
  refine li_iushr dJ6_bitCount_0f7a4_17 ?_
  refine li_top (fun x5 ex5 => ?_)
  refine li_ldcw 858993459 dJ6_bitCount_0f7a4_18 w_825 ?_
  refine li_iand dJ6_bitCount_0f7a4_21 ?_
  refine li_top (fun x6 ex6 => ?_)
  refine li_iadd dJ6_bitCount_0f7a4_22 ?_
  refine li_top (fun x7 ex7 => ?_)
  refine li_istore_n [(0, .int x7)] dJ6_bitCount_0f7a4_23 (by decide) rfl ?_
  refine li_iload_n 0 dJ6_bitCount_0f7a4_24 rfl ?_
  refine li_iload_n 0 dJ6_bitCount_0f7a4_25 rfl ?_
  refine li_iconst 4 dJ6_bitCount_0f7a4_26 (by decide) ?_
  refine li_iushr dJ6_bitCount_0f7a4_27 ?_
  refine li_top (fun x8 ex8 => ?_)
  refine li_iadd dJ6_bitCount_0f7a4_28 ?_
  refine li_top (fun x9 ex9 => ?_)
  refine li_ldcw 252645135 dJ6_bitCount_0f7a4_29 w_826 ?_
  refine li_iand dJ6_bitCount_0f7a4_32 ?_
  refine li_top (fun x10 ex10 => ?_)
  refine li_istore_n [(0, .int x10)] dJ6_bitCount_0f7a4_33 (by decide) rfl ?_
  refine li_iload_n 0 dJ6_bitCount_0f7a4_34 rfl ?_
  refine li_iload_n 0 dJ6_bitCount_0f7a4_35 rfl ?_
  refine li_bipush 8 dJ6_bitCount_0f7a4_36 (by decide) ?_
  refine li_iushr dJ6_bitCount_0f7a4_38 ?_
  refine li_top (fun x11 ex11 => ?_)
  refine li_iadd dJ6_bitCount_0f7a4_39 ?_
  refine li_top (fun x12 ex12 => ?_)
  refine li_istore_n [(0, .int x12)] dJ6_bitCount_0f7a4_40 (by decide) rfl ?_
  refine li_iload_n 0 dJ6_bitCount_0f7a4_41 rfl ?_
  refine li_iload_n 0 dJ6_bitCount_0f7a4_42 rfl ?_
  refine li_bipush 16 dJ6_bitCount_0f7a4_43 (by decide) ?_
  refine li_iushr dJ6_bitCount_0f7a4_45 ?_
  refine li_top (fun x13 ex13 => ?_)
  refine li_iadd dJ6_bitCount_0f7a4_46 ?_
  refine li_top (fun x14 ex14 => ?_)
  refine li_istore_n [(0, .int x14)] dJ6_bitCount_0f7a4_47 (by decide) rfl ?_
  refine li_iload_n 0 dJ6_bitCount_0f7a4_48 rfl ?_
  refine li_bipush 63 dJ6_bitCount_0f7a4_49 (by decide) ?_
  refine li_iand dJ6_bitCount_0f7a4_51 ?_
  refine li_top (fun x15 ex15 => ?_)
  exact li_iret dJ6_bitCount_0f7a4_52 rfl rfl ⟨⟨_, rfl⟩, hf⟩
set_option maxRecDepth 100000 in
set_option maxHeartbeats 4000000 in
theorem k_X11_clamp {l : Launch} {Z : li_Z} (d : Nat) (hd : 1 ≤ d) (p1 : Int32) (p2 : Int32) (M0 : li_M) : li_Met l Z YX11_clamp d [.int p1, .int p2] M0 (li_SI (fun i => False) M0) := by
  refine li_enter (by decide +kernel) (Nat.le_of_ble_eq_true rfl) ?_
  show li_T l Z YX11_clamp d 0 [(0, .int p1), (1, .int p2)] [] M0 _
  have hf : li_fr (fun i => False) M0 M0 := li_fr_refl
  refine li_iconst 0 dX11_clamp_0 (by decide) ?_
  refine li_iload_n 0 dX11_clamp_1 rfl ?_
  refine li_iload_n 1 dX11_clamp_2 rfl ?_
  refine li_mmin dX11_clamp_3 (by omega) w_774 w_726 w_113 w_727 (Nat.le_of_ble_eq_true rfl) ?_
  refine li_top (fun x1 ex1 => ?_)
  refine li_mmax dX11_clamp_6 (by omega) w_775 w_642 w_113 w_643 (Nat.le_of_ble_eq_true rfl) ?_
  refine li_top (fun x2 ex2 => ?_)
  exact li_iret dX11_clamp_9 rfl rfl ⟨⟨_, rfl⟩, hf⟩
set_option maxRecDepth 100000 in
set_option maxHeartbeats 4000000 in
theorem k_X6_usual {l : Launch} {Z : li_Z} (d : Nat) (hd : 1 ≤ d) (p1 : Int32) (p2 : Int32) (M0 : li_M) : li_Met l Z YX6_usual d [.int p1, .int p2] M0 (li_SI (fun i => False) M0) := by
  refine li_enter (by decide +kernel) (Nat.le_of_ble_eq_true rfl) ?_
  show li_T l Z YX6_usual d 0 [(0, .int p1), (1, .int p2)] [] M0 _
  have hf : li_fr (fun i => False) M0 M0 := li_fr_refl
  refine li_iload_n 1 dX6_usual_0 rfl ?_
  refine li_table dX6_usual_1 42 (by decide) (fun c1 => ?_) (fun c1a c1b => ?_)
  · refine li_iload_n 0 dX6_usual_42 rfl ?_
    refine li_iconst 2 dX6_usual_43 (by decide) ?_
    refine li_imul dX6_usual_44 ?_
    refine li_top (fun x2 ex2 => ?_)
    exact li_iret dX6_usual_45 rfl rfl ⟨⟨_, rfl⟩, hf⟩
  · rcases (show (p2 : Int32).toInt = 0 ∨ (p2 : Int32).toInt = 1 ∨ (p2 : Int32).toInt = 2 by omega) with c1 | c1 | c1
    · refine ⟨27, 28, by rw [c1]; rfl, by decide, ?_⟩
      refine li_iload_n 0 dX6_usual_28 rfl ?_
      refine li_iconst 1 dX6_usual_29 (by decide) ?_
      refine li_iadd dX6_usual_30 ?_
      refine li_top (fun x3 ex3 => ?_)
      refine li_iconst 2 dX6_usual_31 (by decide) ?_
      refine li_idiv dX6_usual_32 (by decide) ?_
      refine li_top (fun x4 ex4 => ?_)
      exact li_iret dX6_usual_33 rfl rfl ⟨⟨_, rfl⟩, hf⟩
    · refine ⟨33, 34, by rw [c1]; rfl, by decide, ?_⟩
      refine li_iload_n 0 dX6_usual_34 rfl ?_
      refine li_iconst 2 dX6_usual_35 (by decide) ?_
      refine li_iadd dX6_usual_36 ?_
      refine li_top (fun x5 ex5 => ?_)
      refine li_iconst 3 dX6_usual_37 (by decide) ?_
      refine li_idiv dX6_usual_38 (by decide) ?_
      refine li_top (fun x6 ex6 => ?_)
      exact li_iret dX6_usual_39 rfl rfl ⟨⟨_, rfl⟩, hf⟩
    · refine ⟨39, 40, by rw [c1]; rfl, by decide, ?_⟩
      refine li_iload_n 0 dX6_usual_40 rfl ?_
      exact li_iret dX6_usual_41 rfl rfl ⟨⟨_, rfl⟩, hf⟩
set_option maxRecDepth 100000 in
set_option maxHeartbeats 4000000 in
theorem k_X6_reckon {l : Launch} {Z : li_Z} (d : Nat) (hd : 1 ≤ d) (p1 : Int32) (p2 : Int32) (p3 : Int32) (M0 : li_M) : li_Met l Z YX6_reckon d [.int p1, .int p2, .int p3] M0 (li_SI (fun i => False) M0) := by
  refine li_enter (by decide +kernel) (Nat.le_of_ble_eq_true rfl) ?_
  show li_T l Z YX6_reckon d 0 [(0, .int p1), (1, .int p2), (2, .int p3)] [] M0 _
  have hf : li_fr (fun i => False) M0 M0 := li_fr_refl
  refine li_iload_n 0 dX6_reckon_0 rfl ?_
  by_cases c1_0 : (p1 : Int32).toInt = 42
  · refine li_lookup (off := 100) 101 dX6_reckon_1 rfl (by rw [c1_0]; rfl) (by decide) ?_
    refine li_iload_n 1 dX6_reckon_101 rfl ?_
    refine li_iload_n 2 dX6_reckon_102 rfl ?_
    refine li_imul dX6_reckon_103 ?_
    refine li_top (fun x2 ex2 => ?_)
    exact li_iret dX6_reckon_104 rfl rfl ⟨⟨_, rfl⟩, hf⟩
  by_cases c1_1 : (p1 : Int32).toInt = 43
  · refine li_lookup (off := 92) 93 dX6_reckon_1 rfl (by rw [c1_1]; rfl) (by decide) ?_
    refine li_iload_n 1 dX6_reckon_93 rfl ?_
    refine li_iload_n 2 dX6_reckon_94 rfl ?_
    refine li_iadd dX6_reckon_95 ?_
    refine li_top (fun x3 ex3 => ?_)
    exact li_iret dX6_reckon_96 rfl rfl ⟨⟨_, rfl⟩, hf⟩
  by_cases c1_2 : (p1 : Int32).toInt = 45
  · refine li_lookup (off := 96) 97 dX6_reckon_1 rfl (by rw [c1_2]; rfl) (by decide) ?_
    refine li_iload_n 1 dX6_reckon_97 rfl ?_
    refine li_iload_n 2 dX6_reckon_98 rfl ?_
    refine li_isub dX6_reckon_99 ?_
    refine li_top (fun x4 ex4 => ?_)
    exact li_iret dX6_reckon_100 rfl rfl ⟨⟨_, rfl⟩, hf⟩
  by_cases c1_3 : (p1 : Int32).toInt = 60
  · refine li_lookup (off := 59) 60 dX6_reckon_1 rfl (by rw [c1_3]; rfl) (by decide) ?_
    refine li_iload_n 1 dX6_reckon_60 rfl ?_
    refine li_iload_n 2 dX6_reckon_61 rfl ?_
    refine li_icmp_ge 69 dX6_reckon_62 (by decide) (fun c5 => ?_) (fun c5 => ?_)
    · refine li_iconst 0 dX6_reckon_69 (by decide) ?_
      exact li_iret dX6_reckon_70 rfl rfl ⟨⟨_, rfl⟩, hf⟩
    · refine li_iconst 1 dX6_reckon_65 (by decide) ?_
      refine li_goto 70 dX6_reckon_66 (by decide) ?_
      exact li_iret dX6_reckon_70 rfl rfl ⟨⟨_, rfl⟩, hf⟩
  by_cases c1_4 : (p1 : Int32).toInt = 61
  · refine li_lookup (off := 81) 82 dX6_reckon_1 rfl (by rw [c1_4]; rfl) (by decide) ?_
    refine li_iload_n 1 dX6_reckon_82 rfl ?_
    refine li_iload_n 2 dX6_reckon_83 rfl ?_
    refine li_icmp_ne 91 dX6_reckon_84 (by decide) (fun c6 => ?_) (fun c6 => ?_)
    · refine li_iconst 0 dX6_reckon_91 (by decide) ?_
      exact li_iret dX6_reckon_92 rfl rfl ⟨⟨_, rfl⟩, hf⟩
    · refine li_iconst 1 dX6_reckon_87 (by decide) ?_
      refine li_goto 92 dX6_reckon_88 (by decide) ?_
      exact li_iret dX6_reckon_92 rfl rfl ⟨⟨_, rfl⟩, hf⟩
  by_cases c1_5 : (p1 : Int32).toInt = 62
  · refine li_lookup (off := 70) 71 dX6_reckon_1 rfl (by rw [c1_5]; rfl) (by decide) ?_
    refine li_iload_n 1 dX6_reckon_71 rfl ?_
    refine li_iload_n 2 dX6_reckon_72 rfl ?_
    refine li_icmp_le 80 dX6_reckon_73 (by decide) (fun c7 => ?_) (fun c7 => ?_)
    · refine li_iconst 0 dX6_reckon_80 (by decide) ?_
      exact li_iret dX6_reckon_81 rfl rfl ⟨⟨_, rfl⟩, hf⟩
    · refine li_iconst 1 dX6_reckon_76 (by decide) ?_
      refine li_goto 81 dX6_reckon_77 (by decide) ?_
      exact li_iret dX6_reckon_81 rfl rfl ⟨⟨_, rfl⟩, hf⟩
  refine li_lookup (off := 104) 105 dX6_reckon_1 rfl (by simp [Op.lookupswitch.offset, c1_0, Ne.symm c1_0, c1_1, Ne.symm c1_1, c1_2, Ne.symm c1_2, c1_3, Ne.symm c1_3, c1_4, Ne.symm c1_4, c1_5, Ne.symm c1_5]) (by decide) ?_
  refine li_iload_n 2 dX6_reckon_105 rfl ?_
  refine li_if_ne 113 dX6_reckon_106 (by decide) (fun c8 => ?_) (fun c8 => ?_)
  · refine li_iload_n 1 dX6_reckon_113 rfl ?_
    refine li_iload_n 2 dX6_reckon_114 rfl ?_
    refine li_idiv dX6_reckon_115 (by assumption) ?_
    refine li_top (fun x9 ex9 => ?_)
    exact li_iret dX6_reckon_116 rfl rfl ⟨⟨_, rfl⟩, hf⟩
  · refine li_iconst 0 dX6_reckon_109 (by decide) ?_
    refine li_goto 116 dX6_reckon_110 (by decide) ?_
    exact li_iret dX6_reckon_116 rfl rfl ⟨⟨_, rfl⟩, hf⟩
