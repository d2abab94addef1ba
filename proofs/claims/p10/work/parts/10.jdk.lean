theorem w_101 : (Jvm.Cond.initialized "ClockForTalk") ∈ li_ws := li_mem 101 (by decide +kernel) (by decide +kernel)
theorem w_113 : (Jvm.Cond.initialized "java/lang/Math") ∈ li_ws := li_mem 113 (by decide +kernel) (by decide +kernel)
theorem w_642 : (Jvm.Cond.static ({ cls := "java/lang/Math", name := "max", desc := "(II)I" } : Jvm.MethodName)) ∈ li_ws := li_mem 642 (by decide +kernel) (by decide +kernel)
theorem w_643 : (Jvm.Cond.code ({ cls := "java/lang/Math", name := "max", desc := "(II)I" } : Jvm.MethodName) prog_19_method_65_code (2 : Nat) (Option.some Jvm.ClassFile.FieldType.int)) ∈ li_ws := li_mem 643 (by decide +kernel) (by decide +kernel)
theorem w_726 : (Jvm.Cond.static ({ cls := "java/lang/Math", name := "min", desc := "(II)I" } : Jvm.MethodName)) ∈ li_ws := li_mem 726 (by decide +kernel) (by decide +kernel)
theorem w_727 : (Jvm.Cond.code ({ cls := "java/lang/Math", name := "min", desc := "(II)I" } : Jvm.MethodName) prog_19_method_69_code (2 : Nat) (Option.some Jvm.ClassFile.FieldType.int)) ∈ li_ws := li_mem 727 (by decide +kernel) (by decide +kernel)
theorem w_771 : (Jvm.Cond.methodLink "ClockForTalk" (512 : Nat) ({ cls := "ClockForTalk", name := "clamp", desc := "(II)I" } : Jvm.MethodName)) ∈ li_ws := li_mem 771 (by decide +kernel) (by decide +kernel)
theorem w_772 : (Jvm.Cond.static ({ cls := "ClockForTalk", name := "clamp", desc := "(II)I" } : Jvm.MethodName)) ∈ li_ws := li_mem 772 (by decide +kernel) (by decide +kernel)
theorem w_773 : (Jvm.Cond.code ({ cls := "ClockForTalk", name := "clamp", desc := "(II)I" } : Jvm.MethodName) prog_1_method_62_code (2 : Nat) (Option.some Jvm.ClassFile.FieldType.int)) ∈ li_ws := li_mem 773 (by decide +kernel) (by decide +kernel)
theorem w_774 : (Jvm.Cond.methodLink "ClockForTalk" (509 : Nat) ({ cls := "java/lang/Math", name := "min", desc := "(II)I" } : Jvm.MethodName)) ∈ li_ws := li_mem 774 (by decide +kernel) (by decide +kernel)
theorem w_775 : (Jvm.Cond.methodLink "ClockForTalk" (325 : Nat) ({ cls := "java/lang/Math", name := "max", desc := "(II)I" } : Jvm.MethodName)) ∈ li_ws := li_mem 775 (by decide +kernel) (by decide +kernel)
theorem w_824 : (Jvm.Cond.constant "java/lang/Integer" (265 : Nat) (1431655765 : Int32)) ∈ li_ws := li_mem 824 (by decide +kernel) (by decide +kernel)
theorem w_825 : (Jvm.Cond.constant "java/lang/Integer" (266 : Nat) (858993459 : Int32)) ∈ li_ws := li_mem 825 (by decide +kernel) (by decide +kernel)
theorem w_826 : (Jvm.Cond.constant "java/lang/Integer" (267 : Nat) (252645135 : Int32)) ∈ li_ws := li_mem 826 (by decide +kernel) (by decide +kernel)
theorem w_1150 : (Jvm.Cond.constant "java/lang/Integer" (264 : Nat) (65536 : Int32)) ∈ li_ws := li_mem 1150 (by decide +kernel) (by decide +kernel)
theorem dX11_within_0 : decode cX11_within 0 = .ok (.iload_n 0, 1) := by decide +kernel
theorem dX11_within_1 : decode cX11_within 1 = .ok (.iload_n 1, 1) := by decide +kernel
theorem dX11_within_2 : decode cX11_within 2 = .ok (.if_icmp .lt 12, 3) := by decide +kernel
theorem dX11_within_5 : decode cX11_within 5 = .ok (.iload_n 0, 1) := by decide +kernel
theorem dX11_within_6 : decode cX11_within 6 = .ok (.iload_n 2, 1) := by decide +kernel
theorem dX11_within_7 : decode cX11_within 7 = .ok (.if_icmp .gt 7, 3) := by decide +kernel
theorem dX11_within_10 : decode cX11_within 10 = .ok (.iconst 1, 1) := by decide +kernel
theorem dX11_within_11 : decode cX11_within 11 = .ok (.goto 4, 3) := by decide +kernel
theorem dX11_within_14 : decode cX11_within 14 = .ok (.iconst 0, 1) := by decide +kernel
theorem dX11_within_15 : decode cX11_within 15 = .ok (.ireturn, 1) := by decide +kernel
abbrev YX11_within : li_Y := (yX11_within, cX11_within, 3, (some .boolean))
theorem dJ6_bitCount_0f7a4_0 : decode cJ6_bitCount_0f7a4 0 = .ok (.iload_n 0, 1) := by decide +kernel
theorem dJ6_bitCount_0f7a4_1 : decode cJ6_bitCount_0f7a4 1 = .ok (.iload_n 0, 1) := by decide +kernel
theorem dJ6_bitCount_0f7a4_2 : decode cJ6_bitCount_0f7a4 2 = .ok (.iconst 1, 1) := by decide +kernel
theorem dJ6_bitCount_0f7a4_3 : decode cJ6_bitCount_0f7a4 3 = .ok (.iushr, 1) := by decide +kernel
theorem dJ6_bitCount_0f7a4_4 : decode cJ6_bitCount_0f7a4 4 = .ok (.ldc_w 265, 3) := by decide +kernel
theorem dJ6_bitCount_0f7a4_7 : decode cJ6_bitCount_0f7a4 7 = .ok (.iand, 1) := by decide +kernel
theorem dJ6_bitCount_0f7a4_8 : decode cJ6_bitCount_0f7a4 8 = .ok (.isub, 1) := by decide +kernel
theorem dJ6_bitCount_0f7a4_9 : decode cJ6_bitCount_0f7a4 9 = .ok (.istore_n 0, 1) := by decide +kernel
theorem dJ6_bitCount_0f7a4_10 : decode cJ6_bitCount_0f7a4 10 = .ok (.iload_n 0, 1) := by decide +kernel
theorem dJ6_bitCount_0f7a4_11 : decode cJ6_bitCount_0f7a4 11 = .ok (.ldc_w 266, 3) := by decide +kernel
theorem dJ6_bitCount_0f7a4_14 : decode cJ6_bitCount_0f7a4 14 = .ok (.iand, 1) := by decide +kernel
theorem dJ6_bitCount_0f7a4_15 : decode cJ6_bitCount_0f7a4 15 = .ok (.iload_n 0, 1) := by decide +kernel
theorem dJ6_bitCount_0f7a4_16 : decode cJ6_bitCount_0f7a4 16 = .ok (.iconst 2, 1) := by decide +kernel
theorem dJ6_bitCount_0f7a4_17 : decode cJ6_bitCount_0f7a4 17 = .ok (.iushr, 1) := by decide +kernel
theorem dJ6_bitCount_0f7a4_18 : decode cJ6_bitCount_0f7a4 18 = .ok (.ldc_w 266, 3) := by decide +kernel
theorem dJ6_bitCount_0f7a4_21 : decode cJ6_bitCount_0f7a4 21 = .ok (.iand, 1) := by decide +kernel
theorem dJ6_bitCount_0f7a4_22 : decode cJ6_bitCount_0f7a4 22 = .ok (.iadd, 1) := by decide +kernel
theorem dJ6_bitCount_0f7a4_23 : decode cJ6_bitCount_0f7a4 23 = .ok (.istore_n 0, 1) := by decide +kernel
theorem dJ6_bitCount_0f7a4_24 : decode cJ6_bitCount_0f7a4 24 = .ok (.iload_n 0, 1) := by decide +kernel
theorem dJ6_bitCount_0f7a4_25 : decode cJ6_bitCount_0f7a4 25 = .ok (.iload_n 0, 1) := by decide +kernel
theorem dJ6_bitCount_0f7a4_26 : decode cJ6_bitCount_0f7a4 26 = .ok (.iconst 4, 1) := by decide +kernel
theorem dJ6_bitCount_0f7a4_27 : decode cJ6_bitCount_0f7a4 27 = .ok (.iushr, 1) := by decide +kernel
theorem dJ6_bitCount_0f7a4_28 : decode cJ6_bitCount_0f7a4 28 = .ok (.iadd, 1) := by decide +kernel
theorem dJ6_bitCount_0f7a4_29 : decode cJ6_bitCount_0f7a4 29 = .ok (.ldc_w 267, 3) := by decide +kernel
theorem dJ6_bitCount_0f7a4_32 : decode cJ6_bitCount_0f7a4 32 = .ok (.iand, 1) := by decide +kernel
theorem dJ6_bitCount_0f7a4_33 : decode cJ6_bitCount_0f7a4 33 = .ok (.istore_n 0, 1) := by decide +kernel
theorem dJ6_bitCount_0f7a4_34 : decode cJ6_bitCount_0f7a4 34 = .ok (.iload_n 0, 1) := by decide +kernel
theorem dJ6_bitCount_0f7a4_35 : decode cJ6_bitCount_0f7a4 35 = .ok (.iload_n 0, 1) := by decide +kernel
theorem dJ6_bitCount_0f7a4_36 : decode cJ6_bitCount_0f7a4 36 = .ok (.bipush 8, 2) := by decide +kernel
theorem dJ6_bitCount_0f7a4_38 : decode cJ6_bitCount_0f7a4 38 = .ok (.iushr, 1) := by decide +kernel
theorem dJ6_bitCount_0f7a4_39 : decode cJ6_bitCount_0f7a4 39 = .ok (.iadd, 1) := by decide +kernel
theorem dJ6_bitCount_0f7a4_40 : decode cJ6_bitCount_0f7a4 40 = .ok (.istore_n 0, 1) := by decide +kernel
theorem dJ6_bitCount_0f7a4_41 : decode cJ6_bitCount_0f7a4 41 = .ok (.iload_n 0, 1) := by decide +kernel
theorem dJ6_bitCount_0f7a4_42 : decode cJ6_bitCount_0f7a4 42 = .ok (.iload_n 0, 1) := by decide +kernel
theorem dJ6_bitCount_0f7a4_43 : decode cJ6_bitCount_0f7a4 43 = .ok (.bipush 16, 2) := by decide +kernel
theorem dJ6_bitCount_0f7a4_45 : decode cJ6_bitCount_0f7a4 45 = .ok (.iushr, 1) := by decide +kernel
theorem dJ6_bitCount_0f7a4_46 : decode cJ6_bitCount_0f7a4 46 = .ok (.iadd, 1) := by decide +kernel
theorem dJ6_bitCount_0f7a4_47 : decode cJ6_bitCount_0f7a4 47 = .ok (.istore_n 0, 1) := by decide +kernel
theorem dJ6_bitCount_0f7a4_48 : decode cJ6_bitCount_0f7a4 48 = .ok (.iload_n 0, 1) := by decide +kernel
theorem dJ6_bitCount_0f7a4_49 : decode cJ6_bitCount_0f7a4 49 = .ok (.bipush 63, 2) := by decide +kernel
theorem dJ6_bitCount_0f7a4_51 : decode cJ6_bitCount_0f7a4 51 = .ok (.iand, 1) := by decide +kernel
theorem dJ6_bitCount_0f7a4_52 : decode cJ6_bitCount_0f7a4 52 = .ok (.ireturn, 1) := by decide +kernel
abbrev YJ6_bitCount_0f7a4 : li_Y := (yJ6_bitCount_0f7a4, cJ6_bitCount_0f7a4, 1, (some .int))
theorem dJ6_numberOfTrailingZeros_0f7a4_0 : decode cJ6_numberOfTrailingZeros_0f7a4 0 = .ok (.iload_n 0, 1) := by decide +kernel
theorem dJ6_numberOfTrailingZeros_0f7a4_1 : decode cJ6_numberOfTrailingZeros_0f7a4 1 = .ok (.iconst (-1), 1) := by decide +kernel
theorem dJ6_numberOfTrailingZeros_0f7a4_2 : decode cJ6_numberOfTrailingZeros_0f7a4 2 = .ok (.ixor, 1) := by decide +kernel
theorem dJ6_numberOfTrailingZeros_0f7a4_3 : decode cJ6_numberOfTrailingZeros_0f7a4 3 = .ok (.iload_n 0, 1) := by decide +kernel
theorem dJ6_numberOfTrailingZeros_0f7a4_4 : decode cJ6_numberOfTrailingZeros_0f7a4 4 = .ok (.iconst 1, 1) := by decide +kernel
theorem dJ6_numberOfTrailingZeros_0f7a4_5 : decode cJ6_numberOfTrailingZeros_0f7a4 5 = .ok (.isub, 1) := by decide +kernel
theorem dJ6_numberOfTrailingZeros_0f7a4_6 : decode cJ6_numberOfTrailingZeros_0f7a4 6 = .ok (.iand, 1) := by decide +kernel
theorem dJ6_numberOfTrailingZeros_0f7a4_7 : decode cJ6_numberOfTrailingZeros_0f7a4 7 = .ok (.istore_n 0, 1) := by decide +kernel
theorem dJ6_numberOfTrailingZeros_0f7a4_8 : decode cJ6_numberOfTrailingZeros_0f7a4 8 = .ok (.iload_n 0, 1) := by decide +kernel
theorem dJ6_numberOfTrailingZeros_0f7a4_9 : decode cJ6_numberOfTrailingZeros_0f7a4 9 = .ok (.ifCond .gt 8, 3) := by decide +kernel
theorem dJ6_numberOfTrailingZeros_0f7a4_12 : decode cJ6_numberOfTrailingZeros_0f7a4 12 = .ok (.iload_n 0, 1) := by decide +kernel
theorem dJ6_numberOfTrailingZeros_0f7a4_13 : decode cJ6_numberOfTrailingZeros_0f7a4 13 = .ok (.bipush 32, 2) := by decide +kernel
theorem dJ6_numberOfTrailingZeros_0f7a4_15 : decode cJ6_numberOfTrailingZeros_0f7a4 15 = .ok (.iand, 1) := by decide +kernel
theorem dJ6_numberOfTrailingZeros_0f7a4_16 : decode cJ6_numberOfTrailingZeros_0f7a4 16 = .ok (.ireturn, 1) := by decide +kernel
theorem dJ6_numberOfTrailingZeros_0f7a4_17 : decode cJ6_numberOfTrailingZeros_0f7a4 17 = .ok (.iconst 1, 1) := by decide +kernel
theorem dJ6_numberOfTrailingZeros_0f7a4_18 : decode cJ6_numberOfTrailingZeros_0f7a4 18 = .ok (.istore_n 1, 1) := by decide +kernel
theorem dJ6_numberOfTrailingZeros_0f7a4_19 : decode cJ6_numberOfTrailingZeros_0f7a4 19 = .ok (.iload_n 0, 1) := by decide +kernel
theorem dJ6_numberOfTrailingZeros_0f7a4_20 : decode cJ6_numberOfTrailingZeros_0f7a4 20 = .ok (.ldc_w 264, 3) := by decide +kernel
theorem dJ6_numberOfTrailingZeros_0f7a4_23 : decode cJ6_numberOfTrailingZeros_0f7a4 23 = .ok (.if_icmp .le 11, 3) := by decide +kernel
theorem dJ6_numberOfTrailingZeros_0f7a4_26 : decode cJ6_numberOfTrailingZeros_0f7a4 26 = .ok (.iinc 1 16, 3) := by decide +kernel
theorem dJ6_numberOfTrailingZeros_0f7a4_29 : decode cJ6_numberOfTrailingZeros_0f7a4 29 = .ok (.iload_n 0, 1) := by decide +kernel
theorem dJ6_numberOfTrailingZeros_0f7a4_30 : decode cJ6_numberOfTrailingZeros_0f7a4 30 = .ok (.bipush 16, 2) := by decide +kernel
theorem dJ6_numberOfTrailingZeros_0f7a4_32 : decode cJ6_numberOfTrailingZeros_0f7a4 32 = .ok (.iushr, 1) := by decide +kernel
theorem dJ6_numberOfTrailingZeros_0f7a4_33 : decode cJ6_numberOfTrailingZeros_0f7a4 33 = .ok (.istore_n 0, 1) := by decide +kernel
theorem dJ6_numberOfTrailingZeros_0f7a4_34 : decode cJ6_numberOfTrailingZeros_0f7a4 34 = .ok (.iload_n 0, 1) := by decide +kernel
theorem dJ6_numberOfTrailingZeros_0f7a4_35 : decode cJ6_numberOfTrailingZeros_0f7a4 35 = .ok (.sipush 256, 3) := by decide +kernel
theorem dJ6_numberOfTrailingZeros_0f7a4_38 : decode cJ6_numberOfTrailingZeros_0f7a4 38 = .ok (.if_icmp .le 11, 3) := by decide +kernel
theorem dJ6_numberOfTrailingZeros_0f7a4_41 : decode cJ6_numberOfTrailingZeros_0f7a4 41 = .ok (.iinc 1 8, 3) := by decide +kernel
theorem dJ6_numberOfTrailingZeros_0f7a4_44 : decode cJ6_numberOfTrailingZeros_0f7a4 44 = .ok (.iload_n 0, 1) := by decide +kernel
theorem dJ6_numberOfTrailingZeros_0f7a4_45 : decode cJ6_numberOfTrailingZeros_0f7a4 45 = .ok (.bipush 8, 2) := by decide +kernel
theorem dJ6_numberOfTrailingZeros_0f7a4_47 : decode cJ6_numberOfTrailingZeros_0f7a4 47 = .ok (.iushr, 1) := by decide +kernel
theorem dJ6_numberOfTrailingZeros_0f7a4_48 : decode cJ6_numberOfTrailingZeros_0f7a4 48 = .ok (.istore_n 0, 1) := by decide +kernel
theorem dJ6_numberOfTrailingZeros_0f7a4_49 : decode cJ6_numberOfTrailingZeros_0f7a4 49 = .ok (.iload_n 0, 1) := by decide +kernel
theorem dJ6_numberOfTrailingZeros_0f7a4_50 : decode cJ6_numberOfTrailingZeros_0f7a4 50 = .ok (.bipush 16, 2) := by decide +kernel
theorem dJ6_numberOfTrailingZeros_0f7a4_52 : decode cJ6_numberOfTrailingZeros_0f7a4 52 = .ok (.if_icmp .le 10, 3) := by decide +kernel
theorem dJ6_numberOfTrailingZeros_0f7a4_55 : decode cJ6_numberOfTrailingZeros_0f7a4 55 = .ok (.iinc 1 4, 3) := by decide +kernel
theorem dJ6_numberOfTrailingZeros_0f7a4_58 : decode cJ6_numberOfTrailingZeros_0f7a4 58 = .ok (.iload_n 0, 1) := by decide +kernel
theorem dJ6_numberOfTrailingZeros_0f7a4_59 : decode cJ6_numberOfTrailingZeros_0f7a4 59 = .ok (.iconst 4, 1) := by decide +kernel
theorem dJ6_numberOfTrailingZeros_0f7a4_60 : decode cJ6_numberOfTrailingZeros_0f7a4 60 = .ok (.iushr, 1) := by decide +kernel
theorem dJ6_numberOfTrailingZeros_0f7a4_61 : decode cJ6_numberOfTrailingZeros_0f7a4 61 = .ok (.istore_n 0, 1) := by decide +kernel
theorem dJ6_numberOfTrailingZeros_0f7a4_62 : decode cJ6_numberOfTrailingZeros_0f7a4 62 = .ok (.iload_n 0, 1) := by decide +kernel
theorem dJ6_numberOfTrailingZeros_0f7a4_63 : decode cJ6_numberOfTrailingZeros_0f7a4 63 = .ok (.iconst 4, 1) := by decide +kernel
theorem dJ6_numberOfTrailingZeros_0f7a4_64 : decode cJ6_numberOfTrailingZeros_0f7a4 64 = .ok (.if_icmp .le 10, 3) := by decide +kernel
theorem dJ6_numberOfTrailingZeros_0f7a4_67 : decode cJ6_numberOfTrailingZeros_0f7a4 67 = .ok (.iinc 1 2, 3) := by decide +kernel
theorem dJ6_numberOfTrailingZeros_0f7a4_70 : decode cJ6_numberOfTrailingZeros_0f7a4 70 = .ok (.iload_n 0, 1) := by decide +kernel
theorem dJ6_numberOfTrailingZeros_0f7a4_71 : decode cJ6_numberOfTrailingZeros_0f7a4 71 = .ok (.iconst 2, 1) := by decide +kernel
theorem dJ6_numberOfTrailingZeros_0f7a4_72 : decode cJ6_numberOfTrailingZeros_0f7a4 72 = .ok (.iushr, 1) := by decide +kernel
theorem dJ6_numberOfTrailingZeros_0f7a4_73 : decode cJ6_numberOfTrailingZeros_0f7a4 73 = .ok (.istore_n 0, 1) := by decide +kernel
theorem dJ6_numberOfTrailingZeros_0f7a4_74 : decode cJ6_numberOfTrailingZeros_0f7a4 74 = .ok (.iload_n 1, 1) := by decide +kernel
theorem dJ6_numberOfTrailingZeros_0f7a4_75 : decode cJ6_numberOfTrailingZeros_0f7a4 75 = .ok (.iload_n 0, 1) := by decide +kernel
theorem dJ6_numberOfTrailingZeros_0f7a4_76 : decode cJ6_numberOfTrailingZeros_0f7a4 76 = .ok (.iconst 1, 1) := by decide +kernel
theorem dJ6_numberOfTrailingZeros_0f7a4_77 : decode cJ6_numberOfTrailingZeros_0f7a4 77 = .ok (.iushr, 1) := by decide +kernel
theorem dJ6_numberOfTrailingZeros_0f7a4_78 : decode cJ6_numberOfTrailingZeros_0f7a4 78 = .ok (.iadd, 1) := by decide +kernel
theorem dJ6_numberOfTrailingZeros_0f7a4_79 : decode cJ6_numberOfTrailingZeros_0f7a4 79 = .ok (.ireturn, 1) := by decide +kernel
abbrev YJ6_numberOfTrailingZeros_0f7a4 : li_Y := (yJ6_numberOfTrailingZeros_0f7a4, cJ6_numberOfTrailingZeros_0f7a4, 2, (some .int))
theorem dX11_clamp_0 : decode cX11_clamp 0 = .ok (.iconst 0, 1) := by decide +kernel
theorem dX11_clamp_1 : decode cX11_clamp 1 = .ok (.iload_n 0, 1) := by decide +kernel
theorem dX11_clamp_2 : decode cX11_clamp 2 = .ok (.iload_n 1, 1) := by decide +kernel
theorem dX11_clamp_3 : decode cX11_clamp 3 = .ok (.invokestatic 509, 3) := by decide +kernel
theorem dX11_clamp_6 : decode cX11_clamp 6 = .ok (.invokestatic 325, 3) := by decide +kernel
theorem dX11_clamp_9 : decode cX11_clamp 9 = .ok (.ireturn, 1) := by decide +kernel
abbrev YX11_clamp : li_Y := (yX11_clamp, cX11_clamp, 2, (some .int))
theorem dX11_holds_0 : decode cX11_holds 0 = .ok (.iload_n 1, 1) := by decide +kernel
theorem dX11_holds_1 : decode cX11_holds 1 = .ok (.ifCond .lt 21, 3) := by decide +kernel
theorem dX11_holds_4 : decode cX11_holds 4 = .ok (.iload_n 1, 1) := by decide +kernel
theorem dX11_holds_5 : decode cX11_holds 5 = .ok (.bipush 32, 2) := by decide +kernel
theorem dX11_holds_7 : decode cX11_holds 7 = .ok (.if_icmp .ge 15, 3) := by decide +kernel
theorem dX11_holds_10 : decode cX11_holds 10 = .ok (.iload_n 0, 1) := by decide +kernel
theorem dX11_holds_11 : decode cX11_holds 11 = .ok (.iload_n 1, 1) := by decide +kernel
theorem dX11_holds_12 : decode cX11_holds 12 = .ok (.iushr, 1) := by decide +kernel
theorem dX11_holds_13 : decode cX11_holds 13 = .ok (.iconst 1, 1) := by decide +kernel
theorem dX11_holds_14 : decode cX11_holds 14 = .ok (.iand, 1) := by decide +kernel
theorem dX11_holds_15 : decode cX11_holds 15 = .ok (.ifCond .eq 7, 3) := by decide +kernel
theorem dX11_holds_18 : decode cX11_holds 18 = .ok (.iconst 1, 1) := by decide +kernel
theorem dX11_holds_19 : decode cX11_holds 19 = .ok (.goto 4, 3) := by decide +kernel
theorem dX11_holds_22 : decode cX11_holds 22 = .ok (.iconst 0, 1) := by decide +kernel
theorem dX11_holds_23 : decode cX11_holds 23 = .ok (.ireturn, 1) := by decide +kernel
abbrev YX11_holds : li_Y := (yX11_holds, cX11_holds, 2, (some .boolean))
theorem dX11_areBitsOf_0 : decode cX11_areBitsOf 0 = .ok (.iload_n 0, 1) := by decide +kernel
theorem dX11_areBitsOf_1 : decode cX11_areBitsOf 1 = .ok (.iconst 1, 1) := by decide +kernel
theorem dX11_areBitsOf_2 : decode cX11_areBitsOf 2 = .ok (.iload_n 1, 1) := by decide +kernel
theorem dX11_areBitsOf_3 : decode cX11_areBitsOf 3 = .ok (.ishl, 1) := by decide +kernel
theorem dX11_areBitsOf_4 : decode cX11_areBitsOf 4 = .ok (.iconst 1, 1) := by decide +kernel
theorem dX11_areBitsOf_5 : decode cX11_areBitsOf 5 = .ok (.isub, 1) := by decide +kernel
theorem dX11_areBitsOf_6 : decode cX11_areBitsOf 6 = .ok (.iconst (-1), 1) := by decide +kernel
theorem dX11_areBitsOf_7 : decode cX11_areBitsOf 7 = .ok (.ixor, 1) := by decide +kernel
theorem dX11_areBitsOf_8 : decode cX11_areBitsOf 8 = .ok (.iand, 1) := by decide +kernel
theorem dX11_areBitsOf_9 : decode cX11_areBitsOf 9 = .ok (.ifCond .ne 7, 3) := by decide +kernel
theorem dX11_areBitsOf_12 : decode cX11_areBitsOf 12 = .ok (.iconst 1, 1) := by decide +kernel
theorem dX11_areBitsOf_13 : decode cX11_areBitsOf 13 = .ok (.goto 4, 3) := by decide +kernel
theorem dX11_areBitsOf_16 : decode cX11_areBitsOf 16 = .ok (.iconst 0, 1) := by decide +kernel
theorem dX11_areBitsOf_17 : decode cX11_areBitsOf 17 = .ok (.ireturn, 1) := by decide +kernel
abbrev YX11_areBitsOf : li_Y := (yX11_areBitsOf, cX11_areBitsOf, 2, (some .boolean))
theorem dX11_entryOf_0 : decode cX11_entryOf 0 = .ok (.iload_n 1, 1) := by decide +kernel
theorem dX11_entryOf_1 : decode cX11_entryOf 1 = .ok (.istore_n 2, 1) := by decide +kernel
theorem dX11_entryOf_2 : decode cX11_entryOf 2 = .ok (.iload_n 0, 1) := by decide +kernel
theorem dX11_entryOf_3 : decode cX11_entryOf 3 = .ok (.ifCond .ne 9, 3) := by decide +kernel
theorem dX11_entryOf_6 : decode cX11_entryOf 6 = .ok (.iload_n 1, 1) := by decide +kernel
theorem dX11_entryOf_7 : decode cX11_entryOf 7 = .ok (.i2b, 1) := by decide +kernel
theorem dX11_entryOf_8 : decode cX11_entryOf 8 = .ok (.istore_n 2, 1) := by decide +kernel
theorem dX11_entryOf_9 : decode cX11_entryOf 9 = .ok (.goto 11, 3) := by decide +kernel
theorem dX11_entryOf_12 : decode cX11_entryOf 12 = .ok (.iload_n 0, 1) := by decide +kernel
theorem dX11_entryOf_13 : decode cX11_entryOf 13 = .ok (.iconst 1, 1) := by decide +kernel
theorem dX11_entryOf_14 : decode cX11_entryOf 14 = .ok (.if_icmp .ne 6, 3) := by decide +kernel
theorem dX11_entryOf_17 : decode cX11_entryOf 17 = .ok (.iload_n 1, 1) := by decide +kernel
theorem dX11_entryOf_18 : decode cX11_entryOf 18 = .ok (.i2s, 1) := by decide +kernel
theorem dX11_entryOf_19 : decode cX11_entryOf 19 = .ok (.istore_n 2, 1) := by decide +kernel
theorem dX11_entryOf_20 : decode cX11_entryOf 20 = .ok (.iload_n 2, 1) := by decide +kernel
theorem dX11_entryOf_21 : decode cX11_entryOf 21 = .ok (.sipush 9999, 3) := by decide +kernel
theorem dX11_entryOf_24 : decode cX11_entryOf 24 = .ok (.invokestatic 512, 3) := by decide +kernel
theorem dX11_entryOf_27 : decode cX11_entryOf 27 = .ok (.ireturn, 1) := by decide +kernel
abbrev YX11_entryOf : li_Y := (yX11_entryOf, cX11_entryOf, 3, (some .int))
theorem dX6_usual_0 : decode cX6_usual 0 = .ok (.iload_n 1, 1) := by decide +kernel
theorem dX6_usual_1 : decode cX6_usual 1 = .ok (.tableswitch 41 0 2 #[27, 33, 39], 27) := by decide +kernel
theorem dX6_usual_28 : decode cX6_usual 28 = .ok (.iload_n 0, 1) := by decide +kernel
theorem dX6_usual_29 : decode cX6_usual 29 = .ok (.iconst 1, 1) := by decide +kernel
theorem dX6_usual_30 : decode cX6_usual 30 = .ok (.iadd, 1) := by decide +kernel
theorem dX6_usual_31 : decode cX6_usual 31 = .ok (.iconst 2, 1) := by decide +kernel
theorem dX6_usual_32 : decode cX6_usual 32 = .ok (.idiv, 1) := by decide +kernel
theorem dX6_usual_33 : decode cX6_usual 33 = .ok (.ireturn, 1) := by decide +kernel
theorem dX6_usual_34 : decode cX6_usual 34 = .ok (.iload_n 0, 1) := by decide +kernel
theorem dX6_usual_35 : decode cX6_usual 35 = .ok (.iconst 2, 1) := by decide +kernel
theorem dX6_usual_36 : decode cX6_usual 36 = .ok (.iadd, 1) := by decide +kernel
theorem dX6_usual_37 : decode cX6_usual 37 = .ok (.iconst 3, 1) := by decide +kernel
theorem dX6_usual_38 : decode cX6_usual 38 = .ok (.idiv, 1) := by decide +kernel
theorem dX6_usual_39 : decode cX6_usual 39 = .ok (.ireturn, 1) := by decide +kernel
theorem dX6_usual_40 : decode cX6_usual 40 = .ok (.iload_n 0, 1) := by decide +kernel
theorem dX6_usual_41 : decode cX6_usual 41 = .ok (.ireturn, 1) := by decide +kernel
theorem dX6_usual_42 : decode cX6_usual 42 = .ok (.iload_n 0, 1) := by decide +kernel
theorem dX6_usual_43 : decode cX6_usual 43 = .ok (.iconst 2, 1) := by decide +kernel
theorem dX6_usual_44 : decode cX6_usual 44 = .ok (.imul, 1) := by decide +kernel
theorem dX6_usual_45 : decode cX6_usual 45 = .ok (.ireturn, 1) := by decide +kernel
abbrev YX6_usual : li_Y := (yX6_usual, cX6_usual, 2, (some .int))
theorem dX6_reckon_0 : decode cX6_reckon 0 = .ok (.iload_n 0, 1) := by decide +kernel
theorem dX6_reckon_1 : decode cX6_reckon 1 = .ok (.lookupswitch 104 #[(42, 100), (43, 92), (45, 96), (60, 59), (61, 81), (62, 70)], 59) := by decide +kernel
theorem dX6_reckon_60 : decode cX6_reckon 60 = .ok (.iload_n 1, 1) := by decide +kernel
theorem dX6_reckon_61 : decode cX6_reckon 61 = .ok (.iload_n 2, 1) := by decide +kernel
theorem dX6_reckon_62 : decode cX6_reckon 62 = .ok (.if_icmp .ge 7, 3) := by decide +kernel
theorem dX6_reckon_65 : decode cX6_reckon 65 = .ok (.iconst 1, 1) := by decide +kernel
theorem dX6_reckon_66 : decode cX6_reckon 66 = .ok (.goto 4, 3) := by decide +kernel
theorem dX6_reckon_69 : decode cX6_reckon 69 = .ok (.iconst 0, 1) := by decide +kernel
theorem dX6_reckon_70 : decode cX6_reckon 70 = .ok (.ireturn, 1) := by decide +kernel
theorem dX6_reckon_71 : decode cX6_reckon 71 = .ok (.iload_n 1, 1) := by decide +kernel
theorem dX6_reckon_72 : decode cX6_reckon 72 = .ok (.iload_n 2, 1) := by decide +kernel
theorem dX6_reckon_73 : decode cX6_reckon 73 = .ok (.if_icmp .le 7, 3) := by decide +kernel
theorem dX6_reckon_76 : decode cX6_reckon 76 = .ok (.iconst 1, 1) := by decide +kernel
theorem dX6_reckon_77 : decode cX6_reckon 77 = .ok (.goto 4, 3) := by decide +kernel
theorem dX6_reckon_80 : decode cX6_reckon 80 = .ok (.iconst 0, 1) := by decide +kernel
theorem dX6_reckon_81 : decode cX6_reckon 81 = .ok (.ireturn, 1) := by decide +kernel
theorem dX6_reckon_82 : decode cX6_reckon 82 = .ok (.iload_n 1, 1) := by decide +kernel
theorem dX6_reckon_83 : decode cX6_reckon 83 = .ok (.iload_n 2, 1) := by decide +kernel
theorem dX6_reckon_84 : decode cX6_reckon 84 = .ok (.if_icmp .ne 7, 3) := by decide +kernel
theorem dX6_reckon_87 : decode cX6_reckon 87 = .ok (.iconst 1, 1) := by decide +kernel
theorem dX6_reckon_88 : decode cX6_reckon 88 = .ok (.goto 4, 3) := by decide +kernel
theorem dX6_reckon_91 : decode cX6_reckon 91 = .ok (.iconst 0, 1) := by decide +kernel
theorem dX6_reckon_92 : decode cX6_reckon 92 = .ok (.ireturn, 1) := by decide +kernel
theorem dX6_reckon_93 : decode cX6_reckon 93 = .ok (.iload_n 1, 1) := by decide +kernel
theorem dX6_reckon_94 : decode cX6_reckon 94 = .ok (.iload_n 2, 1) := by decide +kernel
theorem dX6_reckon_95 : decode cX6_reckon 95 = .ok (.iadd, 1) := by decide +kernel
theorem dX6_reckon_96 : decode cX6_reckon 96 = .ok (.ireturn, 1) := by decide +kernel
theorem dX6_reckon_97 : decode cX6_reckon 97 = .ok (.iload_n 1, 1) := by decide +kernel
theorem dX6_reckon_98 : decode cX6_reckon 98 = .ok (.iload_n 2, 1) := by decide +kernel
theorem dX6_reckon_99 : decode cX6_reckon 99 = .ok (.isub, 1) := by decide +kernel
theorem dX6_reckon_100 : decode cX6_reckon 100 = .ok (.ireturn, 1) := by decide +kernel
theorem dX6_reckon_101 : decode cX6_reckon 101 = .ok (.iload_n 1, 1) := by decide +kernel
theorem dX6_reckon_102 : decode cX6_reckon 102 = .ok (.iload_n 2, 1) := by decide +kernel
theorem dX6_reckon_103 : decode cX6_reckon 103 = .ok (.imul, 1) := by decide +kernel
theorem dX6_reckon_104 : decode cX6_reckon 104 = .ok (.ireturn, 1) := by decide +kernel
theorem dX6_reckon_105 : decode cX6_reckon 105 = .ok (.iload_n 2, 1) := by decide +kernel
theorem dX6_reckon_106 : decode cX6_reckon 106 = .ok (.ifCond .ne 7, 3) := by decide +kernel
theorem dX6_reckon_109 : decode cX6_reckon 109 = .ok (.iconst 0, 1) := by decide +kernel
theorem dX6_reckon_110 : decode cX6_reckon 110 = .ok (.goto 6, 3) := by decide +kernel
theorem dX6_reckon_113 : decode cX6_reckon 113 = .ok (.iload_n 1, 1) := by decide +kernel
theorem dX6_reckon_114 : decode cX6_reckon 114 = .ok (.iload_n 2, 1) := by decide +kernel
theorem dX6_reckon_115 : decode cX6_reckon 115 = .ok (.idiv, 1) := by decide +kernel
theorem dX6_reckon_116 : decode cX6_reckon 116 = .ok (.ireturn, 1) := by decide +kernel
abbrev YX6_reckon : li_Y := (yX6_reckon, cX6_reckon, 3, (some .int))
theorem dX2_wordsFor_0 : decode cX2_wordsFor 0 = .ok (.iload_n 0, 1) := by decide +kernel
theorem dX2_wordsFor_1 : decode cX2_wordsFor 1 = .ok (.ifCond .lt 10, 3) := by decide +kernel
theorem dX2_wordsFor_4 : decode cX2_wordsFor 4 = .ok (.iload_n 0, 1) := by decide +kernel
theorem dX2_wordsFor_5 : decode cX2_wordsFor 5 = .ok (.sipush 8000, 3) := by decide +kernel
theorem dX2_wordsFor_8 : decode cX2_wordsFor 8 = .ok (.if_icmp .lt 7, 3) := by decide +kernel
theorem dX2_wordsFor_11 : decode cX2_wordsFor 11 = .ok (.iconst 0, 1) := by decide +kernel
theorem dX2_wordsFor_12 : decode cX2_wordsFor 12 = .ok (.goto 9, 3) := by decide +kernel
theorem dX2_wordsFor_15 : decode cX2_wordsFor 15 = .ok (.iload_n 0, 1) := by decide +kernel
theorem dX2_wordsFor_16 : decode cX2_wordsFor 16 = .ok (.bipush 64, 2) := by decide +kernel
theorem dX2_wordsFor_18 : decode cX2_wordsFor 18 = .ok (.idiv, 1) := by decide +kernel
theorem dX2_wordsFor_19 : decode cX2_wordsFor 19 = .ok (.iconst 1, 1) := by decide +kernel
theorem dX2_wordsFor_20 : decode cX2_wordsFor 20 = .ok (.iadd, 1) := by decide +kernel
theorem dX2_wordsFor_21 : decode cX2_wordsFor 21 = .ok (.ireturn, 1) := by decide +kernel
abbrev YX2_wordsFor : li_Y := (yX2_wordsFor, cX2_wordsFor, 1, (some .int))
set_option maxRecDepth 100000 in
set_option maxHeartbeats 4000000 in
theorem k_X11_within {l : Launch} {Z : li_Z} (d : Nat) (hd : 1 ≤ d) (p1 : Int32) (p2 : Int32) (p3 : Int32) (M0 : li_M) : li_Met l Z YX11_within d [.int p1, .int p2, .int p3] M0 (fun r M' => (∃ x : Int32, r = some (.int x) ∧ (x = 0 ∨ x = 1) ∧ (x.toInt = 1 → p2.toInt ≤ p1.toInt ∧ p1.toInt ≤ p3.toInt)) ∧ li_fr (fun i => False) M0 M') := by
  refine li_enter (by decide +kernel) (Nat.le_of_ble_eq_true rfl) ?_
  show li_T l Z YX11_within d 0 [(0, .int p1), (1, .int p2), (2, .int p3)] [] M0 _
  have hf : li_fr (fun i => False) M0 M0 := li_fr_refl
  have gp1 := tl_rg p1
  have gp2 := tl_rg p2
  have gp3 := tl_rg p3
  refine li_iload_n 0 dX11_within_0 rfl ?_
  refine li_iload_n 1 dX11_within_1 rfl ?_
  refine li_icmp_lt 14 dX11_within_2 (by decide) (fun c1 => ?_) (fun c1 => ?_)
  · have tc1 : p1.toInt < p2.toInt := tl_lt c1
    refine li_iconst 0 dX11_within_14 (by decide) ?_
    have z0 : (0 : Int32).toInt = 0 := rfl
    exact li_iret dX11_within_15 rfl (li_nz (Or.inl rfl)) ⟨⟨_, rfl, Or.inl rfl, (by first | omega | (intro _; omega) | (intro h; exact absurd h (by decide)))⟩, hf⟩
  · have tc1 : p2.toInt ≤ p1.toInt := tl_nlt c1
    refine li_iload_n 0 dX11_within_5 rfl ?_
    refine li_iload_n 2 dX11_within_6 rfl ?_
    refine li_icmp_gt 14 dX11_within_7 (by decide) (fun c2 => ?_) (fun c2 => ?_)
    · have tc2 : p3.toInt < p1.toInt := tl_lt c2
      refine li_iconst 0 dX11_within_14 (by decide) ?_
      have z0 : (0 : Int32).toInt = 0 := rfl
      exact li_iret dX11_within_15 rfl (li_nz (Or.inl rfl)) ⟨⟨_, rfl, Or.inl rfl, (by first | omega | (intro _; omega) | (intro h; exact absurd h (by decide)))⟩, hf⟩
    · have tc2 : p1.toInt ≤ p3.toInt := tl_nlt c2
      refine li_iconst 1 dX11_within_10 (by decide) ?_
      refine li_goto 15 dX11_within_11 (by decide) ?_
      have z1 : (1 : Int32).toInt = 1 := rfl
      exact li_iret dX11_within_15 rfl (li_nz (Or.inr rfl)) ⟨⟨_, rfl, Or.inr rfl, (by first | omega | (intro _; omega) | (intro h; exact absurd h (by decide)))⟩, hf⟩
set_option maxRecDepth 100000 in
set_option maxHeartbeats 4000000 in
theorem k_J6_bitCount_0f7a4 {l : Launch} {Z : li_Z} (d : Nat) (hd : 1 ≤ d) (p1 : Int32) (M0 : li_M) : li_Met l Z YJ6_bitCount_0f7a4 d [.int p1] M0 (li_SI (fun i => False) M0) := by
  refine li_enter (by decide +kernel) (Nat.le_of_ble_eq_true rfl) ?_
  show li_T l Z YJ6_bitCount_0f7a4 d 0 [(0, .int p1)] [] M0 _
  have hf : li_fr (fun i => False) M0 M0 := li_fr_refl
  refine li_iload_n 0 dJ6_bitCount_0f7a4_0 rfl ?_
  refine li_iload_n 0 dJ6_bitCount_0f7a4_1 rfl ?_
  refine li_iconst 1 dJ6_bitCount_0f7a4_2 (by decide) ?_
  refine li_iushr dJ6_bitCount_0f7a4_3 ?_
  refine li_top (fun x1 ex1 => ?_)
  refine li_ldcw 1431655765 dJ6_bitCount_0f7a4_4 w_824 ?_
  refine li_iand dJ6_bitCount_0f7a4_7 ?_
  refine li_top (fun x2 ex2 => ?_)
  refine li_isub dJ6_bitCount_0f7a4_8 ?_
  refine li_top (fun x3 ex3 => ?_)
  refine li_istore_n [(0, .int x3)] dJ6_bitCount_0f7a4_9 (by decide) rfl ?_
  refine li_iload_n 0 dJ6_bitCount_0f7a4_10 rfl ?_
  refine li_ldcw 858993459 dJ6_bitCount_0f7a4_11 w_825 ?_
  refine li_iand dJ6_bitCount_0f7a4_14 ?_
  refine li_top (fun x4 ex4 => ?_)
  refine li_iload_n 0 dJ6_bitCount_0f7a4_15 rfl ?_
  refine li_iconst 2 dJ6_bitCount_0f7a4_16 (by decide) ?_
  refine li_iushr dJ6_bitCount_0f7a4_17 ?_
  refine li_top (fun x5 ex5 => ?_)
  refine li_ldcw 858993459 dJ6_bitCount_0f7a4_18 w_825 ?_
  refine li_iand dJ6_bitCount_0f7a4_21 ?_
  refine li_top (fun x6 ex6 => ?_)
  refine li_iadd dJ6_bitCount_0f7a4_22 ?_
  refine li_top (fun x7 ex7 => ?_)
  refine li_istore_n [(0, .int x7)] dJ6_bitCount_0f7a4_23 (by decide) rfl ?_
  refine li_iload_n 0 dJ6_bitCount_0f7a4_24 rfl ?_
  refine li_iload_n 0 dJ6_bitCount_0f7a4_25 rfl ?_
  refine li_iconst 4 dJ6_bitCount_0f7a4_26 (by decide) ?_
  refine li_iushr dJ6_bitCount_0f7a4_27 ?_
  refine li_top (fun x8 ex8 => ?_)
  refine li_iadd dJ6_bitCount_0f7a4_28 ?_
  refine li_top (fun x9 ex9 => ?_)
  refine li_ldcw 252645135 dJ6_bitCount_0f7a4_29 w_826 ?_
  refine li_iand dJ6_bitCount_0f7a4_32 ?_
  refine li_top (fun x10 ex10 => ?_)
  refine li_istore_n [(0, .int x10)] dJ6_bitCount_0f7a4_33 (by decide) rfl ?_
  refine li_iload_n 0 dJ6_bitCount_0f7a4_34 rfl ?_
  refine li_iload_n 0 dJ6_bitCount_0f7a4_35 rfl ?_
  refine li_bipush 8 dJ6_bitCount_0f7a4_36 (by decide) ?_
  refine li_iushr dJ6_bitCount_0f7a4_38 ?_
  refine li_top (fun x11 ex11 => ?_)
  refine li_iadd dJ6_bitCount_0f7a4_39 ?_
  refine li_top (fun x12 ex12 => ?_)
  refine li_istore_n [(0, .int x12)] dJ6_bitCount_0f7a4_40 (by decide) rfl ?_
  refine li_iload_n 0 dJ6_bitCount_0f7a4_41 rfl ?_
  refine li_iload_n 0 dJ6_bitCount_0f7a4_42 rfl ?_
  refine li_bipush 16 dJ6_bitCount_0f7a4_43 (by decide) ?_
  refine li_iushr dJ6_bitCount_0f7a4_45 ?_
  refine li_top (fun x13 ex13 => ?_)
  refine li_iadd dJ6_bitCount_0f7a4_46 ?_
  refine li_top (fun x14 ex14 => ?_)
  refine li_istore_n [(0, .int x14)] dJ6_bitCount_0f7a4_47 (by decide) rfl ?_
  refine li_iload_n 0 dJ6_bitCount_0f7a4_48 rfl ?_
  refine li_bipush 63 dJ6_bitCount_0f7a4_49 (by decide) ?_
  refine li_iand dJ6_bitCount_0f7a4_51 ?_
  refine li_top (fun x15 ex15 => ?_)
  exact li_iret dJ6_bitCount_0f7a4_52 rfl rfl ⟨⟨_, rfl⟩, hf⟩
set_option maxRecDepth 100000 in
set_option maxHeartbeats 4000000 in
theorem k_J6_numberOfTrailingZeros_0f7a4 {l : Launch} {Z : li_Z} (d : Nat) (hd : 1 ≤ d) (p1 : Int32) (M0 : li_M) : li_Met l Z YJ6_numberOfTrailingZeros_0f7a4 d [.int p1] M0 (li_SI (fun i => False) M0) := by
  refine li_enter (by decide +kernel) (Nat.le_of_ble_eq_true rfl) ?_
  show li_T l Z YJ6_numberOfTrailingZeros_0f7a4 d 0 [(0, .int p1)] [] M0 _
  have hf : li_fr (fun i => False) M0 M0 := li_fr_refl
  refine li_iload_n 0 dJ6_numberOfTrailingZeros_0f7a4_0 rfl ?_
  refine li_iconst (-1) dJ6_numberOfTrailingZeros_0f7a4_1 (by decide) ?_
  refine li_ixor dJ6_numberOfTrailingZeros_0f7a4_2 ?_
  refine li_top (fun x1 ex1 => ?_)
  refine li_iload_n 0 dJ6_numberOfTrailingZeros_0f7a4_3 rfl ?_
  refine li_iconst 1 dJ6_numberOfTrailingZeros_0f7a4_4 (by decide) ?_
  refine li_isub dJ6_numberOfTrailingZeros_0f7a4_5 ?_
  refine li_top (fun x2 ex2 => ?_)
  refine li_iand dJ6_numberOfTrailingZeros_0f7a4_6 ?_
  refine li_top (fun x3 ex3 => ?_)
  refine li_istore_n [(0, .int x3)] dJ6_numberOfTrailingZeros_0f7a4_7 (by decide) rfl ?_
  refine li_iload_n 0 dJ6_numberOfTrailingZeros_0f7a4_8 rfl ?_
  refine li_if_gt 17 dJ6_numberOfTrailingZeros_0f7a4_9 (by decide) (fun c4 => ?_) (fun c4 => ?_)
  · refine li_iconst 1 dJ6_numberOfTrailingZeros_0f7a4_17 (by decide) ?_
    refine li_istore_n [(1, .int 1), (0, .int x3)] dJ6_numberOfTrailingZeros_0f7a4_18 (by decide) rfl ?_
    refine li_iload_n 1 dJ6_numberOfTrailingZeros_0f7a4_19 rfl ?_
    refine li_ldcw 65536 dJ6_numberOfTrailingZeros_0f7a4_20 w_1150 ?_
    have J34 : ∀ (x6 : Int32) (x7 : Int32) (M8 : li_M), li_fr (fun i => False) M0 M8 → li_T l Z YJ6_numberOfTrailingZeros_0f7a4 d 34 [(1, .int x6), (0, .int x7)] [] M8 (li_SI (fun i => False) M0) := by
      intro x6 x7 M8 hf
      refine li_iload_n 1 dJ6_numberOfTrailingZeros_0f7a4_34 rfl ?_
      refine li_sipush 256 dJ6_numberOfTrailingZeros_0f7a4_35 (by decide) ?_
      have J49 : ∀ (x10 : Int32) (x11 : Int32) (M12 : li_M), li_fr (fun i => False) M0 M12 → li_T l Z YJ6_numberOfTrailingZeros_0f7a4 d 49 [(1, .int x10), (0, .int x11)] [] M12 (li_SI (fun i => False) M0) := by
        intro x10 x11 M12 hf
        refine li_iload_n 1 dJ6_numberOfTrailingZeros_0f7a4_49 rfl ?_
        refine li_bipush 16 dJ6_numberOfTrailingZeros_0f7a4_50 (by decide) ?_
        have J62 : ∀ (x14 : Int32) (x15 : Int32) (M16 : li_M), li_fr (fun i => False) M0 M16 → li_T l Z YJ6_numberOfTrailingZeros_0f7a4 d 62 [(1, .int x14), (0, .int x15)] [] M16 (li_SI (fun i => False) M0) := by
          intro x14 x15 M16 hf
          refine li_iload_n 1 dJ6_numberOfTrailingZeros_0f7a4_62 rfl ?_
          refine li_iconst 4 dJ6_numberOfTrailingZeros_0f7a4_63 (by decide) ?_
          refine li_icmp_le 74 dJ6_numberOfTrailingZeros_0f7a4_64 (by decide) (fun c17 => ?_) (fun c17 => ?_)
          · refine li_iload_n 0 dJ6_numberOfTrailingZeros_0f7a4_74 rfl ?_
            refine li_iload_n 1 dJ6_numberOfTrailingZeros_0f7a4_75 rfl ?_
            refine li_iconst 1 dJ6_numberOfTrailingZeros_0f7a4_76 (by decide) ?_
            refine li_iushr dJ6_numberOfTrailingZeros_0f7a4_77 ?_
            refine li_top (fun x18 ex18 => ?_)
            refine li_iadd dJ6_numberOfTrailingZeros_0f7a4_78 ?_
            refine li_top (fun x19 ex19 => ?_)
            exact li_iret dJ6_numberOfTrailingZeros_0f7a4_79 rfl rfl ⟨⟨_, rfl⟩, hf⟩
          · obtain ⟨x20, ex20⟩ : ∃ y : Int32, y = x14 + 2 := ⟨_, rfl⟩
            refine li_iinc 0 [(1, .int x20), (0, .int x15)] x20 dJ6_numberOfTrailingZeros_0f7a4_67 rfl (by rw [ex20]; rfl) (by decide) rfl ?_
            refine li_iload_n 1 dJ6_numberOfTrailingZeros_0f7a4_70 rfl ?_
            refine li_iconst 2 dJ6_numberOfTrailingZeros_0f7a4_71 (by decide) ?_
            refine li_iushr dJ6_numberOfTrailingZeros_0f7a4_72 ?_
            refine li_top (fun x21 ex21 => ?_)
            refine li_istore_n [(0, .int x21), (1, .int x20)] dJ6_numberOfTrailingZeros_0f7a4_73 (by decide) rfl ?_
            refine li_iload_n 1 dJ6_numberOfTrailingZeros_0f7a4_74 rfl ?_
            refine li_iload_n 0 dJ6_numberOfTrailingZeros_0f7a4_75 rfl ?_
            refine li_iconst 1 dJ6_numberOfTrailingZeros_0f7a4_76 (by decide) ?_
            refine li_iushr dJ6_numberOfTrailingZeros_0f7a4_77 ?_
            refine li_top (fun x22 ex22 => ?_)
            refine li_iadd dJ6_numberOfTrailingZeros_0f7a4_78 ?_
            refine li_top (fun x23 ex23 => ?_)
            exact li_iret dJ6_numberOfTrailingZeros_0f7a4_79 rfl rfl ⟨⟨_, rfl⟩, hf⟩
        refine li_icmp_le 62 dJ6_numberOfTrailingZeros_0f7a4_52 (by decide) (fun c13 => ?_) (fun c13 => ?_)
        · refine li_pick [0, 1] [(1, .int x10), (0, .int x11)] rfl ?_
          exact J62 x10 x11 M12 hf
        · obtain ⟨x24, ex24⟩ : ∃ y : Int32, y = x10 + 4 := ⟨_, rfl⟩
          refine li_iinc 0 [(1, .int x24), (0, .int x11)] x24 dJ6_numberOfTrailingZeros_0f7a4_55 rfl (by rw [ex24]; rfl) (by decide) rfl ?_
          refine li_iload_n 1 dJ6_numberOfTrailingZeros_0f7a4_58 rfl ?_
          refine li_iconst 4 dJ6_numberOfTrailingZeros_0f7a4_59 (by decide) ?_
          refine li_iushr dJ6_numberOfTrailingZeros_0f7a4_60 ?_
          refine li_top (fun x25 ex25 => ?_)
          refine li_istore_n [(0, .int x25), (1, .int x24)] dJ6_numberOfTrailingZeros_0f7a4_61 (by decide) rfl ?_
          refine li_pick [1, 0] [(1, .int x24), (0, .int x25)] rfl ?_
          exact J62 x24 x25 M12 hf
      refine li_icmp_le 49 dJ6_numberOfTrailingZeros_0f7a4_38 (by decide) (fun c9 => ?_) (fun c9 => ?_)
      · refine li_pick [0, 1] [(1, .int x6), (0, .int x7)] rfl ?_
        exact J49 x6 x7 M8 hf
      · obtain ⟨x26, ex26⟩ : ∃ y : Int32, y = x6 + 8 := ⟨_, rfl⟩
        refine li_iinc 0 [(1, .int x26), (0, .int x7)] x26 dJ6_numberOfTrailingZeros_0f7a4_41 rfl (by rw [ex26]; rfl) (by decide) rfl ?_
        refine li_iload_n 1 dJ6_numberOfTrailingZeros_0f7a4_44 rfl ?_
        refine li_bipush 8 dJ6_numberOfTrailingZeros_0f7a4_45 (by decide) ?_
        refine li_iushr dJ6_numberOfTrailingZeros_0f7a4_47 ?_
        refine li_top (fun x27 ex27 => ?_)
        refine li_istore_n [(0, .int x27), (1, .int x26)] dJ6_numberOfTrailingZeros_0f7a4_48 (by decide) rfl ?_
        refine li_pick [1, 0] [(1, .int x26), (0, .int x27)] rfl ?_
        exact J49 x26 x27 M8 hf
    refine li_icmp_le 34 dJ6_numberOfTrailingZeros_0f7a4_23 (by decide) (fun c5 => ?_) (fun c5 => ?_)
    · refine li_pick [0, 1] [(1, .int 1), (0, .int x3)] rfl ?_
      exact J34 1 x3 M0 hf
    · obtain ⟨x28, ex28⟩ : ∃ y : Int32, y = 1 + 16 := ⟨_, rfl⟩
      refine li_iinc 0 [(1, .int x28), (0, .int x3)] x28 dJ6_numberOfTrailingZeros_0f7a4_26 rfl (by rw [ex28]; rfl) (by decide) rfl ?_
      refine li_iload_n 1 dJ6_numberOfTrailingZeros_0f7a4_29 rfl ?_
      refine li_bipush 16 dJ6_numberOfTrailingZeros_0f7a4_30 (by decide) ?_
      refine li_iushr dJ6_numberOfTrailingZeros_0f7a4_32 ?_
      refine li_top (fun x29 ex29 => ?_)
      refine li_istore_n [(0, .int x29), (1, .int x28)] dJ6_numberOfTrailingZeros_0f7a4_33 (by decide) rfl ?_
      refine li_pick [1, 0] [(1, .int x28), (0, .int x29)] rfl ?_
      exact J34 x28 x29 M0 hf
  · refine li_iload_n 0 dJ6_numberOfTrailingZeros_0f7a4_12 rfl ?_
    refine li_bipush 32 dJ6_numberOfTrailingZeros_0f7a4_13 (by decide) ?_
    refine li_iand dJ6_numberOfTrailingZeros_0f7a4_15 ?_
    refine li_top (fun x30 ex30 => ?_)
    exact li_iret dJ6_numberOfTrailingZeros_0f7a4_16 rfl rfl ⟨⟨_, rfl⟩, hf⟩
set_option maxRecDepth 100000 in
set_option maxHeartbeats 4000000 in
theorem k_X11_clamp {l : Launch} {Z : li_Z} (d : Nat) (hd : 1 ≤ d) (p1 : Int32) (p2 : Int32) (M0 : li_M) : li_Met l Z YX11_clamp d [.int p1, .int p2] M0 (li_SI (fun i => False) M0) := by
  refine li_enter (by decide +kernel) (Nat.le_of_ble_eq_true rfl) ?_
  show li_T l Z YX11_clamp d 0 [(0, .int p1), (1, .int p2)] [] M0 _
  have hf : li_fr (fun i => False) M0 M0 := li_fr_refl
  refine li_iconst 0 dX11_clamp_0 (by decide) ?_
  refine li_iload_n 0 dX11_clamp_1 rfl ?_
  refine li_iload_n 1 dX11_clamp_2 rfl ?_
  refine li_mmin dX11_clamp_3 (by omega) w_774 w_726 w_113 w_727 (Nat.le_of_ble_eq_true rfl) ?_
  refine li_top (fun x1 ex1 => ?_)
  refine li_mmax dX11_clamp_6 (by omega) w_775 w_642 w_113 w_643 (Nat.le_of_ble_eq_true rfl) ?_
  refine li_top (fun x2 ex2 => ?_)
  exact li_iret dX11_clamp_9 rfl rfl ⟨⟨_, rfl⟩, hf⟩
set_option maxRecDepth 100000 in
set_option maxHeartbeats 4000000 in
theorem k_X11_holds {l : Launch} {Z : li_Z} (d : Nat) (hd : 1 ≤ d) (p1 : Int32) (p2 : Int32) (M0 : li_M) : li_Met l Z YX11_holds d [.int p1, .int p2] M0 (li_SZ (fun i => False) M0) := by
  refine li_enter (by decide +kernel) (Nat.le_of_ble_eq_true rfl) ?_
  show li_T l Z YX11_holds d 0 [(0, .int p1), (1, .int p2)] [] M0 _
  have hf : li_fr (fun i => False) M0 M0 := li_fr_refl
  refine li_iload_n 1 dX11_holds_0 rfl ?_
  refine li_if_lt 22 dX11_holds_1 (by decide) (fun c1 => ?_) (fun c1 => ?_)
  · refine li_iconst 0 dX11_holds_22 (by decide) ?_
    exact li_iret dX11_holds_23 rfl (li_nz (Or.inl rfl)) ⟨⟨_, rfl, Or.inl rfl⟩, hf⟩
  · refine li_iload_n 1 dX11_holds_4 rfl ?_
    refine li_bipush 32 dX11_holds_5 (by decide) ?_
    refine li_icmp_ge 22 dX11_holds_7 (by decide) (fun c2 => ?_) (fun c2 => ?_)
    · refine li_iconst 0 dX11_holds_22 (by decide) ?_
      exact li_iret dX11_holds_23 rfl (li_nz (Or.inl rfl)) ⟨⟨_, rfl, Or.inl rfl⟩, hf⟩
    · refine li_iload_n 0 dX11_holds_10 rfl ?_
      refine li_iload_n 1 dX11_holds_11 rfl ?_
      refine li_iushr dX11_holds_12 ?_
      refine li_top (fun x3 ex3 => ?_)
      refine li_iconst 1 dX11_holds_13 (by decide) ?_
      refine li_iand dX11_holds_14 ?_
      refine li_top (fun x4 ex4 => ?_)
      refine li_if_eq 22 dX11_holds_15 (by decide) (fun c5 => ?_) (fun c5 => ?_)
      · refine li_iconst 0 dX11_holds_22 (by decide) ?_
        exact li_iret dX11_holds_23 rfl (li_nz (Or.inl rfl)) ⟨⟨_, rfl, Or.inl rfl⟩, hf⟩
      · refine li_iconst 1 dX11_holds_18 (by decide) ?_
        refine li_goto 23 dX11_holds_19 (by decide) ?_
        exact li_iret dX11_holds_23 rfl (li_nz (Or.inr rfl)) ⟨⟨_, rfl, Or.inr rfl⟩, hf⟩
set_option maxRecDepth 100000 in
set_option maxHeartbeats 4000000 in
theorem k_X11_areBitsOf {l : Launch} {Z : li_Z} (d : Nat) (hd : 1 ≤ d) (p1 : Int32) (p2 : Int32) (M0 : li_M) : li_Met l Z YX11_areBitsOf d [.int p1, .int p2] M0 (li_SZ (fun i => False) M0) := by
  refine li_enter (by decide +kernel) (Nat.le_of_ble_eq_true rfl) ?_
  show li_T l Z YX11_areBitsOf d 0 [(0, .int p1), (1, .int p2)] [] M0 _
  have hf : li_fr (fun i => False) M0 M0 := li_fr_refl
  refine li_iload_n 0 dX11_areBitsOf_0 rfl ?_
  refine li_iconst 1 dX11_areBitsOf_1 (by decide) ?_
  refine li_iload_n 1 dX11_areBitsOf_2 rfl ?_
  refine li_ishl dX11_areBitsOf_3 ?_
  refine li_top (fun x1 ex1 => ?_)
  refine li_iconst 1 dX11_areBitsOf_4 (by decide) ?_
  refine li_isub dX11_areBitsOf_5 ?_
  refine li_top (fun x2 ex2 => ?_)
  refine li_iconst (-1) dX11_areBitsOf_6 (by decide) ?_
  refine li_ixor dX11_areBitsOf_7 ?_
  refine li_top (fun x3 ex3 => ?_)
  refine li_iand dX11_areBitsOf_8 ?_
  refine li_top (fun x4 ex4 => ?_)
  refine li_if_ne 16 dX11_areBitsOf_9 (by decide) (fun c5 => ?_) (fun c5 => ?_)
  · refine li_iconst 0 dX11_areBitsOf_16 (by decide) ?_
    exact li_iret dX11_areBitsOf_17 rfl (li_nz (Or.inl rfl)) ⟨⟨_, rfl, Or.inl rfl⟩, hf⟩
  · refine li_iconst 1 dX11_areBitsOf_12 (by decide) ?_
    refine li_goto 17 dX11_areBitsOf_13 (by decide) ?_
    exact li_iret dX11_areBitsOf_17 rfl (li_nz (Or.inr rfl)) ⟨⟨_, rfl, Or.inr rfl⟩, hf⟩
set_option maxRecDepth 100000 in
set_option maxHeartbeats 4000000 in
theorem k_X11_entryOf {l : Launch} {Z : li_Z} (d : Nat) (hd : 2 ≤ d) (p1 : Int32) (p2 : Int32) (M0 : li_M) : li_Met l Z YX11_entryOf d [.int p1, .int p2] M0 (li_SI (fun i => False) M0) := by
  refine li_enter (by decide +kernel) (Nat.le_of_ble_eq_true rfl) ?_
  show li_T l Z YX11_entryOf d 0 [(0, .int p1), (1, .int p2)] [] M0 _
  have hf : li_fr (fun i => False) M0 M0 := li_fr_refl
  refine li_iload_n 1 dX11_entryOf_0 rfl ?_
  refine li_istore_n [(2, .int p2), (0, .int p1), (1, .int p2)] dX11_entryOf_1 (by decide) rfl ?_
  refine li_iload_n 1 dX11_entryOf_2 rfl ?_
  refine li_if_ne 12 dX11_entryOf_3 (by decide) (fun c1 => ?_) (fun c1 => ?_)
  · refine li_iload_n 1 dX11_entryOf_12 rfl ?_
    refine li_iconst 1 dX11_entryOf_13 (by decide) ?_
    refine li_icmp_ne 20 dX11_entryOf_14 (by decide) (fun c2 => ?_) (fun c2 => ?_)
    · refine li_iload_n 0 dX11_entryOf_20 rfl ?_
      refine li_sipush 9999 dX11_entryOf_21 (by decide) ?_
      refine li_callS (n := 2) (As := [.int p2, .int 9999]) dX11_entryOf_24 (k_X11_clamp (d - 1) (by omega) p2 9999 M0) (by omega) (Nat.le_of_ble_eq_true rfl) w_771 w_772 w_101 w_773 (by decide +kernel) rfl rfl (Nat.le_of_ble_eq_true rfl) (fun r M4 h5 => ?_)
      obtain ⟨⟨x3, rfl⟩, h5⟩ := h5
      have hf := li_fr_trans hf h5 (fun i h => False.elim h)
      exact li_iret dX11_entryOf_27 rfl rfl ⟨⟨_, rfl⟩, hf⟩
    · refine li_iload_n 2 dX11_entryOf_17 rfl ?_
      refine li_i2s dX11_entryOf_18 ?_
      refine li_top (fun x6 ex6 => ?_)
      refine li_istore_n [(2, .int x6), (0, .int p1), (1, .int p2)] dX11_entryOf_19 (by decide) rfl ?_
      refine li_iload_n 0 dX11_entryOf_20 rfl ?_
      refine li_sipush 9999 dX11_entryOf_21 (by decide) ?_
      refine li_callS (n := 2) (As := [.int x6, .int 9999]) dX11_entryOf_24 (k_X11_clamp (d - 1) (by omega) x6 9999 M0) (by omega) (Nat.le_of_ble_eq_true rfl) w_771 w_772 w_101 w_773 (by decide +kernel) rfl rfl (Nat.le_of_ble_eq_true rfl) (fun r M8 h9 => ?_)
      obtain ⟨⟨x7, rfl⟩, h9⟩ := h9
      have hf := li_fr_trans hf h9 (fun i h => False.elim h)
      exact li_iret dX11_entryOf_27 rfl rfl ⟨⟨_, rfl⟩, hf⟩
  · refine li_iload_n 2 dX11_entryOf_6 rfl ?_
    refine li_i2b dX11_entryOf_7 ?_
    refine li_top (fun x10 ex10 => ?_)
    refine li_istore_n [(2, .int x10), (0, .int p1), (1, .int p2)] dX11_entryOf_8 (by decide) rfl ?_
    refine li_goto 20 dX11_entryOf_9 (by decide) ?_
    refine li_iload_n 0 dX11_entryOf_20 rfl ?_
    refine li_sipush 9999 dX11_entryOf_21 (by decide) ?_
    refine li_callS (n := 2) (As := [.int x10, .int 9999]) dX11_entryOf_24 (k_X11_clamp (d - 1) (by omega) x10 9999 M0) (by omega) (Nat.le_of_ble_eq_true rfl) w_771 w_772 w_101 w_773 (by decide +kernel) rfl rfl (Nat.le_of_ble_eq_true rfl) (fun r M12 h13 => ?_)
    obtain ⟨⟨x11, rfl⟩, h13⟩ := h13
    have hf := li_fr_trans hf h13 (fun i h => False.elim h)
    exact li_iret dX11_entryOf_27 rfl rfl ⟨⟨_, rfl⟩, hf⟩
set_option maxRecDepth 100000 in
set_option maxHeartbeats 4000000 in
theorem k_X6_usual {l : Launch} {Z : li_Z} (d : Nat) (hd : 1 ≤ d) (p1 : Int32) (p2 : Int32) (M0 : li_M) : li_Met l Z YX6_usual d [.int p1, .int p2] M0 (li_SI (fun i => False) M0) := by
  refine li_enter (by decide +kernel) (Nat.le_of_ble_eq_true rfl) ?_
  show li_T l Z YX6_usual d 0 [(0, .int p1), (1, .int p2)] [] M0 _
  have hf : li_fr (fun i => False) M0 M0 := li_fr_refl
  refine li_iload_n 1 dX6_usual_0 rfl ?_
  refine li_table dX6_usual_1 42 (by decide) (fun c1 => ?_) (fun c1a c1b => ?_)
  · refine li_iload_n 0 dX6_usual_42 rfl ?_
    refine li_iconst 2 dX6_usual_43 (by decide) ?_
    refine li_imul dX6_usual_44 ?_
    refine li_top (fun x2 ex2 => ?_)
    exact li_iret dX6_usual_45 rfl rfl ⟨⟨_, rfl⟩, hf⟩
  · rcases (show (p2 : Int32).toInt = 0 ∨ (p2 : Int32).toInt = 1 ∨ (p2 : Int32).toInt = 2 by omega) with c1 | c1 | c1
    · refine ⟨27, 28, by rw [c1]; rfl, by decide, ?_⟩
      refine li_iload_n 0 dX6_usual_28 rfl ?_
      refine li_iconst 1 dX6_usual_29 (by decide) ?_
      refine li_iadd dX6_usual_30 ?_
      refine li_top (fun x3 ex3 => ?_)
      refine li_iconst 2 dX6_usual_31 (by decide) ?_
      refine li_idiv dX6_usual_32 (by decide) ?_
      refine li_top (fun x4 ex4 => ?_)
      exact li_iret dX6_usual_33 rfl rfl ⟨⟨_, rfl⟩, hf⟩
    · refine ⟨33, 34, by rw [c1]; rfl, by decide, ?_⟩
      refine li_iload_n 0 dX6_usual_34 rfl ?_
      refine li_iconst 2 dX6_usual_35 (by decide) ?_
      refine li_iadd dX6_usual_36 ?_
      refine li_top (fun x5 ex5 => ?_)
      refine li_iconst 3 dX6_usual_37 (by decide) ?_
      refine li_idiv dX6_usual_38 (by decide) ?_
      refine li_top (fun x6 ex6 => ?_)
      exact li_iret dX6_usual_39 rfl rfl ⟨⟨_, rfl⟩, hf⟩
    · refine ⟨39, 40, by rw [c1]; rfl, by decide, ?_⟩
      refine li_iload_n 0 dX6_usual_40 rfl ?_
      exact li_iret dX6_usual_41 rfl rfl ⟨⟨_, rfl⟩, hf⟩
set_option maxRecDepth 100000 in
set_option maxHeartbeats 4000000 in
theorem k_X6_reckon {l : Launch} {Z : li_Z} (d : Nat) (hd : 1 ≤ d) (p1 : Int32) (p2 : Int32) (p3 : Int32) (M0 : li_M) : li_Met l Z YX6_reckon d [.int p1, .int p2, .int p3] M0 (li_SI (fun i => False) M0) := by
  refine li_enter (by decide +kernel) (Nat.le_of_ble_eq_true rfl) ?_
  show li_T l Z YX6_reckon d 0 [(0, .int p1), (1, .int p2), (2, .int p3)] [] M0 _
  have hf : li_fr (fun i => False) M0 M0 := li_fr_refl
  refine li_iload_n 0 dX6_reckon_0 rfl ?_
  by_cases c1_0 : (p1 : Int32).toInt = 42
  · refine li_lookup (off := 100) 101 dX6_reckon_1 rfl (by rw [c1_0]; rfl) (by decide) ?_
    refine li_iload_n 1 dX6_reckon_101 rfl ?_
    refine li_iload_n 2 dX6_reckon_102 rfl ?_
    refine li_imul dX6_reckon_103 ?_
    refine li_top (fun x2 ex2 => ?_)
    exact li_iret dX6_reckon_104 rfl rfl ⟨⟨_, rfl⟩, hf⟩
  by_cases c1_1 : (p1 : Int32).toInt = 43
  · refine li_lookup (off := 92) 93 dX6_reckon_1 rfl (by rw [c1_1]; rfl) (by decide) ?_
    refine li_iload_n 1 dX6_reckon_93 rfl ?_
    refine li_iload_n 2 dX6_reckon_94 rfl ?_
    refine li_iadd dX6_reckon_95 ?_
    refine li_top (fun x3 ex3 => ?_)
    exact li_iret dX6_reckon_96 rfl rfl ⟨⟨_, rfl⟩, hf⟩
  by_cases c1_2 : (p1 : Int32).toInt = 45
  · refine li_lookup (off := 96) 97 dX6_reckon_1 rfl (by rw [c1_2]; rfl) (by decide) ?_
    refine li_iload_n 1 dX6_reckon_97 rfl ?_
    refine li_iload_n 2 dX6_reckon_98 rfl ?_
    refine li_isub dX6_reckon_99 ?_
    refine li_top (fun x4 ex4 => ?_)
    exact li_iret dX6_reckon_100 rfl rfl ⟨⟨_, rfl⟩, hf⟩
  by_cases c1_3 : (p1 : Int32).toInt = 60
  · refine li_lookup (off := 59) 60 dX6_reckon_1 rfl (by rw [c1_3]; rfl) (by decide) ?_
    refine li_iload_n 1 dX6_reckon_60 rfl ?_
    refine li_iload_n 2 dX6_reckon_61 rfl ?_
    refine li_icmp_ge 69 dX6_reckon_62 (by decide) (fun c5 => ?_) (fun c5 => ?_)
    · refine li_iconst 0 dX6_reckon_69 (by decide) ?_
      exact li_iret dX6_reckon_70 rfl rfl ⟨⟨_, rfl⟩, hf⟩
    · refine li_iconst 1 dX6_reckon_65 (by decide) ?_
      refine li_goto 70 dX6_reckon_66 (by decide) ?_
      exact li_iret dX6_reckon_70 rfl rfl ⟨⟨_, rfl⟩, hf⟩
  by_cases c1_4 : (p1 : Int32).toInt = 61
  · refine li_lookup (off := 81) 82 dX6_reckon_1 rfl (by rw [c1_4]; rfl) (by decide) ?_
    refine li_iload_n 1 dX6_reckon_82 rfl ?_
    refine li_iload_n 2 dX6_reckon_83 rfl ?_
    refine li_icmp_ne 91 dX6_reckon_84 (by decide) (fun c6 => ?_) (fun c6 => ?_)
    · refine li_iconst 0 dX6_reckon_91 (by decide) ?_
      exact li_iret dX6_reckon_92 rfl rfl ⟨⟨_, rfl⟩, hf⟩
    · refine li_iconst 1 dX6_reckon_87 (by decide) ?_
      refine li_goto 92 dX6_reckon_88 (by decide) ?_
      exact li_iret dX6_reckon_92 rfl rfl ⟨⟨_, rfl⟩, hf⟩
  by_cases c1_5 : (p1 : Int32).toInt = 62
  · refine li_lookup (off := 70) 71 dX6_reckon_1 rfl (by rw [c1_5]; rfl) (by decide) ?_
    refine li_iload_n 1 dX6_reckon_71 rfl ?_
    refine li_iload_n 2 dX6_reckon_72 rfl ?_
    refine li_icmp_le 80 dX6_reckon_73 (by decide) (fun c7 => ?_) (fun c7 => ?_)
    · refine li_iconst 0 dX6_reckon_80 (by decide) ?_
      exact li_iret dX6_reckon_81 rfl rfl ⟨⟨_, rfl⟩, hf⟩
    · refine li_iconst 1 dX6_reckon_76 (by decide) ?_
      refine li_goto 81 dX6_reckon_77 (by decide) ?_
      exact li_iret dX6_reckon_81 rfl rfl ⟨⟨_, rfl⟩, hf⟩
  refine li_lookup (off := 104) 105 dX6_reckon_1 rfl (by simp [Op.lookupswitch.offset, c1_0, Ne.symm c1_0, c1_1, Ne.symm c1_1, c1_2, Ne.symm c1_2, c1_3, Ne.symm c1_3, c1_4, Ne.symm c1_4, c1_5, Ne.symm c1_5]) (by decide) ?_
  refine li_iload_n 2 dX6_reckon_105 rfl ?_
  refine li_if_ne 113 dX6_reckon_106 (by decide) (fun c8 => ?_) (fun c8 => ?_)
  · refine li_iload_n 1 dX6_reckon_113 rfl ?_
    refine li_iload_n 2 dX6_reckon_114 rfl ?_
    refine li_idiv dX6_reckon_115 (by assumption) ?_
    refine li_top (fun x9 ex9 => ?_)
    exact li_iret dX6_reckon_116 rfl rfl ⟨⟨_, rfl⟩, hf⟩
  · refine li_iconst 0 dX6_reckon_109 (by decide) ?_
    refine li_goto 116 dX6_reckon_110 (by decide) ?_
    exact li_iret dX6_reckon_116 rfl rfl ⟨⟨_, rfl⟩, hf⟩
set_option maxRecDepth 100000 in
set_option maxHeartbeats 4000000 in
theorem k_X2_wordsFor {l : Launch} {Z : li_Z} (d : Nat) (hd : 1 ≤ d) (p1 : Int32) (M0 : li_M) : li_Met l Z YX2_wordsFor d [.int p1] M0 (li_SI (fun i => False) M0) := by
  refine li_enter (by decide +kernel) (Nat.le_of_ble_eq_true rfl) ?_
  show li_T l Z YX2_wordsFor d 0 [(0, .int p1)] [] M0 _
  have hf : li_fr (fun i => False) M0 M0 := li_fr_refl
  refine li_iload_n 0 dX2_wordsFor_0 rfl ?_
  refine li_if_lt 11 dX2_wordsFor_1 (by decide) (fun c1 => ?_) (fun c1 => ?_)
  · refine li_iconst 0 dX2_wordsFor_11 (by decide) ?_
    refine li_goto 21 dX2_wordsFor_12 (by decide) ?_
    exact li_iret dX2_wordsFor_21 rfl rfl ⟨⟨_, rfl⟩, hf⟩
  · refine li_iload_n 0 dX2_wordsFor_4 rfl ?_
    refine li_sipush 8000 dX2_wordsFor_5 (by decide) ?_
    refine li_icmp_lt 15 dX2_wordsFor_8 (by decide) (fun c2 => ?_) (fun c2 => ?_)
    · refine li_iload_n 0 dX2_wordsFor_15 rfl ?_
      refine li_bipush 64 dX2_wordsFor_16 (by decide) ?_
      refine li_idiv dX2_wordsFor_18 (by decide) ?_
      refine li_top (fun x3 ex3 => ?_)
      refine li_iconst 1 dX2_wordsFor_19 (by decide) ?_
      refine li_iadd dX2_wordsFor_20 ?_
      refine li_top (fun x4 ex4 => ?_)
      exact li_iret dX2_wordsFor_21 rfl rfl ⟨⟨_, rfl⟩, hf⟩
    · refine li_iconst 0 dX2_wordsFor_11 (by decide) ?_
      refine li_goto 21 dX2_wordsFor_12 (by decide) ?_
      exact li_iret dX2_wordsFor_21 rfl rfl ⟨⟨_, rfl⟩, hf⟩
