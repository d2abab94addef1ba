theorem w_95 : (Jvm.Cond.selects "ClockForTalkModel" ({ cls := "ClockForTalkModel", name := "markCosts", desc := "(II)V" } : Jvm.MethodName) ({ cls := "ClockForTalkModel", name := "markCosts", desc := "(II)V" } : Jvm.MethodName)) ∈ li_ws := li_mem 95 (by decide +kernel) (by decide +kernel)
theorem w_96 : (Jvm.Cond.selects "ClockForTalkModel" ({ cls := "ClockForTalkModel", name := "goCosts", desc := "(IIIIII)V" } : Jvm.MethodName) ({ cls := "ClockForTalkModel", name := "goCosts", desc := "(IIIIII)V" } : Jvm.MethodName)) ∈ li_ws := li_mem 96 (by decide +kernel) (by decide +kernel)
theorem w_97 : (Jvm.Cond.selects "ClockForTalkModel" ({ cls := "ClockForTalkModel", name := "mark", desc := "(I)V" } : Jvm.MethodName) ({ cls := "ClockForTalkModel", name := "mark", desc := "(I)V" } : Jvm.MethodName)) ∈ li_ws := li_mem 97 (by decide +kernel) (by decide +kernel)
theorem w_1448 : (Jvm.Cond.fieldLink "ClockForTalkModel" (79 : Nat) "ClockForTalkModel" "costs" "[I") ∈ li_ws := li_mem 1448 (by decide +kernel) (by decide +kernel)
theorem w_1449 : (Jvm.Cond.fieldLink "ClockForTalkModel" (88 : Nat) "ClockForTalkModel" "isMarked" "[Z") ∈ li_ws := li_mem 1449 (by decide +kernel) (by decide +kernel)
theorem w_1450 : (Jvm.Cond.fieldLink "ClockForTalkModel" (395 : Nat) "ClockForTalkModel" "markedMany" "I") ∈ li_ws := li_mem 1450 (by decide +kernel) (by decide +kernel)
theorem w_1931 : (Jvm.Cond.methodLink "ClockForTalkModel" (404 : Nat) ({ cls := "ClockForTalkModel", name := "markCosts", desc := "(II)V" } : Jvm.MethodName)) ∈ li_ws := li_mem 1931 (by decide +kernel) (by decide +kernel)
theorem w_1933 : (Jvm.Cond.instanceMethod ({ cls := "ClockForTalkModel", name := "markCosts", desc := "(II)V" } : Jvm.MethodName)) ∈ li_ws := li_mem 1933 (by decide +kernel) (by decide +kernel)
theorem w_1934 : (Jvm.Cond.code ({ cls := "ClockForTalkModel", name := "markCosts", desc := "(II)V" } : Jvm.MethodName) prog_13_method_97_code (5 : Nat) (Option.none : Option Jvm.ClassFile.FieldType)) ∈ li_ws := li_mem 1934 (by decide +kernel) (by decide +kernel)
theorem w_1935 : (Jvm.Cond.methodLink "ClockForTalkModel" (401 : Nat) ({ cls := "ClockForTalkModel", name := "goCosts", desc := "(IIIIII)V" } : Jvm.MethodName)) ∈ li_ws := li_mem 1935 (by decide +kernel) (by decide +kernel)
theorem w_1937 : (Jvm.Cond.instanceMethod ({ cls := "ClockForTalkModel", name := "goCosts", desc := "(IIIIII)V" } : Jvm.MethodName)) ∈ li_ws := li_mem 1937 (by decide +kernel) (by decide +kernel)
theorem w_1938 : (Jvm.Cond.code ({ cls := "ClockForTalkModel", name := "goCosts", desc := "(IIIIII)V" } : Jvm.MethodName) prog_13_method_96_code (11 : Nat) (Option.none : Option Jvm.ClassFile.FieldType)) ∈ li_ws := li_mem 1938 (by decide +kernel) (by decide +kernel)
theorem w_1939 : (Jvm.Cond.methodLink "ClockForTalkModel" (398 : Nat) ({ cls := "ClockForTalkModel", name := "mark", desc := "(I)V" } : Jvm.MethodName)) ∈ li_ws := li_mem 1939 (by decide +kernel) (by decide +kernel)
theorem w_1941 : (Jvm.Cond.instanceMethod ({ cls := "ClockForTalkModel", name := "mark", desc := "(I)V" } : Jvm.MethodName)) ∈ li_ws := li_mem 1941 (by decide +kernel) (by decide +kernel)
theorem w_1942 : (Jvm.Cond.code ({ cls := "ClockForTalkModel", name := "mark", desc := "(I)V" } : Jvm.MethodName) prog_13_method_95_code (2 : Nat) (Option.none : Option Jvm.ClassFile.FieldType)) ∈ li_ws := li_mem 1942 (by decide +kernel) (by decide +kernel)
theorem dX12_mark_0 : decode cX12_mark 0 = .ok (.aload_n 0, 1) := by decide +kernel
theorem dX12_mark_1 : decode cX12_mark 1 = .ok (.dup, 1) := by decide +kernel
theorem dX12_mark_2 : decode cX12_mark 2 = .ok (.getfield 395, 3) := by decide +kernel
theorem dX12_mark_5 : decode cX12_mark 5 = .ok (.aload_n 0, 1) := by decide +kernel
theorem dX12_mark_6 : decode cX12_mark 6 = .ok (.getfield 88, 3) := by decide +kernel
theorem dX12_mark_9 : decode cX12_mark 9 = .ok (.iload_n 1, 1) := by decide +kernel
theorem dX12_mark_10 : decode cX12_mark 10 = .ok (.baload, 1) := by decide +kernel
theorem dX12_mark_11 : decode cX12_mark 11 = .ok (.ifCond .eq 7, 3) := by decide +kernel
theorem dX12_mark_14 : decode cX12_mark 14 = .ok (.iconst 0, 1) := by decide +kernel
theorem dX12_mark_15 : decode cX12_mark 15 = .ok (.goto 4, 3) := by decide +kernel
theorem dX12_mark_18 : decode cX12_mark 18 = .ok (.iconst 1, 1) := by decide +kernel
theorem dX12_mark_19 : decode cX12_mark 19 = .ok (.iadd, 1) := by decide +kernel
theorem dX12_mark_20 : decode cX12_mark 20 = .ok (.putfield 395, 3) := by decide +kernel
theorem dX12_mark_23 : decode cX12_mark 23 = .ok (.aload_n 0, 1) := by decide +kernel
theorem dX12_mark_24 : decode cX12_mark 24 = .ok (.getfield 88, 3) := by decide +kernel
theorem dX12_mark_27 : decode cX12_mark 27 = .ok (.iload_n 1, 1) := by decide +kernel
theorem dX12_mark_28 : decode cX12_mark 28 = .ok (.iconst 1, 1) := by decide +kernel
theorem dX12_mark_29 : decode cX12_mark 29 = .ok (.bastore, 1) := by decide +kernel
theorem dX12_mark_30 : decode cX12_mark 30 = .ok (.return_, 1) := by decide +kernel
abbrev YX12_mark : li_Y := (yX12_mark, cX12_mark, 2, none)
theorem dX12_goCosts_0 : decode cX12_goCosts 0 = .ok (.iload 4, 2) := by decide +kernel
theorem dX12_goCosts_2 : decode cX12_goCosts 2 = .ok (.iload 5, 2) := by decide +kernel
theorem dX12_goCosts_4 : decode cX12_goCosts 4 = .ok (.if_icmp .le 4, 3) := by decide +kernel
theorem dX12_goCosts_7 : decode cX12_goCosts 7 = .ok (.return_, 1) := by decide +kernel
theorem dX12_goCosts_8 : decode cX12_goCosts 8 = .ok (.iload_n 2, 1) := by decide +kernel
theorem dX12_goCosts_9 : decode cX12_goCosts 9 = .ok (.aload_n 0, 1) := by decide +kernel
theorem dX12_goCosts_10 : decode cX12_goCosts 10 = .ok (.getfield 121, 3) := by decide +kernel
theorem dX12_goCosts_13 : decode cX12_goCosts 13 = .ok (.if_icmp .ne 30, 3) := by decide +kernel
theorem dX12_goCosts_16 : decode cX12_goCosts 16 = .ok (.iload 6, 2) := by decide +kernel
theorem dX12_goCosts_18 : decode cX12_goCosts 18 = .ok (.ifCond .ge 12, 3) := by decide +kernel
theorem dX12_goCosts_21 : decode cX12_goCosts 21 = .ok (.aload_n 0, 1) := by decide +kernel
theorem dX12_goCosts_22 : decode cX12_goCosts 22 = .ok (.iload 4, 2) := by decide +kernel
theorem dX12_goCosts_24 : decode cX12_goCosts 24 = .ok (.invokevirtual 398, 3) := by decide +kernel
theorem dX12_goCosts_27 : decode cX12_goCosts 27 = .ok (.goto 15, 3) := by decide +kernel
theorem dX12_goCosts_30 : decode cX12_goCosts 30 = .ok (.iload 4, 2) := by decide +kernel
theorem dX12_goCosts_32 : decode cX12_goCosts 32 = .ok (.iload 6, 2) := by decide +kernel
theorem dX12_goCosts_34 : decode cX12_goCosts 34 = .ok (.if_icmp .ne 8, 3) := by decide +kernel
theorem dX12_goCosts_37 : decode cX12_goCosts 37 = .ok (.aload_n 0, 1) := by decide +kernel
theorem dX12_goCosts_38 : decode cX12_goCosts 38 = .ok (.iload_n 3, 1) := by decide +kernel
theorem dX12_goCosts_39 : decode cX12_goCosts 39 = .ok (.invokevirtual 398, 3) := by decide +kernel
theorem dX12_goCosts_42 : decode cX12_goCosts 42 = .ok (.return_, 1) := by decide +kernel
theorem dX12_goCosts_43 : decode cX12_goCosts 43 = .ok (.aload_n 0, 1) := by decide +kernel
theorem dX12_goCosts_44 : decode cX12_goCosts 44 = .ok (.iload_n 1, 1) := by decide +kernel
theorem dX12_goCosts_45 : decode cX12_goCosts 45 = .ok (.iload_n 2, 1) := by decide +kernel
theorem dX12_goCosts_46 : decode cX12_goCosts 46 = .ok (.iconst 1, 1) := by decide +kernel
theorem dX12_goCosts_47 : decode cX12_goCosts 47 = .ok (.iadd, 1) := by decide +kernel
theorem dX12_goCosts_48 : decode cX12_goCosts 48 = .ok (.iload_n 3, 1) := by decide +kernel
theorem dX12_goCosts_49 : decode cX12_goCosts 49 = .ok (.iload 4, 2) := by decide +kernel
theorem dX12_goCosts_51 : decode cX12_goCosts 51 = .ok (.iload 5, 2) := by decide +kernel
theorem dX12_goCosts_53 : decode cX12_goCosts 53 = .ok (.iload 6, 2) := by decide +kernel
theorem dX12_goCosts_55 : decode cX12_goCosts 55 = .ok (.invokevirtual 401, 3) := by decide +kernel
theorem dX12_goCosts_58 : decode cX12_goCosts 58 = .ok (.iload_n 1, 1) := by decide +kernel
theorem dX12_goCosts_59 : decode cX12_goCosts 59 = .ok (.iload_n 2, 1) := by decide +kernel
theorem dX12_goCosts_60 : decode cX12_goCosts 60 = .ok (.invokestatic 251, 3) := by decide +kernel
theorem dX12_goCosts_63 : decode cX12_goCosts 63 = .ok (.ifCond .ne 4, 3) := by decide +kernel
theorem dX12_goCosts_66 : decode cX12_goCosts 66 = .ok (.return_, 1) := by decide +kernel
theorem dX12_goCosts_67 : decode cX12_goCosts 67 = .ok (.iconst 0, 1) := by decide +kernel
theorem dX12_goCosts_68 : decode cX12_goCosts 68 = .ok (.istore 7, 2) := by decide +kernel
theorem dX12_goCosts_70 : decode cX12_goCosts 70 = .ok (.iload 7, 2) := by decide +kernel
theorem dX12_goCosts_72 : decode cX12_goCosts 72 = .ok (.iconst 4, 1) := by decide +kernel
theorem dX12_goCosts_73 : decode cX12_goCosts 73 = .ok (.if_icmp .ge 105, 3) := by decide +kernel
theorem dX12_goCosts_76 : decode cX12_goCosts 76 = .ok (.aload_n 0, 1) := by decide +kernel
theorem dX12_goCosts_77 : decode cX12_goCosts 77 = .ok (.getfield 79, 3) := by decide +kernel
theorem dX12_goCosts_80 : decode cX12_goCosts 80 = .ok (.iconst 4, 1) := by decide +kernel
theorem dX12_goCosts_81 : decode cX12_goCosts 81 = .ok (.iload_n 2, 1) := by decide +kernel
theorem dX12_goCosts_82 : decode cX12_goCosts 82 = .ok (.imul, 1) := by decide +kernel
theorem dX12_goCosts_83 : decode cX12_goCosts 83 = .ok (.iload 7, 2) := by decide +kernel
theorem dX12_goCosts_85 : decode cX12_goCosts 85 = .ok (.iadd, 1) := by decide +kernel
theorem dX12_goCosts_86 : decode cX12_goCosts 86 = .ok (.iaload, 1) := by decide +kernel
theorem dX12_goCosts_87 : decode cX12_goCosts 87 = .ok (.istore 8, 2) := by decide +kernel
theorem dX12_goCosts_89 : decode cX12_goCosts 89 = .ok (.iload 8, 2) := by decide +kernel
theorem dX12_goCosts_91 : decode cX12_goCosts 91 = .ok (.ifCond .lt 7, 3) := by decide +kernel
theorem dX12_goCosts_94 : decode cX12_goCosts 94 = .ok (.iconst 1, 1) := by decide +kernel
theorem dX12_goCosts_95 : decode cX12_goCosts 95 = .ok (.goto 4, 3) := by decide +kernel
theorem dX12_goCosts_98 : decode cX12_goCosts 98 = .ok (.iconst 0, 1) := by decide +kernel
theorem dX12_goCosts_99 : decode cX12_goCosts 99 = .ok (.istore 9, 2) := by decide +kernel
theorem dX12_goCosts_101 : decode cX12_goCosts 101 = .ok (.iconst 0, 1) := by decide +kernel
theorem dX12_goCosts_102 : decode cX12_goCosts 102 = .ok (.istore 10, 2) := by decide +kernel
theorem dX12_goCosts_104 : decode cX12_goCosts 104 = .ok (.iload 10, 2) := by decide +kernel
theorem dX12_goCosts_106 : decode cX12_goCosts 106 = .ok (.iload 7, 2) := by decide +kernel
theorem dX12_goCosts_108 : decode cX12_goCosts 108 = .ok (.if_icmp .ge 37, 3) := by decide +kernel
theorem dX12_goCosts_111 : decode cX12_goCosts 111 = .ok (.iload 9, 2) := by decide +kernel
theorem dX12_goCosts_113 : decode cX12_goCosts 113 = .ok (.ifCond .eq 23, 3) := by decide +kernel
theorem dX12_goCosts_116 : decode cX12_goCosts 116 = .ok (.aload_n 0, 1) := by decide +kernel
theorem dX12_goCosts_117 : decode cX12_goCosts 117 = .ok (.getfield 79, 3) := by decide +kernel
theorem dX12_goCosts_120 : decode cX12_goCosts 120 = .ok (.iconst 4, 1) := by decide +kernel
theorem dX12_goCosts_121 : decode cX12_goCosts 121 = .ok (.iload_n 2, 1) := by decide +kernel
theorem dX12_goCosts_122 : decode cX12_goCosts 122 = .ok (.imul, 1) := by decide +kernel
theorem dX12_goCosts_123 : decode cX12_goCosts 123 = .ok (.iload 10, 2) := by decide +kernel
theorem dX12_goCosts_125 : decode cX12_goCosts 125 = .ok (.iadd, 1) := by decide +kernel
theorem dX12_goCosts_126 : decode cX12_goCosts 126 = .ok (.iaload, 1) := by decide +kernel
theorem dX12_goCosts_127 : decode cX12_goCosts 127 = .ok (.iload 8, 2) := by decide +kernel
theorem dX12_goCosts_129 : decode cX12_goCosts 129 = .ok (.if_icmp .eq 7, 3) := by decide +kernel
theorem dX12_goCosts_132 : decode cX12_goCosts 132 = .ok (.iconst 1, 1) := by decide +kernel
theorem dX12_goCosts_133 : decode cX12_goCosts 133 = .ok (.goto 4, 3) := by decide +kernel
theorem dX12_goCosts_136 : decode cX12_goCosts 136 = .ok (.iconst 0, 1) := by decide +kernel
theorem dX12_goCosts_137 : decode cX12_goCosts 137 = .ok (.istore 9, 2) := by decide +kernel
theorem dX12_goCosts_139 : decode cX12_goCosts 139 = .ok (.iinc 10 1, 3) := by decide +kernel
theorem dX12_goCosts_142 : decode cX12_goCosts 142 = .ok (.goto (-38), 3) := by decide +kernel
theorem dX12_goCosts_145 : decode cX12_goCosts 145 = .ok (.iload 9, 2) := by decide +kernel
theorem dX12_goCosts_147 : decode cX12_goCosts 147 = .ok (.ifCond .eq 25, 3) := by decide +kernel
theorem dX12_goCosts_150 : decode cX12_goCosts 150 = .ok (.aload_n 0, 1) := by decide +kernel
theorem dX12_goCosts_151 : decode cX12_goCosts 151 = .ok (.iload_n 1, 1) := by decide +kernel
theorem dX12_goCosts_152 : decode cX12_goCosts 152 = .ok (.iload_n 2, 1) := by decide +kernel
theorem dX12_goCosts_153 : decode cX12_goCosts 153 = .ok (.iconst 1, 1) := by decide +kernel
theorem dX12_goCosts_154 : decode cX12_goCosts 154 = .ok (.iadd, 1) := by decide +kernel
theorem dX12_goCosts_155 : decode cX12_goCosts 155 = .ok (.iload_n 3, 1) := by decide +kernel
theorem dX12_goCosts_156 : decode cX12_goCosts 156 = .ok (.iconst 1, 1) := by decide +kernel
theorem dX12_goCosts_157 : decode cX12_goCosts 157 = .ok (.iload_n 2, 1) := by decide +kernel
theorem dX12_goCosts_158 : decode cX12_goCosts 158 = .ok (.ishl, 1) := by decide +kernel
theorem dX12_goCosts_159 : decode cX12_goCosts 159 = .ok (.ior, 1) := by decide +kernel
theorem dX12_goCosts_160 : decode cX12_goCosts 160 = .ok (.iload 4, 2) := by decide +kernel
theorem dX12_goCosts_162 : decode cX12_goCosts 162 = .ok (.iload 8, 2) := by decide +kernel
theorem dX12_goCosts_164 : decode cX12_goCosts 164 = .ok (.iadd, 1) := by decide +kernel
theorem dX12_goCosts_165 : decode cX12_goCosts 165 = .ok (.iload 5, 2) := by decide +kernel
theorem dX12_goCosts_167 : decode cX12_goCosts 167 = .ok (.iload 6, 2) := by decide +kernel
theorem dX12_goCosts_169 : decode cX12_goCosts 169 = .ok (.invokevirtual 401, 3) := by decide +kernel
theorem dX12_goCosts_172 : decode cX12_goCosts 172 = .ok (.iinc 7 1, 3) := by decide +kernel
theorem dX12_goCosts_175 : decode cX12_goCosts 175 = .ok (.goto (-105), 3) := by decide +kernel
theorem dX12_goCosts_178 : decode cX12_goCosts 178 = .ok (.return_, 1) := by decide +kernel
abbrev YX12_goCosts : li_Y := (yX12_goCosts, cX12_goCosts, 11, none)
theorem dX12_markCosts_0 : decode cX12_markCosts 0 = .ok (.iconst 0, 1) := by decide +kernel
theorem dX12_markCosts_1 : decode cX12_markCosts 1 = .ok (.istore_n 3, 1) := by decide +kernel
theorem dX12_markCosts_2 : decode cX12_markCosts 2 = .ok (.iload_n 3, 1) := by decide +kernel
theorem dX12_markCosts_3 : decode cX12_markCosts 3 = .ok (.aload_n 0, 1) := by decide +kernel
theorem dX12_markCosts_4 : decode cX12_markCosts 4 = .ok (.getfield 88, 3) := by decide +kernel
theorem dX12_markCosts_7 : decode cX12_markCosts 7 = .ok (.arraylength, 1) := by decide +kernel
theorem dX12_markCosts_8 : decode cX12_markCosts 8 = .ok (.if_icmp .ge 16, 3) := by decide +kernel
theorem dX12_markCosts_11 : decode cX12_markCosts 11 = .ok (.aload_n 0, 1) := by decide +kernel
theorem dX12_markCosts_12 : decode cX12_markCosts 12 = .ok (.getfield 88, 3) := by decide +kernel
theorem dX12_markCosts_15 : decode cX12_markCosts 15 = .ok (.iload_n 3, 1) := by decide +kernel
theorem dX12_markCosts_16 : decode cX12_markCosts 16 = .ok (.iconst 0, 1) := by decide +kernel
theorem dX12_markCosts_17 : decode cX12_markCosts 17 = .ok (.bastore, 1) := by decide +kernel
theorem dX12_markCosts_18 : decode cX12_markCosts 18 = .ok (.iinc 3 1, 3) := by decide +kernel
theorem dX12_markCosts_21 : decode cX12_markCosts 21 = .ok (.goto (-19), 3) := by decide +kernel
theorem dX12_markCosts_24 : decode cX12_markCosts 24 = .ok (.aload_n 0, 1) := by decide +kernel
theorem dX12_markCosts_25 : decode cX12_markCosts 25 = .ok (.iconst 0, 1) := by decide +kernel
theorem dX12_markCosts_26 : decode cX12_markCosts 26 = .ok (.putfield 395, 3) := by decide +kernel
theorem dX12_markCosts_29 : decode cX12_markCosts 29 = .ok (.iconst 0, 1) := by decide +kernel
theorem dX12_markCosts_30 : decode cX12_markCosts 30 = .ok (.istore_n 3, 1) := by decide +kernel
theorem dX12_markCosts_31 : decode cX12_markCosts 31 = .ok (.iload_n 3, 1) := by decide +kernel
theorem dX12_markCosts_32 : decode cX12_markCosts 32 = .ok (.aload_n 0, 1) := by decide +kernel
theorem dX12_markCosts_33 : decode cX12_markCosts 33 = .ok (.getfield 121, 3) := by decide +kernel
theorem dX12_markCosts_36 : decode cX12_markCosts 36 = .ok (.if_icmp .ge 60, 3) := by decide +kernel
theorem dX12_markCosts_39 : decode cX12_markCosts 39 = .ok (.iconst 0, 1) := by decide +kernel
theorem dX12_markCosts_40 : decode cX12_markCosts 40 = .ok (.istore 4, 2) := by decide +kernel
theorem dX12_markCosts_42 : decode cX12_markCosts 42 = .ok (.iload 4, 2) := by decide +kernel
theorem dX12_markCosts_44 : decode cX12_markCosts 44 = .ok (.iconst 4, 1) := by decide +kernel
theorem dX12_markCosts_45 : decode cX12_markCosts 45 = .ok (.if_icmp .ge 45, 3) := by decide +kernel
theorem dX12_markCosts_48 : decode cX12_markCosts 48 = .ok (.aload_n 0, 1) := by decide +kernel
theorem dX12_markCosts_49 : decode cX12_markCosts 49 = .ok (.getfield 79, 3) := by decide +kernel
theorem dX12_markCosts_52 : decode cX12_markCosts 52 = .ok (.iconst 4, 1) := by decide +kernel
theorem dX12_markCosts_53 : decode cX12_markCosts 53 = .ok (.iload_n 3, 1) := by decide +kernel
theorem dX12_markCosts_54 : decode cX12_markCosts 54 = .ok (.imul, 1) := by decide +kernel
theorem dX12_markCosts_55 : decode cX12_markCosts 55 = .ok (.iload 4, 2) := by decide +kernel
theorem dX12_markCosts_57 : decode cX12_markCosts 57 = .ok (.iadd, 1) := by decide +kernel
theorem dX12_markCosts_58 : decode cX12_markCosts 58 = .ok (.aload_n 0, 1) := by decide +kernel
theorem dX12_markCosts_59 : decode cX12_markCosts 59 = .ok (.iload_n 3, 1) := by decide +kernel
theorem dX12_markCosts_60 : decode cX12_markCosts 60 = .ok (.iload 4, 2) := by decide +kernel
theorem dX12_markCosts_62 : decode cX12_markCosts 62 = .ok (.invokevirtual 272, 3) := by decide +kernel
theorem dX12_markCosts_65 : decode cX12_markCosts 65 = .ok (.ifCond .eq 17, 3) := by decide +kernel
theorem dX12_markCosts_68 : decode cX12_markCosts 68 = .ok (.aload_n 0, 1) := by decide +kernel
theorem dX12_markCosts_69 : decode cX12_markCosts 69 = .ok (.aload_n 0, 1) := by decide +kernel
theorem dX12_markCosts_70 : decode cX12_markCosts 70 = .ok (.getfield 9, 3) := by decide +kernel
theorem dX12_markCosts_73 : decode cX12_markCosts 73 = .ok (.iload_n 3, 1) := by decide +kernel
theorem dX12_markCosts_74 : decode cX12_markCosts 74 = .ok (.iload 4, 2) := by decide +kernel
theorem dX12_markCosts_76 : decode cX12_markCosts 76 = .ok (.invokevirtual 247, 3) := by decide +kernel
theorem dX12_markCosts_79 : decode cX12_markCosts 79 = .ok (.goto 4, 3) := by decide +kernel
theorem dX12_markCosts_82 : decode cX12_markCosts 82 = .ok (.iconst (-1), 1) := by decide +kernel
theorem dX12_markCosts_83 : decode cX12_markCosts 83 = .ok (.iastore, 1) := by decide +kernel
theorem dX12_markCosts_84 : decode cX12_markCosts 84 = .ok (.iinc 4 1, 3) := by decide +kernel
theorem dX12_markCosts_87 : decode cX12_markCosts 87 = .ok (.goto (-45), 3) := by decide +kernel
theorem dX12_markCosts_90 : decode cX12_markCosts 90 = .ok (.iinc 3 1, 3) := by decide +kernel
theorem dX12_markCosts_93 : decode cX12_markCosts 93 = .ok (.goto (-62), 3) := by decide +kernel
theorem dX12_markCosts_96 : decode cX12_markCosts 96 = .ok (.aload_n 0, 1) := by decide +kernel
theorem dX12_markCosts_97 : decode cX12_markCosts 97 = .ok (.aload_n 0, 1) := by decide +kernel
theorem dX12_markCosts_98 : decode cX12_markCosts 98 = .ok (.iload_n 1, 1) := by decide +kernel
theorem dX12_markCosts_99 : decode cX12_markCosts 99 = .ok (.invokevirtual 333, 3) := by decide +kernel
theorem dX12_markCosts_102 : decode cX12_markCosts 102 = .ok (.aload_n 0, 1) := by decide +kernel
theorem dX12_markCosts_103 : decode cX12_markCosts 103 = .ok (.invokevirtual 336, 3) := by decide +kernel
theorem dX12_markCosts_106 : decode cX12_markCosts 106 = .ok (.iand, 1) := by decide +kernel
theorem dX12_markCosts_107 : decode cX12_markCosts 107 = .ok (.iconst 0, 1) := by decide +kernel
theorem dX12_markCosts_108 : decode cX12_markCosts 108 = .ok (.iconst 0, 1) := by decide +kernel
theorem dX12_markCosts_109 : decode cX12_markCosts 109 = .ok (.iconst 0, 1) := by decide +kernel
theorem dX12_markCosts_110 : decode cX12_markCosts 110 = .ok (.aload_n 0, 1) := by decide +kernel
theorem dX12_markCosts_111 : decode cX12_markCosts 111 = .ok (.getfield 9, 3) := by decide +kernel
theorem dX12_markCosts_114 : decode cX12_markCosts 114 = .ok (.iload_n 1, 1) := by decide +kernel
theorem dX12_markCosts_115 : decode cX12_markCosts 115 = .ok (.iaload, 1) := by decide +kernel
theorem dX12_markCosts_116 : decode cX12_markCosts 116 = .ok (.iload_n 2, 1) := by decide +kernel
theorem dX12_markCosts_117 : decode cX12_markCosts 117 = .ok (.invokevirtual 401, 3) := by decide +kernel
theorem dX12_markCosts_120 : decode cX12_markCosts 120 = .ok (.return_, 1) := by decide +kernel
abbrev YX12_markCosts : li_Y := (yX12_markCosts, cX12_markCosts, 5, none)
theorem dX12_spoke_0 : decode cX12_spoke 0 = .ok (.aload_n 0, 1) := by decide +kernel
theorem dX12_spoke_1 : decode cX12_spoke 1 = .ok (.iconst 0, 1) := by decide +kernel
theorem dX12_spoke_2 : decode cX12_spoke 2 = .ok (.putfield 103, 3) := by decide +kernel
theorem dX12_spoke_5 : decode cX12_spoke 5 = .ok (.aload_n 0, 1) := by decide +kernel
theorem dX12_spoke_6 : decode cX12_spoke 6 = .ok (.iload_n 1, 1) := by decide +kernel
theorem dX12_spoke_7 : decode cX12_spoke 7 = .ok (.invokevirtual 117, 3) := by decide +kernel
theorem dX12_spoke_10 : decode cX12_spoke 10 = .ok (.ifCond .ne 5, 3) := by decide +kernel
theorem dX12_spoke_13 : decode cX12_spoke 13 = .ok (.iconst (-1), 1) := by decide +kernel
theorem dX12_spoke_14 : decode cX12_spoke 14 = .ok (.ireturn, 1) := by decide +kernel
theorem dX12_spoke_15 : decode cX12_spoke 15 = .ok (.aload_n 0, 1) := by decide +kernel
theorem dX12_spoke_16 : decode cX12_spoke 16 = .ok (.getfield 392, 3) := by decide +kernel
theorem dX12_spoke_19 : decode cX12_spoke 19 = .ok (.iload_n 1, 1) := by decide +kernel
theorem dX12_spoke_20 : decode cX12_spoke 20 = .ok (.invokestatic 251, 3) := by decide +kernel
theorem dX12_spoke_23 : decode cX12_spoke 23 = .ok (.ifCond .ne 6, 3) := by decide +kernel
theorem dX12_spoke_26 : decode cX12_spoke 26 = .ok (.bipush (-2), 2) := by decide +kernel
theorem dX12_spoke_28 : decode cX12_spoke 28 = .ok (.ireturn, 1) := by decide +kernel
theorem dX12_spoke_29 : decode cX12_spoke 29 = .ok (.aload_n 0, 1) := by decide +kernel
theorem dX12_spoke_30 : decode cX12_spoke 30 = .ok (.getfield 9, 3) := by decide +kernel
theorem dX12_spoke_33 : decode cX12_spoke 33 = .ok (.iload_n 1, 1) := by decide +kernel
theorem dX12_spoke_34 : decode cX12_spoke 34 = .ok (.iaload, 1) := by decide +kernel
theorem dX12_spoke_35 : decode cX12_spoke 35 = .ok (.aload_n 0, 1) := by decide +kernel
theorem dX12_spoke_36 : decode cX12_spoke 36 = .ok (.getfield 76, 3) := by decide +kernel
theorem dX12_spoke_39 : decode cX12_spoke 39 = .ok (.iload_n 1, 1) := by decide +kernel
theorem dX12_spoke_40 : decode cX12_spoke 40 = .ok (.iaload, 1) := by decide +kernel
theorem dX12_spoke_41 : decode cX12_spoke 41 = .ok (.isub, 1) := by decide +kernel
theorem dX12_spoke_42 : decode cX12_spoke 42 = .ok (.istore_n 2, 1) := by decide +kernel
theorem dX12_spoke_43 : decode cX12_spoke 43 = .ok (.aload_n 0, 1) := by decide +kernel
theorem dX12_spoke_44 : decode cX12_spoke 44 = .ok (.iconst 0, 1) := by decide +kernel
theorem dX12_spoke_45 : decode cX12_spoke 45 = .ok (.putfield 395, 3) := by decide +kernel
theorem dX12_spoke_48 : decode cX12_spoke 48 = .ok (.iload_n 2, 1) := by decide +kernel
theorem dX12_spoke_49 : decode cX12_spoke 49 = .ok (.ifCond .lt 9, 3) := by decide +kernel
theorem dX12_spoke_52 : decode cX12_spoke 52 = .ok (.aload_n 0, 1) := by decide +kernel
theorem dX12_spoke_53 : decode cX12_spoke 53 = .ok (.iload_n 1, 1) := by decide +kernel
theorem dX12_spoke_54 : decode cX12_spoke 54 = .ok (.iload_n 2, 1) := by decide +kernel
theorem dX12_spoke_55 : decode cX12_spoke 55 = .ok (.invokevirtual 404, 3) := by decide +kernel
theorem dX12_spoke_58 : decode cX12_spoke 58 = .ok (.iconst (-1), 1) := by decide +kernel
theorem dX12_spoke_59 : decode cX12_spoke 59 = .ok (.istore_n 3, 1) := by decide +kernel
theorem dX12_spoke_60 : decode cX12_spoke 60 = .ok (.iconst 1, 1) := by decide +kernel
theorem dX12_spoke_61 : decode cX12_spoke 61 = .ok (.aload_n 0, 1) := by decide +kernel
theorem dX12_spoke_62 : decode cX12_spoke 62 = .ok (.getfield 121, 3) := by decide +kernel
theorem dX12_spoke_65 : decode cX12_spoke 65 = .ok (.ishl, 1) := by decide +kernel
theorem dX12_spoke_66 : decode cX12_spoke 66 = .ok (.iconst 1, 1) := by decide +kernel
theorem dX12_spoke_67 : decode cX12_spoke 67 = .ok (.isub, 1) := by decide +kernel
theorem dX12_spoke_68 : decode cX12_spoke 68 = .ok (.istore 4, 2) := by decide +kernel
theorem dX12_spoke_70 : decode cX12_spoke 70 = .ok (.iconst 0, 1) := by decide +kernel
theorem dX12_spoke_71 : decode cX12_spoke 71 = .ok (.istore 5, 2) := by decide +kernel
theorem dX12_spoke_73 : decode cX12_spoke 73 = .ok (.iload 5, 2) := by decide +kernel
theorem dX12_spoke_75 : decode cX12_spoke 75 = .ok (.sipush 256, 3) := by decide +kernel
theorem dX12_spoke_78 : decode cX12_spoke 78 = .ok (.if_icmp .ge 48, 3) := by decide +kernel
theorem dX12_spoke_81 : decode cX12_spoke 81 = .ok (.aload_n 0, 1) := by decide +kernel
theorem dX12_spoke_82 : decode cX12_spoke 82 = .ok (.getfield 395, 3) := by decide +kernel
theorem dX12_spoke_85 : decode cX12_spoke 85 = .ok (.ifCond .le 41, 3) := by decide +kernel
theorem dX12_spoke_88 : decode cX12_spoke 88 = .ok (.aload_n 0, 1) := by decide +kernel
theorem dX12_spoke_89 : decode cX12_spoke 89 = .ok (.getfield 88, 3) := by decide +kernel
theorem dX12_spoke_92 : decode cX12_spoke 92 = .ok (.iload 5, 2) := by decide +kernel
theorem dX12_spoke_94 : decode cX12_spoke 94 = .ok (.baload, 1) := by decide +kernel
theorem dX12_spoke_95 : decode cX12_spoke 95 = .ok (.ifCond .ne 6, 3) := by decide +kernel
theorem dX12_spoke_98 : decode cX12_spoke 98 = .ok (.goto 22, 3) := by decide +kernel
theorem dX12_spoke_101 : decode cX12_spoke 101 = .ok (.iload_n 3, 1) := by decide +kernel
theorem dX12_spoke_102 : decode cX12_spoke 102 = .ok (.iconst (-1), 1) := by decide +kernel
theorem dX12_spoke_103 : decode cX12_spoke 103 = .ok (.if_icmp .ne 8, 3) := by decide +kernel
theorem dX12_spoke_106 : decode cX12_spoke 106 = .ok (.iload 5, 2) := by decide +kernel
theorem dX12_spoke_108 : decode cX12_spoke 108 = .ok (.goto 4, 3) := by decide +kernel
theorem dX12_spoke_111 : decode cX12_spoke 111 = .ok (.iload_n 3, 1) := by decide +kernel
theorem dX12_spoke_112 : decode cX12_spoke 112 = .ok (.istore_n 3, 1) := by decide +kernel
theorem dX12_spoke_113 : decode cX12_spoke 113 = .ok (.iload 4, 2) := by decide +kernel
theorem dX12_spoke_115 : decode cX12_spoke 115 = .ok (.iload 5, 2) := by decide +kernel
theorem dX12_spoke_117 : decode cX12_spoke 117 = .ok (.iand, 1) := by decide +kernel
theorem dX12_spoke_118 : decode cX12_spoke 118 = .ok (.istore 4, 2) := by decide +kernel
theorem dX12_spoke_120 : decode cX12_spoke 120 = .ok (.iinc 5 1, 3) := by decide +kernel
theorem dX12_spoke_123 : decode cX12_spoke 123 = .ok (.goto (-50), 3) := by decide +kernel
theorem dX12_spoke_126 : decode cX12_spoke 126 = .ok (.aload_n 0, 1) := by decide +kernel
theorem dX12_spoke_127 : decode cX12_spoke 127 = .ok (.iconst 0, 1) := by decide +kernel
theorem dX12_spoke_128 : decode cX12_spoke 128 = .ok (.putfield 107, 3) := by decide +kernel
theorem dX12_spoke_131 : decode cX12_spoke 131 = .ok (.aload_n 0, 1) := by decide +kernel
theorem dX12_spoke_132 : decode cX12_spoke 132 = .ok (.iload_n 3, 1) := by decide +kernel
theorem dX12_spoke_133 : decode cX12_spoke 133 = .ok (.invokevirtual 308, 3) := by decide +kernel
theorem dX12_spoke_136 : decode cX12_spoke 136 = .ok (.aload_n 0, 1) := by decide +kernel
theorem dX12_spoke_137 : decode cX12_spoke 137 = .ok (.aload_n 0, 1) := by decide +kernel
theorem dX12_spoke_138 : decode cX12_spoke 138 = .ok (.getfield 395, 3) := by decide +kernel
theorem dX12_spoke_141 : decode cX12_spoke 141 = .ok (.ifCond .ne 7, 3) := by decide +kernel
theorem dX12_spoke_144 : decode cX12_spoke 144 = .ok (.iconst 0, 1) := by decide +kernel
theorem dX12_spoke_145 : decode cX12_spoke 145 = .ok (.goto 5, 3) := by decide +kernel
theorem dX12_spoke_148 : decode cX12_spoke 148 = .ok (.iload 4, 2) := by decide +kernel
theorem dX12_spoke_150 : decode cX12_spoke 150 = .ok (.invokevirtual 308, 3) := by decide +kernel
theorem dX12_spoke_153 : decode cX12_spoke 153 = .ok (.aload_n 0, 1) := by decide +kernel
theorem dX12_spoke_154 : decode cX12_spoke 154 = .ok (.getfield 395, 3) := by decide +kernel
theorem dX12_spoke_157 : decode cX12_spoke 157 = .ok (.ireturn, 1) := by decide +kernel
abbrev YX12_spoke : li_Y := (yX12_spoke, cX12_spoke, 6, (some .int))
theorem dX12_look_0 : decode cX12_look 0 = .ok (.aload_n 0, 1) := by decide +kernel
theorem dX12_look_1 : decode cX12_look 1 = .ok (.iconst 0, 1) := by decide +kernel
theorem dX12_look_2 : decode cX12_look 2 = .ok (.putfield 103, 3) := by decide +kernel
theorem dX12_look_5 : decode cX12_look 5 = .ok (.bipush (-2), 2) := by decide +kernel
theorem dX12_look_7 : decode cX12_look 7 = .ok (.istore_n 1, 1) := by decide +kernel
theorem dX12_look_8 : decode cX12_look 8 = .ok (.iconst 0, 1) := by decide +kernel
theorem dX12_look_9 : decode cX12_look 9 = .ok (.istore_n 2, 1) := by decide +kernel
theorem dX12_look_10 : decode cX12_look 10 = .ok (.iconst 0, 1) := by decide +kernel
theorem dX12_look_11 : decode cX12_look 11 = .ok (.istore_n 3, 1) := by decide +kernel
theorem dX12_look_12 : decode cX12_look 12 = .ok (.iload_n 3, 1) := by decide +kernel
theorem dX12_look_13 : decode cX12_look 13 = .ok (.aload_n 0, 1) := by decide +kernel
theorem dX12_look_14 : decode cX12_look 14 = .ok (.getfield 110, 3) := by decide +kernel
theorem dX12_look_17 : decode cX12_look 17 = .ok (.if_icmp .ge 47, 3) := by decide +kernel
theorem dX12_look_20 : decode cX12_look 20 = .ok (.aload_n 0, 1) := by decide +kernel
theorem dX12_look_21 : decode cX12_look 21 = .ok (.getfield 392, 3) := by decide +kernel
theorem dX12_look_24 : decode cX12_look 24 = .ok (.iload_n 3, 1) := by decide +kernel
theorem dX12_look_25 : decode cX12_look 25 = .ok (.invokestatic 251, 3) := by decide +kernel
theorem dX12_look_28 : decode cX12_look 28 = .ok (.ifCond .eq 6, 3) := by decide +kernel
theorem dX12_look_31 : decode cX12_look 31 = .ok (.goto 27, 3) := by decide +kernel
theorem dX12_look_34 : decode cX12_look 34 = .ok (.aload_n 0, 1) := by decide +kernel
theorem dX12_look_35 : decode cX12_look 35 = .ok (.iload_n 3, 1) := by decide +kernel
theorem dX12_look_36 : decode cX12_look 36 = .ok (.iconst (-1), 1) := by decide +kernel
theorem dX12_look_37 : decode cX12_look 37 = .ok (.invokevirtual 404, 3) := by decide +kernel
theorem dX12_look_40 : decode cX12_look 40 = .ok (.aload_n 0, 1) := by decide +kernel
theorem dX12_look_41 : decode cX12_look 41 = .ok (.getfield 395, 3) := by decide +kernel
theorem dX12_look_44 : decode cX12_look 44 = .ok (.iload_n 2, 1) := by decide +kernel
theorem dX12_look_45 : decode cX12_look 45 = .ok (.if_icmp .gt 6, 3) := by decide +kernel
theorem dX12_look_48 : decode cX12_look 48 = .ok (.goto 10, 3) := by decide +kernel
theorem dX12_look_51 : decode cX12_look 51 = .ok (.iload_n 3, 1) := by decide +kernel
theorem dX12_look_52 : decode cX12_look 52 = .ok (.istore_n 1, 1) := by decide +kernel
theorem dX12_look_53 : decode cX12_look 53 = .ok (.aload_n 0, 1) := by decide +kernel
theorem dX12_look_54 : decode cX12_look 54 = .ok (.getfield 395, 3) := by decide +kernel
theorem dX12_look_57 : decode cX12_look 57 = .ok (.istore_n 2, 1) := by decide +kernel
theorem dX12_look_58 : decode cX12_look 58 = .ok (.iinc 3 1, 3) := by decide +kernel
theorem dX12_look_61 : decode cX12_look 61 = .ok (.goto (-49), 3) := by decide +kernel
theorem dX12_look_64 : decode cX12_look 64 = .ok (.iload_n 1, 1) := by decide +kernel
theorem dX12_look_65 : decode cX12_look 65 = .ok (.ifCond .ge 6, 3) := by decide +kernel
theorem dX12_look_68 : decode cX12_look 68 = .ok (.bipush (-2), 2) := by decide +kernel
theorem dX12_look_70 : decode cX12_look 70 = .ok (.ireturn, 1) := by decide +kernel
theorem dX12_look_71 : decode cX12_look 71 = .ok (.aload_n 0, 1) := by decide +kernel
theorem dX12_look_72 : decode cX12_look 72 = .ok (.iconst 0, 1) := by decide +kernel
theorem dX12_look_73 : decode cX12_look 73 = .ok (.putfield 107, 3) := by decide +kernel
theorem dX12_look_76 : decode cX12_look 76 = .ok (.aload_n 0, 1) := by decide +kernel
theorem dX12_look_77 : decode cX12_look 77 = .ok (.iload_n 2, 1) := by decide +kernel
theorem dX12_look_78 : decode cX12_look 78 = .ok (.invokevirtual 308, 3) := by decide +kernel
theorem dX12_look_81 : decode cX12_look 81 = .ok (.iload_n 1, 1) := by decide +kernel
theorem dX12_look_82 : decode cX12_look 82 = .ok (.ireturn, 1) := by decide +kernel
abbrev YX12_look : li_Y := (yX12_look, cX12_look, 4, (some .int))
set_option maxRecDepth 100000 in
set_option maxHeartbeats 4000000 in
theorem k_X12_mark {l : Launch} {Z : li_Z} (d : Nat) (hd : 1 ≤ d) (p1 : Int32) (M0 : li_M) (hJ : li_J M0) (h1 : 0 ≤ p1.toInt ∧ p1.toInt ≤ 9999) : li_Met l Z YX12_mark d [.ref (Z.2.2 175), .int p1] M0 (fun r M' => r = none ∧ li_fs (fun i k => i = 199 ∨ (i = 175 ∧ k = 46)) M0 M' ∧ li_J M') := by
  refine li_enter (by decide +kernel) (Nat.le_of_ble_eq_true rfl) ?_
  show li_T l Z YX12_mark d 0 [(0, .ref (Z.2.2 175)), (1, .int p1)] [] M0 _
  have hf : li_fs (fun i k => i = 199 ∨ (i = 175 ∧ k = 46)) M0 M0 := li_fs_refl
  have gp1 := tl_rg p1
  refine li_aload_n 0 dX12_mark_0 rfl ?_
  refine li_dup dX12_mark_1 rfl ?_
  refine li_geti (k := 46) (N := 52) (T := TX12) (C0 := RX12) dX12_mark_2 (by decide) sh_175 rfl rfl (by decide) li_in12 w_1450 ?_
  refine li_top (fun x1 ex1 => ?_)
  have gx1 := tl_rg x1
  have mx1 : x1.toInt = (M0.1 175 46).toInt := tl_slot ex1
  refine li_aload_n 0 dX12_mark_5 rfl ?_
  refine li_getr (k := 45) (N := 52) (T := TX12) (C0 := RX12) dX12_mark_6 (by decide) sh_175 rfl rfl (by decide) (by decide) li_in12 w_1449 ?_
  refine li_iload_n 1 dX12_mark_9 rfl ?_
  refine li_zald dX12_mark_10 (by decide) sh_199 (tl_in (by omega)) ?_
  refine li_top (fun x2 ex2 => ?_)
  have gx2 := tl_rg x2
  have J19 : ∀ (x4 : Int32) (M5 : li_M), li_fs (fun i k => i = 199 ∨ (i = 175 ∧ k = 46)) M0 M5 → li_J M5 → li_T l Z YX12_mark d 19 [(0, .ref (Z.2.2 175)), (1, .int p1)] [.int x4, .int x1, .ref (Z.2.2 175)] M5 (fun r M' => r = none ∧ li_fs (fun i k => i = 199 ∨ (i = 175 ∧ k = 46)) M0 M' ∧ li_J M') := by
    intro x4 M5 hf hJ
    have gx4 := tl_rg x4
    refine li_iadd dX12_mark_19 ?_
    refine li_top (fun x6 ex6 => ?_)
    try (have tx6 : x6.toInt = (x1 : Int32).toInt + (x4 : Int32).toInt := tl_add ex6 (by omega))
    refine li_puti (k := 46) (N := 52) (T := TX12) (C0 := RX12) dX12_mark_20 (by decide) sh_175 rfl rfl (by decide) li_in12 tyX12_ok nmX12 rfl rfl rfl rfl w_1450 ?_
    refine li_nm (fun M7 eM7 => ?_)
    have hf := li_fs_ui hf (Or.inr (⟨rfl, rfl⟩)) eM7
    have hJ := hJ.put (k := 46) (by decide) (rg_free rfl) eM7
    refine li_aload_n 0 dX12_mark_23 rfl ?_
    refine li_getr (k := 45) (N := 52) (T := TX12) (C0 := RX12) dX12_mark_24 (by decide) sh_175 rfl rfl (by decide) (by decide) li_in12 w_1449 ?_
    refine li_iload_n 1 dX12_mark_27 rfl ?_
    refine li_iconst 1 dX12_mark_28 (by decide) ?_
    have z1 : (1 : Int32).toInt = 1 := rfl
    refine li_zast dX12_mark_29 (by decide) sh_199 (tl_in (by omega)) (Or.inr rfl) ?_
    refine li_nm (fun M8 eM8 => ?_)
    have hf := li_fs_ui hf (Or.inl rfl) eM8
    have hJ := hJ.st (by decide) (li_el_free (by unfold li_led; omega) (by decide) (by decide) (by unfold li_rq; omega)) eM8
    exact li_vret dX12_mark_30 rfl ⟨rfl, hf, hJ⟩
  refine li_if_eq 18 dX12_mark_11 (by decide) (fun c3 => ?_) (fun c3 => ?_)
  · have tc3 : x2.toInt = 0 := tl_eq c3
    refine li_iconst 1 dX12_mark_18 (by decide) ?_
    refine li_pick [0, 1] [(0, .ref (Z.2.2 175)), (1, .int p1)] rfl ?_
    have z1 : (1 : Int32).toInt = 1 := rfl
    exact J19 1 M0 hf hJ
  · have tc3 : ¬ x2.toInt = 0 := tl_ne c3
    refine li_iconst 0 dX12_mark_14 (by decide) ?_
    refine li_goto 19 dX12_mark_15 (by decide) ?_
    refine li_pick [0, 1] [(0, .ref (Z.2.2 175)), (1, .int p1)] rfl ?_
    have z0 : (0 : Int32).toInt = 0 := rfl
    exact J19 0 M0 hf hJ
set_option maxRecDepth 100000 in
set_option maxHeartbeats 4000000 in
theorem k_X12_goCosts {l : Launch} {Z : li_Z} (d : Nat) (hd : 2 ≤ d) (p1 p2 p3 p4 p5 p6 : Int32) (dE : Nat) (IH : ∀ (q1 q2 q3 q4 q5 q6 : Int32) (M : li_M), li_J M → q2.toInt = p2.toInt + 1 → q2.toInt ≤ (M.1 175 4).toInt → (0 ≤ q3.toInt ∧ q3.toInt ≤ 255) → (0 ≤ q4.toInt ∧ q4.toInt ≤ 999 * q2.toInt) → li_Met l Z YX12_goCosts dE [.ref (Z.2.2 175), .int q1, .int q2, .int q3, .int q4, .int q5, .int q6] M (fun r M' => r = none ∧ li_fs (fun i k => i = 199 ∨ (i = 175 ∧ k = 46)) M M' ∧ li_J M')) (hE : dE + 1 ≤ d) (M0 : li_M) (hJ : li_J M0) (h2 : 0 ≤ p2.toInt ∧ p2.toInt ≤ (M0.1 175 4).toInt) (h3 : 0 ≤ p3.toInt ∧ p3.toInt ≤ 255) (h4 : 0 ≤ p4.toInt ∧ p4.toInt ≤ 999 * p2.toInt) : li_Met l Z YX12_goCosts d [.ref (Z.2.2 175), .int p1, .int p2, .int p3, .int p4, .int p5, .int p6] M0 (fun r M' => r = none ∧ li_fs (fun i k => i = 199 ∨ (i = 175 ∧ k = 46)) M0 M' ∧ li_J M') := by
  refine li_enter (by decide +kernel) (Nat.le_of_ble_eq_true rfl) ?_
  show li_T l Z YX12_goCosts d 0 [(0, .ref (Z.2.2 175)), (1, .int p1), (2, .int p2), (3, .int p3), (4, .int p4), (5, .int p5), (6, .int p6)] [] M0 _
  have hf : li_fs (fun i k => i = 199 ∨ (i = 175 ∧ k = 46)) M0 M0 := li_fs_refl
  have gp1 := tl_rg p1
  have gp2 := tl_rg p2
  have gp3 := tl_rg p3
  have gp4 := tl_rg p4
  have gp5 := tl_rg p5
  have gp6 := tl_rg p6
  have rM0_4 := J_sl4 (M := M0) hJ
  refine li_iload 4 dX12_goCosts_0 rfl ?_
  refine li_iload 5 dX12_goCosts_2 rfl ?_
  refine li_icmp_le 8 dX12_goCosts_4 (by decide) (fun c1 => ?_) (fun c1 => ?_)
  · have tc1 : p4.toInt ≤ p5.toInt := tl_le c1
    refine li_iload_n 2 dX12_goCosts_8 rfl ?_
    refine li_aload_n 0 dX12_goCosts_9 rfl ?_
    refine li_geti (k := 4) (N := 52) (T := TX12) (C0 := RX12) dX12_goCosts_10 (by decide) sh_175 rfl rfl (by decide) li_in12 w_1408 ?_
    refine li_top (fun x2 ex2 => ?_)
    have gx2 : 0 ≤ x2.toInt ∧ x2.toInt ≤ 8 := by rw [ex2]; exact J_sl4 hJ
    have mx2 : x2.toInt = (M0.1 175 4).toInt := tl_slot ex2
    have sx2 : x2.toInt = (M0.1 175 4).toInt := tl_slot (ex2.trans (hf.1 175 4 (show ¬ (175 = 199 ∨ (175 = 175 ∧ 4 = 46)) by decide)))
    refine li_icmp_ne 43 dX12_goCosts_13 (by decide) (fun c3 => ?_) (fun c3 => ?_)
    · have tc3 : ¬ p2.toInt = x2.toInt := tl_ne c3
      refine li_aload_n 0 dX12_goCosts_43 rfl ?_
      refine li_iload_n 1 dX12_goCosts_44 rfl ?_
      refine li_iload_n 2 dX12_goCosts_45 rfl ?_
      refine li_iconst 1 dX12_goCosts_46 (by decide) ?_
      refine li_iadd dX12_goCosts_47 ?_
      refine li_top (fun x4 ex4 => ?_)
      have z1 : (1 : Int32).toInt = 1 := rfl
      try (have tx4 : x4.toInt = (p2 : Int32).toInt + (1 : Int32).toInt := tl_add ex4 (by omega))
      refine li_iload_n 3 dX12_goCosts_48 rfl ?_
      refine li_iload 4 dX12_goCosts_49 rfl ?_
      refine li_iload 5 dX12_goCosts_51 rfl ?_
      refine li_iload 6 dX12_goCosts_53 rfl ?_
      refine li_callV (n := 6) (As := [.int p1, .int x4, .int p3, .int p4, .int p5, .int p6]) dX12_goCosts_55 (IH p1 x4 p3 p4 p5 p6 M0 hJ (by omega) (by omega) (by omega) (by omega)) (by omega) (Nat.le_of_ble_eq_true rfl) w_1935 w_1937 w_96 w_112 w_1938 (by decide +kernel) rfl (by decide) sh_175 rfl rfl (Nat.le_of_ble_eq_true rfl) (fun r M6 h7 => ?_)
      obtain ⟨rfl, h7, jM6⟩ := h7
      have hf := li_fs_trans hf h7 (fun i k => fun h => Or.elim h (fun h => Or.inl h) (fun h => Or.inr h))
      have hJ := jM6
      have rM6_4 := J_sl4 (M := M6) hJ
      have mM6_4 : (M6.1 175 4).toInt = (M0.1 175 4).toInt := tl_slot (h7.1 175 4 (show ¬ (175 = 199 ∨ (175 = 175 ∧ 4 = 46)) by decide))
      refine li_iload_n 1 dX12_goCosts_58 rfl ?_
      refine li_iload_n 2 dX12_goCosts_59 rfl ?_
      refine li_callS (n := 2) (As := [.int p1, .int p2]) dX12_goCosts_60 (k_X12_has (d - 1) (by omega) p1 p2 M6 hJ ) (by omega) (Nat.le_of_ble_eq_true rfl) w_1734 w_1735 w_112 w_1736 (by decide +kernel) rfl rfl (Nat.le_of_ble_eq_true rfl) (fun r M9 h10 => ?_)
      obtain ⟨qx8, h10, jM9⟩ := h10
      have hf := li_fs_trans hf h10 (fun i k h => False.elim h)
      have hJ := jM9
      have rM9_4 := J_sl4 (M := M9) hJ
      have mM9_4 : (M9.1 175 4).toInt = (M6.1 175 4).toInt := tl_slot (h10.1 175 4 id)
      rcases qx8 with ⟨rfl, qx8⟩ | ⟨rfl, qx8⟩
      · skip
        refine li_if_ne 67 dX12_goCosts_63 (by decide) (fun c => ?_) (fun c => absurd c (by decide))
        refine li_iconst 0 dX12_goCosts_67 (by decide) ?_
        refine li_istore [(7, .int 0), (0, .ref (Z.2.2 175)), (1, .int p1), (2, .int p2), (3, .int p3), (4, .int p4), (5, .int p5), (6, .int p6)] dX12_goCosts_68 (by decide) rfl ?_
        have L70 : ∀ (n : Nat) (x12 : Int32) (M13 : li_M), (4 - (x12 : Int32).toInt).toNat < n → li_fs (fun i k => i = 199 ∨ (i = 175 ∧ k = 46)) M0 M13 → li_J M13 → 0 ≤ (x12 : Int32).toInt ∧ (x12 : Int32).toInt ≤ 4 → li_T l Z YX12_goCosts d 70 [(7, .int x12), (0, .ref (Z.2.2 175)), (1, .int p1), (2, .int p2), (3, .int p3), (4, .int p4), (5, .int p5), (6, .int p6)] [] M13 (fun r M' => r = none ∧ li_fs (fun i k => i = 199 ∨ (i = 175 ∧ k = 46)) M0 M' ∧ li_J M') := by
          intro n
          induction n with
          | zero => intro x12 M13 hn; exact absurd hn (Nat.not_lt_zero _)
          | succ n ih70 =>
            intro x12 M13 hn hf hJ hi
            have gx12 := tl_rg x12
            have rM13_4 := J_sl4 (M := M13) hJ
            have mM13_4 : (M13.1 175 4).toInt = (M0.1 175 4).toInt := tl_slot (hf.1 175 4 (show ¬ (175 = 199 ∨ (175 = 175 ∧ 4 = 46)) by decide))
            refine li_iload 0 dX12_goCosts_70 rfl ?_
            refine li_iconst 4 dX12_goCosts_72 (by decide) ?_
            refine li_icmp_ge 178 dX12_goCosts_73 (by decide) (fun c14 => ?_) (fun c14 => ?_)
            · have tc14 : 4 ≤ x12.toInt := tl_le c14
              exact li_vret dX12_goCosts_178 rfl ⟨rfl, hf, hJ⟩
            · have tc14 : x12.toInt < 4 := tl_nle c14
              refine li_aload_n 1 dX12_goCosts_76 rfl ?_
              refine li_getr (k := 44) (N := 52) (T := TX12) (C0 := RX12) dX12_goCosts_77 (by decide) sh_175 rfl rfl (by decide) (by decide) li_in12 w_1448 ?_
              refine li_iconst 4 dX12_goCosts_80 (by decide) ?_
              refine li_iload_n 3 dX12_goCosts_81 rfl ?_
              refine li_imul dX12_goCosts_82 ?_
              refine li_top (fun x15 ex15 => ?_)
              have z4 : (4 : Int32).toInt = 4 := rfl
              try (have tx15 : x15.toInt = 4 * (p2 : Int32).toInt := tl_mul ex15 (show -2147483648 ≤ 4 * (p2 : Int32).toInt ∧ 4 * (p2 : Int32).toInt ≤ 2147483647 by omega))
              refine li_iload 0 dX12_goCosts_83 rfl ?_
              refine li_iadd dX12_goCosts_85 ?_
              refine li_top (fun x16 ex16 => ?_)
              try (have tx16 : x16.toInt = (x15 : Int32).toInt + (x12 : Int32).toInt := tl_add ex16 (by omega))
              refine li_iald dX12_goCosts_86 (by decide) sh_198 (tl_in (by omega)) ?_
              refine li_top (fun x17 ex17 => ?_)
              have gx17 := tl_rg x17
              have lx17 : -1 ≤ x17.toInt ∧ x17.toInt ≤ 999 := hJ.ldCost ex17
              refine li_istore [(8, .int x17), (7, .int x12), (0, .ref (Z.2.2 175)), (1, .int p1), (2, .int p2), (3, .int p3), (4, .int p4), (5, .int p5), (6, .int p6)] dX12_goCosts_87 (by decide) rfl ?_
              refine li_iload 0 dX12_goCosts_89 rfl ?_
              have J99 : ∀ (x19 : Int32) (M20 : li_M), li_fs (fun i k => i = 199 ∨ (i = 175 ∧ k = 46)) M0 M20 → li_J M20 → ((x19 : Int32).toInt = 0 ∨ (0 ≤ (x17 : Int32).toInt ∧ (x17 : Int32).toInt ≤ 999)) → li_T l Z YX12_goCosts d 99 [(8, .int x17), (7, .int x12), (0, .ref (Z.2.2 175)), (1, .int p1), (2, .int p2), (3, .int p3), (4, .int p4), (5, .int p5), (6, .int p6)] [.int x19] M20 (fun r M' => r = none ∧ li_fs (fun i k => i = 199 ∨ (i = 175 ∧ k = 46)) M0 M' ∧ li_J M') := by
                intro x19 M20 hf hJ hi
                have gx19 := tl_rg x19
                have rM20_4 := J_sl4 (M := M20) hJ
                have mM20_4 : (M20.1 175 4).toInt = (M0.1 175 4).toInt := tl_slot (hf.1 175 4 (show ¬ (175 = 199 ∨ (175 = 175 ∧ 4 = 46)) by decide))
                refine li_istore [(9, .int x19), (8, .int x17), (7, .int x12), (0, .ref (Z.2.2 175)), (1, .int p1), (2, .int p2), (3, .int p3), (4, .int p4), (5, .int p5), (6, .int p6)] dX12_goCosts_99 (by decide) rfl ?_
                refine li_iconst 0 dX12_goCosts_101 (by decide) ?_
                refine li_istore [(10, .int 0), (9, .int x19), (8, .int x17), (7, .int x12), (0, .ref (Z.2.2 175)), (1, .int p1), (2, .int p2), (3, .int p3), (4, .int p4), (5, .int p5), (6, .int p6)] dX12_goCosts_102 (by decide) rfl ?_
                have L104 : ∀ (n : Nat) (x21 : Int32) (x22 : Int32) (M23 : li_M), (4 - (x21 : Int32).toInt).toNat < n → li_fs (fun i k => i = 199 ∨ (i = 175 ∧ k = 46)) M0 M23 → li_J M23 → 0 ≤ (x21 : Int32).toInt ∧ ((x22 : Int32).toInt = 0 ∨ (0 ≤ (x17 : Int32).toInt ∧ (x17 : Int32).toInt ≤ 999)) → li_T l Z YX12_goCosts d 104 [(10, .int x21), (9, .int x22), (8, .int x17), (7, .int x12), (0, .ref (Z.2.2 175)), (1, .int p1), (2, .int p2), (3, .int p3), (4, .int p4), (5, .int p5), (6, .int p6)] [] M23 (fun r M' => r = none ∧ li_fs (fun i k => i = 199 ∨ (i = 175 ∧ k = 46)) M0 M' ∧ li_J M') := by
                  intro n
                  induction n with
                  | zero => intro x21 x22 M23 hn; exact absurd hn (Nat.not_lt_zero _)
                  | succ n ih104 =>
                    intro x21 x22 M23 hn hf hJ hi
                    have gx21 := tl_rg x21
                    have gx22 := tl_rg x22
                    have rM23_4 := J_sl4 (M := M23) hJ
                    have mM23_4 : (M23.1 175 4).toInt = (M0.1 175 4).toInt := tl_slot (hf.1 175 4 (show ¬ (175 = 199 ∨ (175 = 175 ∧ 4 = 46)) by decide))
                    refine li_iload 0 dX12_goCosts_104 rfl ?_
                    refine li_iload 3 dX12_goCosts_106 rfl ?_
                    refine li_icmp_ge 145 dX12_goCosts_108 (by decide) (fun c24 => ?_) (fun c24 => ?_)
                    · have tc24 : x12.toInt ≤ x21.toInt := tl_le c24
                      refine li_iload 1 dX12_goCosts_145 rfl ?_
                      have J172 : ∀  (M26 : li_M), li_fs (fun i k => i = 199 ∨ (i = 175 ∧ k = 46)) M0 M26 → li_J M26 → li_T l Z YX12_goCosts d 172 [(10, .int x21), (9, .int x22), (8, .int x17), (7, .int x12), (0, .ref (Z.2.2 175)), (1, .int p1), (2, .int p2), (3, .int p3), (4, .int p4), (5, .int p5), (6, .int p6)] [] M26 (fun r M' => r = none ∧ li_fs (fun i k => i = 199 ∨ (i = 175 ∧ k = 46)) M0 M' ∧ li_J M') := by
                        intro  M26 hf hJ
                        have rM26_4 := J_sl4 (M := M26) hJ
                        have mM26_4 : (M26.1 175 4).toInt = (M0.1 175 4).toInt := tl_slot (hf.1 175 4 (show ¬ (175 = 199 ∨ (175 = 175 ∧ 4 = 46)) by decide))
                        obtain ⟨x27, ex27⟩ : ∃ y : Int32, y = x12 + 1 := ⟨_, rfl⟩
                        have z1 : (1 : Int32).toInt = 1 := rfl
                        try (have tx27 : x27.toInt = (x12 : Int32).toInt + (1 : Int32).toInt := tl_add ex27 (by omega))
                        refine li_iinc 3 [(7, .int x27), (10, .int x21), (9, .int x22), (8, .int x17), (0, .ref (Z.2.2 175)), (1, .int p1), (2, .int p2), (3, .int p3), (4, .int p4), (5, .int p5), (6, .int p6)] x27 dX12_goCosts_172 rfl (by rw [ex27]; rfl) (by decide) rfl ?_
                        refine li_goto 70 dX12_goCosts_175 (by decide) ?_
                        refine li_pick [0, 4, 5, 6, 7, 8, 9, 10] [(7, .int x27), (0, .ref (Z.2.2 175)), (1, .int p1), (2, .int p2), (3, .int p3), (4, .int p4), (5, .int p5), (6, .int p6)] rfl ?_
                        exact ih70 x27 M26 (by omega) hf hJ (by omega)
                      refine li_if_eq 172 dX12_goCosts_147 (by decide) (fun c25 => ?_) (fun c25 => ?_)
                      · have tc25 : x22.toInt = 0 := tl_eq c25
                        refine li_pick [0, 1, 2, 3, 4, 5, 6, 7, 8, 9, 10] [(10, .int x21), (9, .int x22), (8, .int x17), (7, .int x12), (0, .ref (Z.2.2 175)), (1, .int p1), (2, .int p2), (3, .int p3), (4, .int p4), (5, .int p5), (6, .int p6)] rfl ?_
                        exact J172  M23 hf hJ
                      · have tc25 : ¬ x22.toInt = 0 := tl_ne c25
                        refine li_aload_n 4 dX12_goCosts_150 rfl ?_
                        refine li_iload_n 5 dX12_goCosts_151 rfl ?_
                        refine li_iload_n 6 dX12_goCosts_152 rfl ?_
                        refine li_iconst 1 dX12_goCosts_153 (by decide) ?_
                        refine li_iadd dX12_goCosts_154 ?_
                        refine li_top (fun x28 ex28 => ?_)
                        have z1 : (1 : Int32).toInt = 1 := rfl
                        try (have tx28 : x28.toInt = (p2 : Int32).toInt + (1 : Int32).toInt := tl_add ex28 (by omega))
                        refine li_iload_n 7 dX12_goCosts_155 rfl ?_
                        refine li_iconst 1 dX12_goCosts_156 (by decide) ?_
                        refine li_iload_n 6 dX12_goCosts_157 rfl ?_
                        refine li_ishl dX12_goCosts_158 ?_
                        refine li_top (fun x29 ex29 => ?_)
                        have z1 : (1 : Int32).toInt = 1 := rfl
                        try (have tx29 := tl_shl255 ex29 (by omega))
                        refine li_ior dX12_goCosts_159 ?_
                        refine li_top (fun x30 ex30 => ?_)
                        try (have tx30 := tl_or255 ex30 (by omega) (by omega))
                        refine li_iload 8 dX12_goCosts_160 rfl ?_
                        refine li_iload 2 dX12_goCosts_162 rfl ?_
                        refine li_iadd dX12_goCosts_164 ?_
                        refine li_top (fun x31 ex31 => ?_)
                        try (have tx31 : x31.toInt = (p4 : Int32).toInt + (x17 : Int32).toInt := tl_add ex31 (by omega))
                        refine li_iload 9 dX12_goCosts_165 rfl ?_
                        refine li_iload 10 dX12_goCosts_167 rfl ?_
                        refine li_callV (n := 6) (As := [.int p1, .int x28, .int x30, .int x31, .int p5, .int p6]) dX12_goCosts_169 (IH p1 x28 x30 x31 p5 p6 M23 hJ (by omega) (by omega) (by omega) (by omega)) (by omega) (Nat.le_of_ble_eq_true rfl) w_1935 w_1937 w_96 w_112 w_1938 (by decide +kernel) rfl (by decide) sh_175 rfl rfl (Nat.le_of_ble_eq_true rfl) (fun r M33 h34 => ?_)
                        obtain ⟨rfl, h34, jM33⟩ := h34
                        have hf := li_fs_trans hf h34 (fun i k => fun h => Or.elim h (fun h => Or.inl h) (fun h => Or.inr h))
                        have hJ := jM33
                        have rM33_4 := J_sl4 (M := M33) hJ
                        have mM33_4 : (M33.1 175 4).toInt = (M23.1 175 4).toInt := tl_slot (h34.1 175 4 (show ¬ (175 = 199 ∨ (175 = 175 ∧ 4 = 46)) by decide))
                        refine li_pick [0, 1, 2, 3, 4, 5, 6, 7, 8, 9, 10] [(10, .int x21), (9, .int x22), (8, .int x17), (7, .int x12), (0, .ref (Z.2.2 175)), (1, .int p1), (2, .int p2), (3, .int p3), (4, .int p4), (5, .int p5), (6, .int p6)] rfl ?_
                        exact J172  M33 hf hJ
                    · have tc24 : x21.toInt < x12.toInt := tl_nle c24
                      refine li_iload 1 dX12_goCosts_111 rfl ?_
                      have J137 : ∀ (x36 : Int32) (M37 : li_M), li_fs (fun i k => i = 199 ∨ (i = 175 ∧ k = 46)) M0 M37 → li_J M37 → ((x36 : Int32).toInt = 0 ∨ (0 ≤ (x17 : Int32).toInt ∧ (x17 : Int32).toInt ≤ 999)) → li_T l Z YX12_goCosts d 137 [(10, .int x21), (9, .int x22), (8, .int x17), (7, .int x12), (0, .ref (Z.2.2 175)), (1, .int p1), (2, .int p2), (3, .int p3), (4, .int p4), (5, .int p5), (6, .int p6)] [.int x36] M37 (fun r M' => r = none ∧ li_fs (fun i k => i = 199 ∨ (i = 175 ∧ k = 46)) M0 M' ∧ li_J M') := by
                        intro x36 M37 hf hJ hi
                        have gx36 := tl_rg x36
                        have rM37_4 := J_sl4 (M := M37) hJ
                        have mM37_4 : (M37.1 175 4).toInt = (M0.1 175 4).toInt := tl_slot (hf.1 175 4 (show ¬ (175 = 199 ∨ (175 = 175 ∧ 4 = 46)) by decide))
                        refine li_istore [(9, .int x36), (10, .int x21), (8, .int x17), (7, .int x12), (0, .ref (Z.2.2 175)), (1, .int p1), (2, .int p2), (3, .int p3), (4, .int p4), (5, .int p5), (6, .int p6)] dX12_goCosts_137 (by decide) rfl ?_
                        obtain ⟨x38, ex38⟩ : ∃ y : Int32, y = x21 + 1 := ⟨_, rfl⟩
                        have z1 : (1 : Int32).toInt = 1 := rfl
                        try (have tx38 : x38.toInt = (x21 : Int32).toInt + (1 : Int32).toInt := tl_add ex38 (by omega))
                        refine li_iinc 1 [(10, .int x38), (9, .int x36), (8, .int x17), (7, .int x12), (0, .ref (Z.2.2 175)), (1, .int p1), (2, .int p2), (3, .int p3), (4, .int p4), (5, .int p5), (6, .int p6)] x38 dX12_goCosts_139 rfl (by rw [ex38]; rfl) (by decide) rfl ?_
                        refine li_goto 104 dX12_goCosts_142 (by decide) ?_
                        refine li_pick [0, 1, 2, 3, 4, 5, 6, 7, 8, 9, 10] [(10, .int x38), (9, .int x36), (8, .int x17), (7, .int x12), (0, .ref (Z.2.2 175)), (1, .int p1), (2, .int p2), (3, .int p3), (4, .int p4), (5, .int p5), (6, .int p6)] rfl ?_
                        exact ih104 x38 x36 M37 (by omega) hf hJ (by omega)
                      refine li_if_eq 136 dX12_goCosts_113 (by decide) (fun c35 => ?_) (fun c35 => ?_)
                      · have tc35 : x22.toInt = 0 := tl_eq c35
                        refine li_iconst 0 dX12_goCosts_136 (by decide) ?_
                        refine li_pick [0, 1, 2, 3, 4, 5, 6, 7, 8, 9, 10] [(10, .int x21), (9, .int x22), (8, .int x17), (7, .int x12), (0, .ref (Z.2.2 175)), (1, .int p1), (2, .int p2), (3, .int p3), (4, .int p4), (5, .int p5), (6, .int p6)] rfl ?_
                        have z0 : (0 : Int32).toInt = 0 := rfl
                        exact J137 0 M23 hf hJ (by omega)
                      · have tc35 : ¬ x22.toInt = 0 := tl_ne c35
                        refine li_aload_n 4 dX12_goCosts_116 rfl ?_
                        refine li_getr (k := 44) (N := 52) (T := TX12) (C0 := RX12) dX12_goCosts_117 (by decide) sh_175 rfl rfl (by decide) (by decide) li_in12 w_1448 ?_
                        refine li_iconst 4 dX12_goCosts_120 (by decide) ?_
                        refine li_iload_n 6 dX12_goCosts_121 rfl ?_
                        refine li_imul dX12_goCosts_122 ?_
                        refine li_top (fun x39 ex39 => ?_)
                        have z4 : (4 : Int32).toInt = 4 := rfl
                        try (have tx39 : x39.toInt = 4 * (p2 : Int32).toInt := tl_mul ex39 (show -2147483648 ≤ 4 * (p2 : Int32).toInt ∧ 4 * (p2 : Int32).toInt ≤ 2147483647 by omega))
                        refine li_iload 0 dX12_goCosts_123 rfl ?_
                        refine li_iadd dX12_goCosts_125 ?_
                        refine li_top (fun x40 ex40 => ?_)
                        try (have tx40 : x40.toInt = (x39 : Int32).toInt + (x21 : Int32).toInt := tl_add ex40 (by omega))
                        refine li_iald dX12_goCosts_126 (by decide) sh_198 (tl_in (by omega)) ?_
                        refine li_top (fun x41 ex41 => ?_)
                        have gx41 := tl_rg x41
                        have lx41 : -1 ≤ x41.toInt ∧ x41.toInt ≤ 999 := hJ.ldCost ex41
                        refine li_iload 2 dX12_goCosts_127 rfl ?_
                        refine li_icmp_eq 136 dX12_goCosts_129 (by decide) (fun c42 => ?_) (fun c42 => ?_)
                        · have tc42 : x41.toInt = x17.toInt := tl_eq c42
                          refine li_iconst 0 dX12_goCosts_136 (by decide) ?_
                          refine li_pick [0, 1, 2, 3, 4, 5, 6, 7, 8, 9, 10] [(10, .int x21), (9, .int x22), (8, .int x17), (7, .int x12), (0, .ref (Z.2.2 175)), (1, .int p1), (2, .int p2), (3, .int p3), (4, .int p4), (5, .int p5), (6, .int p6)] rfl ?_
                          have z0 : (0 : Int32).toInt = 0 := rfl
                          exact J137 0 M23 hf hJ (by omega)
                        · have tc42 : ¬ x41.toInt = x17.toInt := tl_ne c42
                          refine li_iconst 1 dX12_goCosts_132 (by decide) ?_
                          refine li_goto 137 dX12_goCosts_133 (by decide) ?_
                          refine li_pick [0, 1, 2, 3, 4, 5, 6, 7, 8, 9, 10] [(10, .int x21), (9, .int x22), (8, .int x17), (7, .int x12), (0, .ref (Z.2.2 175)), (1, .int p1), (2, .int p2), (3, .int p3), (4, .int p4), (5, .int p5), (6, .int p6)] rfl ?_
                          have z1 : (1 : Int32).toInt = 1 := rfl
                          exact J137 1 M23 hf hJ (by omega)
                have z0 : (0 : Int32).toInt = 0 := rfl
                exact L104 _ 0 x19 M20 (Nat.lt_succ_self _) hf hJ (by omega)
              refine li_if_lt 98 dX12_goCosts_91 (by decide) (fun c18 => ?_) (fun c18 => ?_)
              · have tc18 : x17.toInt < 0 := tl_lt c18
                refine li_iconst 0 dX12_goCosts_98 (by decide) ?_
                refine li_pick [0, 1, 2, 3, 4, 5, 6, 7, 8] [(8, .int x17), (7, .int x12), (0, .ref (Z.2.2 175)), (1, .int p1), (2, .int p2), (3, .int p3), (4, .int p4), (5, .int p5), (6, .int p6)] rfl ?_
                have z0 : (0 : Int32).toInt = 0 := rfl
                exact J99 0 M13 hf hJ (by omega)
              · have tc18 : 0 ≤ x17.toInt := tl_nlt c18
                refine li_iconst 1 dX12_goCosts_94 (by decide) ?_
                refine li_goto 99 dX12_goCosts_95 (by decide) ?_
                refine li_pick [0, 1, 2, 3, 4, 5, 6, 7, 8] [(8, .int x17), (7, .int x12), (0, .ref (Z.2.2 175)), (1, .int p1), (2, .int p2), (3, .int p3), (4, .int p4), (5, .int p5), (6, .int p6)] rfl ?_
                have z1 : (1 : Int32).toInt = 1 := rfl
                exact J99 1 M13 hf hJ (by omega)
        have z0 : (0 : Int32).toInt = 0 := rfl
        exact L70 _ 0 M9 (Nat.lt_succ_self _) hf hJ (by omega)
      · skip
        refine li_if_ne 67 dX12_goCosts_63 (by decide) (fun c => absurd rfl c) (fun c => ?_)
        exact li_vret dX12_goCosts_66 rfl ⟨rfl, hf, hJ⟩
    · have tc3 : p2.toInt = x2.toInt := tl_eq c3
      refine li_iload 6 dX12_goCosts_16 rfl ?_
      refine li_if_ge 30 dX12_goCosts_18 (by decide) (fun c44 => ?_) (fun c44 => ?_)
      · have tc44 : 0 ≤ p6.toInt := tl_le c44
        refine li_iload 4 dX12_goCosts_30 rfl ?_
        refine li_iload 6 dX12_goCosts_32 rfl ?_
        refine li_icmp_ne 42 dX12_goCosts_34 (by decide) (fun c45 => ?_) (fun c45 => ?_)
        · have tc45 : ¬ p4.toInt = p6.toInt := tl_ne c45
          exact li_vret dX12_goCosts_42 rfl ⟨rfl, hf, hJ⟩
        · have tc45 : p4.toInt = p6.toInt := tl_eq c45
          refine li_aload_n 0 dX12_goCosts_37 rfl ?_
          refine li_iload_n 3 dX12_goCosts_38 rfl ?_
          refine li_callV (n := 1) (As := [.int p3]) dX12_goCosts_39 (k_X12_mark (d - 1) (by omega) p3 M0 hJ (by omega)) (by omega) (Nat.le_of_ble_eq_true rfl) w_1939 w_1941 w_97 w_112 w_1942 (by decide +kernel) rfl (by decide) sh_175 rfl rfl (Nat.le_of_ble_eq_true rfl) (fun r M47 h48 => ?_)
          obtain ⟨rfl, h48, jM47⟩ := h48
          have hf := li_fs_trans hf h48 (fun i k => fun h => Or.elim h (fun h => Or.inl h) (fun h => Or.inr h))
          have hJ := jM47
          have rM47_4 := J_sl4 (M := M47) hJ
          have mM47_4 : (M47.1 175 4).toInt = (M0.1 175 4).toInt := tl_slot (h48.1 175 4 (show ¬ (175 = 199 ∨ (175 = 175 ∧ 4 = 46)) by decide))
          exact li_vret dX12_goCosts_42 rfl ⟨rfl, hf, hJ⟩
      · have tc44 : p6.toInt < 0 := tl_nle c44
        refine li_aload_n 0 dX12_goCosts_21 rfl ?_
        refine li_iload 4 dX12_goCosts_22 rfl ?_
        refine li_callV (n := 1) (As := [.int p4]) dX12_goCosts_24 (k_X12_mark (d - 1) (by omega) p4 M0 hJ (by omega)) (by omega) (Nat.le_of_ble_eq_true rfl) w_1939 w_1941 w_97 w_112 w_1942 (by decide +kernel) rfl (by decide) sh_175 rfl rfl (Nat.le_of_ble_eq_true rfl) (fun r M50 h51 => ?_)
        obtain ⟨rfl, h51, jM50⟩ := h51
        have hf := li_fs_trans hf h51 (fun i k => fun h => Or.elim h (fun h => Or.inl h) (fun h => Or.inr h))
        have hJ := jM50
        have rM50_4 := J_sl4 (M := M50) hJ
        have mM50_4 : (M50.1 175 4).toInt = (M0.1 175 4).toInt := tl_slot (h51.1 175 4 (show ¬ (175 = 199 ∨ (175 = 175 ∧ 4 = 46)) by decide))
        refine li_goto 42 dX12_goCosts_27 (by decide) ?_
        exact li_vret dX12_goCosts_42 rfl ⟨rfl, hf, hJ⟩
  · have tc1 : p5.toInt < p4.toInt := tl_nle c1
    exact li_vret dX12_goCosts_7 rfl ⟨rfl, hf, hJ⟩
theorem kk_X12_goCosts {l : Launch} {Z : li_Z} : ∀ (n d : Nat) (p1 p2 p3 p4 p5 p6 : Int32) (M : li_M), li_J M → (0 ≤ p2.toInt ∧ p2.toInt ≤ (M.1 175 4).toInt) → (0 ≤ p3.toInt ∧ p3.toInt ≤ 255) → (0 ≤ p4.toInt ∧ p4.toInt ≤ 999 * p2.toInt) → (9 - p2.toInt).toNat ≤ n → n + 8 ≤ d → li_Met l Z YX12_goCosts d [.ref (Z.2.2 175), .int p1, .int p2, .int p3, .int p4, .int p5, .int p6] M (fun r M' => r = none ∧ li_fs (fun i k => i = 199 ∨ (i = 175 ∧ k = 46)) M M' ∧ li_J M') := by
  intro n
  induction n with
  | zero =>
    intro d p1 p2 p3 p4 p5 p6 M hJ h2 h3 h4 hn hd
    have h6 := J_sl4 (M := M) hJ
    exact absurd hn (by omega)
  | succ n ih =>
    intro d p1 p2 p3 p4 p5 p6 M hJ h2 h3 h4 hn hd
    exact k_X12_goCosts d (by omega) p1 p2 p3 p4 p5 p6 (n + 8) (fun q1 q2 q3 q4 q5 q6 M2 hJ2 a2 a2' a3 a4 => ih (n + 8) q1 q2 q3 q4 q5 q6 M2 hJ2 (by omega) a3 a4 (by omega) (by omega)) (by omega) M hJ h2 h3 h4
set_option maxRecDepth 100000 in
set_option maxHeartbeats 4000000 in
theorem k_X12_markCosts {l : Launch} {Z : li_Z} (d : Nat) (hd : 341 ≤ d) (p1 p2 : Int32) (M0 : li_M) (hJ : li_J M0) (h1 : 0 ≤ p1.toInt ∧ p1.toInt ≤ 5) : li_Met l Z YX12_markCosts d [.ref (Z.2.2 175), .int p1, .int p2] M0 (fun r M' => r = none ∧ li_fs (fun i k => i = 185 ∨ i = 198 ∨ i = 199 ∨ i = 1000 ∨ (i = 175 ∧ k = 12) ∨ (i = 175 ∧ k = 13) ∨ (i = 175 ∧ k = 14) ∨ (i = 175 ∧ k = 15) ∨ (i = 175 ∧ k = 20) ∨ (i = 175 ∧ k = 46)) M0 M' ∧ li_J M') := by
  refine li_enter (by decide +kernel) (Nat.le_of_ble_eq_true rfl) ?_
  show li_T l Z YX12_markCosts d 0 [(0, .ref (Z.2.2 175)), (1, .int p1), (2, .int p2)] [] M0 _
  have hf : li_fs (fun i k => i = 185 ∨ i = 198 ∨ i = 199 ∨ i = 1000 ∨ (i = 175 ∧ k = 12) ∨ (i = 175 ∧ k = 13) ∨ (i = 175 ∧ k = 14) ∨ (i = 175 ∧ k = 15) ∨ (i = 175 ∧ k = 20) ∨ (i = 175 ∧ k = 46)) M0 M0 := li_fs_refl
  have gp1 := tl_rg p1
  have gp2 := tl_rg p2
  have rM0_4 := J_sl4 (M := M0) hJ
  refine li_iconst 0 dX12_markCosts_0 (by decide) ?_
  refine li_istore_n [(3, .int 0), (0, .ref (Z.2.2 175)), (1, .int p1), (2, .int p2)] dX12_markCosts_1 (by decide) rfl ?_
  have L2 : ∀ (n : Nat) (x1 : Int32) (M2 : li_M), (10000 - (x1 : Int32).toInt).toNat < n → li_fs (fun i k => i = 185 ∨ i = 198 ∨ i = 199 ∨ i = 1000 ∨ (i = 175 ∧ k = 12) ∨ (i = 175 ∧ k = 13) ∨ (i = 175 ∧ k = 14) ∨ (i = 175 ∧ k = 15) ∨ (i = 175 ∧ k = 20) ∨ (i = 175 ∧ k = 46)) M0 M2 → li_J M2 → 0 ≤ (x1 : Int32).toInt → li_T l Z YX12_markCosts d 2 [(3, .int x1), (0, .ref (Z.2.2 175)), (1, .int p1), (2, .int p2)] [] M2 (fun r M' => r = none ∧ li_fs (fun i k => i = 185 ∨ i = 198 ∨ i = 199 ∨ i = 1000 ∨ (i = 175 ∧ k = 12) ∨ (i = 175 ∧ k = 13) ∨ (i = 175 ∧ k = 14) ∨ (i = 175 ∧ k = 15) ∨ (i = 175 ∧ k = 20) ∨ (i = 175 ∧ k = 46)) M0 M' ∧ li_J M') := by
    intro n
    induction n with
    | zero => intro x1 M2 hn; exact absurd hn (Nat.not_lt_zero _)
    | succ n ih2 =>
      intro x1 M2 hn hf hJ hi
      have gx1 := tl_rg x1
      have rM2_4 := J_sl4 (M := M2) hJ
      have mM2_4 : (M2.1 175 4).toInt = (M0.1 175 4).toInt := tl_slot (hf.1 175 4 (show ¬ (175 = 185 ∨ 175 = 198 ∨ 175 = 199 ∨ 175 = 1000 ∨ (175 = 175 ∧ 4 = 12) ∨ (175 = 175 ∧ 4 = 13) ∨ (175 = 175 ∧ 4 = 14) ∨ (175 = 175 ∧ 4 = 15) ∨ (175 = 175 ∧ 4 = 20) ∨ (175 = 175 ∧ 4 = 46)) by decide))
      refine li_iload_n 0 dX12_markCosts_2 rfl ?_
      refine li_aload_n 1 dX12_markCosts_3 rfl ?_
      refine li_getr (k := 45) (N := 52) (T := TX12) (C0 := RX12) dX12_markCosts_4 (by decide) sh_175 rfl rfl (by decide) (by decide) li_in12 w_1449 ?_
      refine li_alen 10000 dX12_markCosts_7 (by decide) sh_199 (Or.inl (by decide)) rfl ?_
      refine li_icmp_ge 24 dX12_markCosts_8 (by decide) (fun c3 => ?_) (fun c3 => ?_)
      · have tc3 : 10000 ≤ x1.toInt := tl_le c3
        refine li_aload_n 1 dX12_markCosts_24 rfl ?_
        refine li_iconst 0 dX12_markCosts_25 (by decide) ?_
        refine li_puti (k := 46) (N := 52) (T := TX12) (C0 := RX12) dX12_markCosts_26 (by decide) sh_175 rfl rfl (by decide) li_in12 tyX12_ok nmX12 rfl rfl rfl rfl w_1450 ?_
        refine li_nm (fun M4 eM4 => ?_)
        have hf := li_fs_ui hf (Or.inr (Or.inr (Or.inr (Or.inr (Or.inr (Or.inr (Or.inr (Or.inr (Or.inr (⟨rfl, rfl⟩)))))))))) eM4
        have z0 : (0 : Int32).toInt = 0 := rfl
        have hJ := hJ.put (k := 46) (by decide) (rg_free rfl) eM4
        have rM4_4 := J_sl4 (M := M4) hJ
        have mM4_4 : (M4.1 175 4).toInt = (M2.1 175 4).toInt := by rw [eM4, li_ui_at, if_pos rfl, if_neg (by decide)]
        refine li_iconst 0 dX12_markCosts_29 (by decide) ?_
        refine li_istore_n [(3, .int 0), (0, .ref (Z.2.2 175)), (1, .int p1), (2, .int p2)] dX12_markCosts_30 (by decide) rfl ?_
        have L31 : ∀ (n : Nat) (x5 : Int32) (M6 : li_M), (8 - (x5 : Int32).toInt).toNat < n → li_fs (fun i k => i = 185 ∨ i = 198 ∨ i = 199 ∨ i = 1000 ∨ (i = 175 ∧ k = 12) ∨ (i = 175 ∧ k = 13) ∨ (i = 175 ∧ k = 14) ∨ (i = 175 ∧ k = 15) ∨ (i = 175 ∧ k = 20) ∨ (i = 175 ∧ k = 46)) M0 M6 → li_J M6 → 0 ≤ (x5 : Int32).toInt → li_T l Z YX12_markCosts d 31 [(3, .int x5), (0, .ref (Z.2.2 175)), (1, .int p1), (2, .int p2)] [] M6 (fun r M' => r = none ∧ li_fs (fun i k => i = 185 ∨ i = 198 ∨ i = 199 ∨ i = 1000 ∨ (i = 175 ∧ k = 12) ∨ (i = 175 ∧ k = 13) ∨ (i = 175 ∧ k = 14) ∨ (i = 175 ∧ k = 15) ∨ (i = 175 ∧ k = 20) ∨ (i = 175 ∧ k = 46)) M0 M' ∧ li_J M') := by
          intro n
          induction n with
          | zero => intro x5 M6 hn; exact absurd hn (Nat.not_lt_zero _)
          | succ n ih31 =>
            intro x5 M6 hn hf hJ hi
            have gx5 := tl_rg x5
            have rM6_4 := J_sl4 (M := M6) hJ
            have mM6_4 : (M6.1 175 4).toInt = (M0.1 175 4).toInt := tl_slot (hf.1 175 4 (show ¬ (175 = 185 ∨ 175 = 198 ∨ 175 = 199 ∨ 175 = 1000 ∨ (175 = 175 ∧ 4 = 12) ∨ (175 = 175 ∧ 4 = 13) ∨ (175 = 175 ∧ 4 = 14) ∨ (175 = 175 ∧ 4 = 15) ∨ (175 = 175 ∧ 4 = 20) ∨ (175 = 175 ∧ 4 = 46)) by decide))
            refine li_iload_n 0 dX12_markCosts_31 rfl ?_
            refine li_aload_n 1 dX12_markCosts_32 rfl ?_
            refine li_geti (k := 4) (N := 52) (T := TX12) (C0 := RX12) dX12_markCosts_33 (by decide) sh_175 rfl rfl (by decide) li_in12 w_1408 ?_
            refine li_top (fun x7 ex7 => ?_)
            have gx7 : 0 ≤ x7.toInt ∧ x7.toInt ≤ 8 := by rw [ex7]; exact J_sl4 hJ
            have mx7 : x7.toInt = (M6.1 175 4).toInt := tl_slot ex7
            have sx7 : x7.toInt = (M0.1 175 4).toInt := tl_slot (ex7.trans (hf.1 175 4 (show ¬ (175 = 185 ∨ 175 = 198 ∨ 175 = 199 ∨ 175 = 1000 ∨ (175 = 175 ∧ 4 = 12) ∨ (175 = 175 ∧ 4 = 13) ∨ (175 = 175 ∧ 4 = 14) ∨ (175 = 175 ∧ 4 = 15) ∨ (175 = 175 ∧ 4 = 20) ∨ (175 = 175 ∧ 4 = 46)) by decide)))
            refine li_icmp_ge 96 dX12_markCosts_36 (by decide) (fun c8 => ?_) (fun c8 => ?_)
            · have tc8 : x7.toInt ≤ x5.toInt := tl_le c8
              refine li_aload_n 1 dX12_markCosts_96 rfl ?_
              refine li_aload_n 1 dX12_markCosts_97 rfl ?_
              refine li_iload_n 2 dX12_markCosts_98 rfl ?_
              refine li_callV (n := 1) (As := [.int p1]) dX12_markCosts_99 (k_X12_thingsOf (d - 1) (by omega) p1 M6 hJ ) (by omega) (Nat.le_of_ble_eq_true rfl) w_1815 w_1817 w_82 w_112 w_1818 (by decide +kernel) rfl (by decide) sh_175 rfl rfl (Nat.le_of_ble_eq_true rfl) (fun r M10 h11 => ?_)
              obtain ⟨⟨x9, rfl, qx9⟩, h11, jM10⟩ := h11
              have gx9 := tl_rg x9
              have hf := li_fs_trans hf h11 (fun i k h => False.elim h)
              have hJ := jM10
              have rM10_4 := J_sl4 (M := M10) hJ
              have mM10_4 : (M10.1 175 4).toInt = (M6.1 175 4).toInt := tl_slot (h11.1 175 4 id)
              refine li_aload_n 1 dX12_markCosts_102 rfl ?_
              refine li_callV (n := 0) (As := []) dX12_markCosts_103 (k_X12_today (d - 1) (by omega)  M10 hJ ) (by omega) (Nat.le_of_ble_eq_true rfl) w_1819 w_1821 w_83 w_112 w_1822 (by decide +kernel) rfl (by decide) sh_175 rfl rfl (Nat.le_of_ble_eq_true rfl) (fun r M13 h14 => ?_)
              obtain ⟨⟨x12, rfl, qx12⟩, h14, jM13⟩ := h14
              have gx12 := tl_rg x12
              have hf := li_fs_trans hf h14 (fun i k h => False.elim h)
              have hJ := jM13
              have rM13_4 := J_sl4 (M := M13) hJ
              have mM13_4 : (M13.1 175 4).toInt = (M10.1 175 4).toInt := tl_slot (h14.1 175 4 id)
              refine li_iand dX12_markCosts_106 ?_
              refine li_top (fun x15 ex15 => ?_)
              first | (have tx15 := tl_andR ex15 (by omega)) | (have tx15 := tl_andL ex15 (by omega)) | skip
              refine li_iconst 0 dX12_markCosts_107 (by decide) ?_
              refine li_iconst 0 dX12_markCosts_108 (by decide) ?_
              refine li_iconst 0 dX12_markCosts_109 (by decide) ?_
              refine li_aload_n 1 dX12_markCosts_110 rfl ?_
              refine li_getr (k := 0) (N := 52) (T := TX12) (C0 := RX12) dX12_markCosts_111 (by decide) sh_175 rfl rfl (by decide) (by decide) li_in12 w_1404 ?_
              refine li_iload_n 2 dX12_markCosts_114 rfl ?_
              refine li_iald dX12_markCosts_115 (by decide) sh_176 (tl_in (by omega)) ?_
              refine li_top (fun x16 ex16 => ?_)
              have gx16 := tl_rg x16
              try (have ox16 : (p1 : Int32).toInt % 51 = (p1 : Int32).toInt := by omega)
              have lx16 : ((p1 : Int32).toInt % 51 = 20 → 0 ≤ x16.toInt ∧ x16.toInt ≤ 6) ∧ (21 ≤ (p1 : Int32).toInt % 51 → ((p1 : Int32).toInt % 51 - 21) % 5 < 2 → 0 ≤ x16.toInt ∧ x16.toInt ≤ 5) := hJ.ldLed (by unfold li_led; omega) ex16 (by omega)
              refine li_iload_n 3 dX12_markCosts_116 rfl ?_
              have z0 : (0 : Int32).toInt = 0 := rfl
              have z0 : (0 : Int32).toInt = 0 := rfl
              have z0 : (0 : Int32).toInt = 0 := rfl
              refine li_callV (n := 6) (As := [.int x15, .int 0, .int 0, .int 0, .int x16, .int p2]) dX12_markCosts_117 (kk_X12_goCosts 9 (d - 1) x15 0 0 0 x16 p2 M13 hJ (by omega) (by omega) (by omega) (by omega) (by omega)) (by omega) (Nat.le_of_ble_eq_true rfl) w_1935 w_1937 w_96 w_112 w_1938 (by decide +kernel) rfl (by decide) sh_175 rfl rfl (Nat.le_of_ble_eq_true rfl) (fun r M18 h19 => ?_)
              obtain ⟨rfl, h19, jM18⟩ := h19
              have hf := li_fs_trans hf h19 (fun i k => fun h => Or.elim h (fun h => Or.inr (Or.inr (Or.inl h))) (fun h => Or.inr (Or.inr (Or.inr (Or.inr (Or.inr (Or.inr (Or.inr (Or.inr (Or.inr h))))))))))
              have hJ := jM18
              have rM18_4 := J_sl4 (M := M18) hJ
              have mM18_4 : (M18.1 175 4).toInt = (M13.1 175 4).toInt := tl_slot (h19.1 175 4 (show ¬ (175 = 199 ∨ (175 = 175 ∧ 4 = 46)) by decide))
              exact li_vret dX12_markCosts_120 rfl ⟨rfl, hf, hJ⟩
            · have tc8 : x5.toInt < x7.toInt := tl_nle c8
              refine li_iconst 0 dX12_markCosts_39 (by decide) ?_
              refine li_istore [(4, .int 0), (3, .int x5), (0, .ref (Z.2.2 175)), (1, .int p1), (2, .int p2)] dX12_markCosts_40 (by decide) rfl ?_
              have L42 : ∀ (n : Nat) (x20 : Int32) (M21 : li_M), (4 - (x20 : Int32).toInt).toNat < n → li_fs (fun i k => i = 185 ∨ i = 198 ∨ i = 199 ∨ i = 1000 ∨ (i = 175 ∧ k = 12) ∨ (i = 175 ∧ k = 13) ∨ (i = 175 ∧ k = 14) ∨ (i = 175 ∧ k = 15) ∨ (i = 175 ∧ k = 20) ∨ (i = 175 ∧ k = 46)) M0 M21 → li_J M21 → 0 ≤ (x20 : Int32).toInt → li_T l Z YX12_markCosts d 42 [(4, .int x20), (3, .int x5), (0, .ref (Z.2.2 175)), (1, .int p1), (2, .int p2)] [] M21 (fun r M' => r = none ∧ li_fs (fun i k => i = 185 ∨ i = 198 ∨ i = 199 ∨ i = 1000 ∨ (i = 175 ∧ k = 12) ∨ (i = 175 ∧ k = 13) ∨ (i = 175 ∧ k = 14) ∨ (i = 175 ∧ k = 15) ∨ (i = 175 ∧ k = 20) ∨ (i = 175 ∧ k = 46)) M0 M' ∧ li_J M') := by
                intro n
                induction n with
                | zero => intro x20 M21 hn; exact absurd hn (Nat.not_lt_zero _)
                | succ n ih42 =>
                  intro x20 M21 hn hf hJ hi
                  have gx20 := tl_rg x20
                  have rM21_4 := J_sl4 (M := M21) hJ
                  have mM21_4 : (M21.1 175 4).toInt = (M0.1 175 4).toInt := tl_slot (hf.1 175 4 (show ¬ (175 = 185 ∨ 175 = 198 ∨ 175 = 199 ∨ 175 = 1000 ∨ (175 = 175 ∧ 4 = 12) ∨ (175 = 175 ∧ 4 = 13) ∨ (175 = 175 ∧ 4 = 14) ∨ (175 = 175 ∧ 4 = 15) ∨ (175 = 175 ∧ 4 = 20) ∨ (175 = 175 ∧ 4 = 46)) by decide))
                  refine li_iload 0 dX12_markCosts_42 rfl ?_
                  refine li_iconst 4 dX12_markCosts_44 (by decide) ?_
                  refine li_icmp_ge 90 dX12_markCosts_45 (by decide) (fun c22 => ?_) (fun c22 => ?_)
                  · have tc22 : 4 ≤ x20.toInt := tl_le c22
                    obtain ⟨x23, ex23⟩ : ∃ y : Int32, y = x5 + 1 := ⟨_, rfl⟩
                    have z1 : (1 : Int32).toInt = 1 := rfl
                    try (have tx23 : x23.toInt = (x5 : Int32).toInt + (1 : Int32).toInt := tl_add ex23 (by omega))
                    refine li_iinc 1 [(3, .int x23), (4, .int x20), (0, .ref (Z.2.2 175)), (1, .int p1), (2, .int p2)] x23 dX12_markCosts_90 rfl (by rw [ex23]; rfl) (by decide) rfl ?_
                    refine li_goto 31 dX12_markCosts_93 (by decide) ?_
                    refine li_pick [0, 2, 3, 4] [(3, .int x23), (0, .ref (Z.2.2 175)), (1, .int p1), (2, .int p2)] rfl ?_
                    exact ih31 x23 M21 (by omega) hf hJ (by omega)
                  · have tc22 : x20.toInt < 4 := tl_nle c22
                    refine li_aload_n 2 dX12_markCosts_48 rfl ?_
                    refine li_getr (k := 44) (N := 52) (T := TX12) (C0 := RX12) dX12_markCosts_49 (by decide) sh_175 rfl rfl (by decide) (by decide) li_in12 w_1448 ?_
                    refine li_iconst 4 dX12_markCosts_52 (by decide) ?_
                    refine li_iload_n 1 dX12_markCosts_53 rfl ?_
                    refine li_imul dX12_markCosts_54 ?_
                    refine li_top (fun x24 ex24 => ?_)
                    have z4 : (4 : Int32).toInt = 4 := rfl
                    try (have tx24 : x24.toInt = 4 * (x5 : Int32).toInt := tl_mul ex24 (show -2147483648 ≤ 4 * (x5 : Int32).toInt ∧ 4 * (x5 : Int32).toInt ≤ 2147483647 by omega))
                    refine li_iload 0 dX12_markCosts_55 rfl ?_
                    refine li_iadd dX12_markCosts_57 ?_
                    refine li_top (fun x25 ex25 => ?_)
                    try (have tx25 : x25.toInt = (x24 : Int32).toInt + (x20 : Int32).toInt := tl_add ex25 (by omega))
                    refine li_aload_n 2 dX12_markCosts_58 rfl ?_
                    refine li_iload_n 1 dX12_markCosts_59 rfl ?_
                    refine li_iload 0 dX12_markCosts_60 rfl ?_
                    refine li_callV (n := 2) (As := [.int x5, .int x20]) dX12_markCosts_62 (k_X12_isHeard (d - 1) (by omega) x5 x20 M21 hJ (by omega)) (by omega) (Nat.le_of_ble_eq_true rfl) w_1718 w_1720 w_67 w_112 w_1721 (by decide +kernel) rfl (by decide) sh_175 rfl rfl (Nat.le_of_ble_eq_true rfl) (fun r M27 h28 => ?_)
                    obtain ⟨qx26, h28, jM27⟩ := h28
                    have hf := li_fs_trans hf h28 (fun i k h => False.elim h)
                    have hJ := jM27
                    have rM27_4 := J_sl4 (M := M27) hJ
                    have mM27_4 : (M27.1 175 4).toInt = (M21.1 175 4).toInt := tl_slot (h28.1 175 4 id)
                    rcases qx26 with ⟨rfl, qx26⟩ | ⟨rfl, qx26⟩
                    · skip
                      refine li_if_eq 82 dX12_markCosts_65 (by decide) (fun c => absurd c (by decide)) (fun c => ?_)
                      refine li_aload_n 2 dX12_markCosts_68 rfl ?_
                      refine li_aload_n 2 dX12_markCosts_69 rfl ?_
                      refine li_getr (k := 0) (N := 52) (T := TX12) (C0 := RX12) dX12_markCosts_70 (by decide) sh_175 rfl rfl (by decide) (by decide) li_in12 w_1404 ?_
                      refine li_iload_n 1 dX12_markCosts_73 rfl ?_
                      refine li_iload 0 dX12_markCosts_74 rfl ?_
                      refine li_callV (n := 3) (As := [.ref (Z.2.2 176), .int x5, .int x20]) dX12_markCosts_76 (k_X12_costOfThing (d - 1) (by omega) la_176 x5 x20 M27 hJ (by omega)) (by omega) (Nat.le_of_ble_eq_true rfl) w_1722 w_1724 w_68 w_112 w_1725 (by decide +kernel) rfl (by decide) sh_175 rfl rfl (Nat.le_of_ble_eq_true rfl) (fun r M31 h32 => ?_)
                      obtain ⟨⟨x30, rfl, qx30⟩, h32, jM31⟩ := h32
                      have gx30 := tl_rg x30
                      have hf := li_fs_trans hf h32 (fun i k => fun h => Or.elim h (fun h => Or.inl h) (fun h => Or.elim h (fun h => Or.inr (Or.inr (Or.inr (Or.inl h)))) (fun h => Or.elim h (fun h => Or.inr (Or.inr (Or.inr (Or.inr (Or.inl h))))) (fun h => Or.elim h (fun h => Or.inr (Or.inr (Or.inr (Or.inr (Or.inr (Or.inl h)))))) (fun h => Or.elim h (fun h => Or.inr (Or.inr (Or.inr (Or.inr (Or.inr (Or.inr (Or.inl h))))))) (fun h => Or.elim h (fun h => Or.inr (Or.inr (Or.inr (Or.inr (Or.inr (Or.inr (Or.inr (Or.inl h)))))))) (fun h => Or.inr (Or.inr (Or.inr (Or.inr (Or.inr (Or.inr (Or.inr (Or.inr (Or.inl h)))))))))))))))
                      have hJ := jM31
                      have rM31_4 := J_sl4 (M := M31) hJ
                      have mM31_4 : (M31.1 175 4).toInt = (M27.1 175 4).toInt := tl_slot (h32.1 175 4 (show ¬ (175 = 185 ∨ 175 = 1000 ∨ (175 = 175 ∧ 4 = 12) ∨ (175 = 175 ∧ 4 = 13) ∨ (175 = 175 ∧ 4 = 14) ∨ (175 = 175 ∧ 4 = 15) ∨ (175 = 175 ∧ 4 = 20)) by decide))
                      refine li_goto 83 dX12_markCosts_79 (by decide) ?_
                      refine li_iast dX12_markCosts_83 (by decide) sh_198 (tl_in (by omega)) ?_
                      refine li_nm (fun M33 eM33 => ?_)
                      have hf := li_fs_ui hf (Or.inr (Or.inl rfl)) eM33
                      have hJ := hJ.st (by decide) (li_el_cost (show -1 ≤ (x30 : Int32).toInt ∧ (x30 : Int32).toInt ≤ 999 by omega)) eM33
                      have rM33_4 := J_sl4 (M := M33) hJ
                      have mM33_4 : (M33.1 175 4).toInt = (M31.1 175 4).toInt := by rw [eM33, li_ui_at, if_neg (by decide)]
                      obtain ⟨x34, ex34⟩ : ∃ y : Int32, y = x20 + 1 := ⟨_, rfl⟩
                      have z1 : (1 : Int32).toInt = 1 := rfl
                      try (have tx34 : x34.toInt = (x20 : Int32).toInt + (1 : Int32).toInt := tl_add ex34 (by omega))
                      refine li_iinc 0 [(4, .int x34), (3, .int x5), (0, .ref (Z.2.2 175)), (1, .int p1), (2, .int p2)] x34 dX12_markCosts_84 rfl (by rw [ex34]; rfl) (by decide) rfl ?_
                      refine li_goto 42 dX12_markCosts_87 (by decide) ?_
                      refine li_pick [0, 1, 2, 3, 4] [(4, .int x34), (3, .int x5), (0, .ref (Z.2.2 175)), (1, .int p1), (2, .int p2)] rfl ?_
                      exact ih42 x34 M33 (by omega) hf hJ (by omega)
                    · skip
                      refine li_if_eq 82 dX12_markCosts_65 (by decide) (fun c => ?_) (fun c => absurd rfl c)
                      refine li_iconst (-1) dX12_markCosts_82 (by decide) ?_
                      have zm1 : ((-1) : Int32).toInt = -1 := rfl
                      refine li_iast dX12_markCosts_83 (by decide) sh_198 (tl_in (by omega)) ?_
                      refine li_nm (fun M36 eM36 => ?_)
                      have hf := li_fs_ui hf (Or.inr (Or.inl rfl)) eM36
                      have hJ := hJ.st (by decide) (li_el_cost (show -1 ≤ ((-1) : Int32).toInt ∧ ((-1) : Int32).toInt ≤ 999 by omega)) eM36
                      have rM36_4 := J_sl4 (M := M36) hJ
                      have mM36_4 : (M36.1 175 4).toInt = (M27.1 175 4).toInt := by rw [eM36, li_ui_at, if_neg (by decide)]
                      obtain ⟨x37, ex37⟩ : ∃ y : Int32, y = x20 + 1 := ⟨_, rfl⟩
                      have z1 : (1 : Int32).toInt = 1 := rfl
                      try (have tx37 : x37.toInt = (x20 : Int32).toInt + (1 : Int32).toInt := tl_add ex37 (by omega))
                      refine li_iinc 0 [(4, .int x37), (3, .int x5), (0, .ref (Z.2.2 175)), (1, .int p1), (2, .int p2)] x37 dX12_markCosts_84 rfl (by rw [ex37]; rfl) (by decide) rfl ?_
                      refine li_goto 42 dX12_markCosts_87 (by decide) ?_
                      refine li_pick [0, 1, 2, 3, 4] [(4, .int x37), (3, .int x5), (0, .ref (Z.2.2 175)), (1, .int p1), (2, .int p2)] rfl ?_
                      exact ih42 x37 M36 (by omega) hf hJ (by omega)
              have z0 : (0 : Int32).toInt = 0 := rfl
              exact L42 _ 0 M6 (Nat.lt_succ_self _) hf hJ (by omega)
        have z0 : (0 : Int32).toInt = 0 := rfl
        exact L31 _ 0 M4 (Nat.lt_succ_self _) hf hJ (by omega)
      · have tc3 : x1.toInt < 10000 := tl_nle c3
        refine li_aload_n 1 dX12_markCosts_11 rfl ?_
        refine li_getr (k := 45) (N := 52) (T := TX12) (C0 := RX12) dX12_markCosts_12 (by decide) sh_175 rfl rfl (by decide) (by decide) li_in12 w_1449 ?_
        refine li_iload_n 0 dX12_markCosts_15 rfl ?_
        refine li_iconst 0 dX12_markCosts_16 (by decide) ?_
        have z0 : (0 : Int32).toInt = 0 := rfl
        refine li_zast dX12_markCosts_17 (by decide) sh_199 (tl_in (by omega)) (Or.inl rfl) ?_
        refine li_nm (fun M38 eM38 => ?_)
        have hf := li_fs_ui hf (Or.inr (Or.inr (Or.inl rfl))) eM38
        have hJ := hJ.st (by decide) (li_el_free (by unfold li_led; omega) (by decide) (by decide) (by unfold li_rq; omega)) eM38
        have rM38_4 := J_sl4 (M := M38) hJ
        have mM38_4 : (M38.1 175 4).toInt = (M2.1 175 4).toInt := by rw [eM38, li_ui_at, if_neg (by decide)]
        obtain ⟨x39, ex39⟩ : ∃ y : Int32, y = x1 + 1 := ⟨_, rfl⟩
        have z1 : (1 : Int32).toInt = 1 := rfl
        try (have tx39 : x39.toInt = (x1 : Int32).toInt + (1 : Int32).toInt := tl_add ex39 (by omega))
        refine li_iinc 0 [(3, .int x39), (0, .ref (Z.2.2 175)), (1, .int p1), (2, .int p2)] x39 dX12_markCosts_18 rfl (by rw [ex39]; rfl) (by decide) rfl ?_
        refine li_goto 2 dX12_markCosts_21 (by decide) ?_
        refine li_pick [0, 1, 2, 3] [(3, .int x39), (0, .ref (Z.2.2 175)), (1, .int p1), (2, .int p2)] rfl ?_
        exact ih2 x39 M38 (by omega) hf hJ (by omega)
  have z0 : (0 : Int32).toInt = 0 := rfl
  exact L2 _ 0 M0 (Nat.lt_succ_self _) hf hJ (by omega)
set_option maxRecDepth 100000 in
set_option maxHeartbeats 4000000 in
theorem k_X12_spoke {l : Launch} {Z : li_Z} (d : Nat) (hd : 342 ≤ d) (p1 : Int32) (M0 : li_M) (hJ : li_J M0) : li_Met l Z YX12_spoke d [.ref (Z.2.2 175), .int p1] M0 (fun r M' => (∃ x : Int32, r = some (.int x)) ∧ li_fs (fun i k => i = 181 ∨ i = 185 ∨ i = 198 ∨ i = 199 ∨ i = 1000 ∨ (i = 175 ∧ k = 10) ∨ (i = 175 ∧ k = 12) ∨ (i = 175 ∧ k = 13) ∨ (i = 175 ∧ k = 14) ∨ (i = 175 ∧ k = 15) ∨ (i = 175 ∧ k = 20) ∨ (i = 175 ∧ k = 46) ∨ (i = 175 ∧ k = 9)) M0 M' ∧ li_J M') := by
  refine li_enter (by decide +kernel) (Nat.le_of_ble_eq_true rfl) ?_
  show li_T l Z YX12_spoke d 0 [(0, .ref (Z.2.2 175)), (1, .int p1)] [] M0 _
  have hf : li_fs (fun i k => i = 181 ∨ i = 185 ∨ i = 198 ∨ i = 199 ∨ i = 1000 ∨ (i = 175 ∧ k = 10) ∨ (i = 175 ∧ k = 12) ∨ (i = 175 ∧ k = 13) ∨ (i = 175 ∧ k = 14) ∨ (i = 175 ∧ k = 15) ∨ (i = 175 ∧ k = 20) ∨ (i = 175 ∧ k = 46) ∨ (i = 175 ∧ k = 9)) M0 M0 := li_fs_refl
  have gp1 := tl_rg p1
  have rM0_1 := J_sl1 (M := M0) hJ
  have rM0_9 := J_sl9 (M := M0) hJ
  refine li_aload_n 0 dX12_spoke_0 rfl ?_
  refine li_iconst 0 dX12_spoke_1 (by decide) ?_
  refine li_puti (k := 10) (N := 52) (T := TX12) (C0 := RX12) dX12_spoke_2 (by decide) sh_175 rfl rfl (by decide) li_in12 tyX12_ok nmX12 rfl rfl rfl rfl w_1414 ?_
  refine li_nm (fun M1 eM1 => ?_)
  have hf := li_fs_ui hf (Or.inr (Or.inr (Or.inr (Or.inr (Or.inr (Or.inl ⟨rfl, rfl⟩)))))) eM1
  have z0 : (0 : Int32).toInt = 0 := rfl
  have hJ := hJ.put (k := 10) (by decide) (rg_free rfl) eM1
  have rM1_1 := J_sl1 (M := M1) hJ
  have rM1_9 := J_sl9 (M := M1) hJ
  have mM1_1 : (M1.1 175 1).toInt = (M0.1 175 1).toInt := by rw [eM1, li_ui_at, if_pos rfl, if_neg (by decide)]
  have mM1_9 : (M1.1 175 9).toInt = (M0.1 175 9).toInt := by rw [eM1, li_ui_at, if_pos rfl, if_neg (by decide)]
  refine li_aload_n 0 dX12_spoke_5 rfl ?_
  refine li_iload_n 1 dX12_spoke_6 rfl ?_
  refine li_callV (n := 1) (As := [.int p1]) dX12_spoke_7 (k_X12_isOne (d - 1) (by omega) p1 M1 hJ ) (by omega) (Nat.le_of_ble_eq_true rfl) w_1648 w_1650 w_56 w_112 w_1651 (by decide +kernel) rfl (by decide) sh_175 rfl rfl (Nat.le_of_ble_eq_true rfl) (fun r M3 h4 => ?_)
  obtain ⟨qx2, h4, jM3⟩ := h4
  have hf := li_fs_trans hf h4 (fun i k h => False.elim h)
  have hJ := jM3
  have rM3_1 := J_sl1 (M := M3) hJ
  have rM3_9 := J_sl9 (M := M3) hJ
  have mM3_1 : (M3.1 175 1).toInt = (M1.1 175 1).toInt := tl_slot (h4.1 175 1 id)
  have mM3_9 : (M3.1 175 9).toInt = (M1.1 175 9).toInt := tl_slot (h4.1 175 9 id)
  rcases qx2 with ⟨rfl, qx2⟩ | ⟨rfl, qx2⟩
  · skip
    refine li_if_ne 15 dX12_spoke_10 (by decide) (fun c => ?_) (fun c => absurd c (by decide))
    refine li_aload_n 0 dX12_spoke_15 rfl ?_
    refine li_geti (k := 43) (N := 52) (T := TX12) (C0 := RX12) dX12_spoke_16 (by decide) sh_175 rfl rfl (by decide) li_in12 w_1447 ?_
    refine li_top (fun x6 ex6 => ?_)
    have gx6 := tl_rg x6
    have sx6 : x6.toInt = (M0.1 175 43).toInt := tl_slot (ex6.trans (hf.1 175 43 (show ¬ (175 = 181 ∨ 175 = 185 ∨ 175 = 198 ∨ 175 = 199 ∨ 175 = 1000 ∨ (175 = 175 ∧ 43 = 10) ∨ (175 = 175 ∧ 43 = 12) ∨ (175 = 175 ∧ 43 = 13) ∨ (175 = 175 ∧ 43 = 14) ∨ (175 = 175 ∧ 43 = 15) ∨ (175 = 175 ∧ 43 = 20) ∨ (175 = 175 ∧ 43 = 46) ∨ (175 = 175 ∧ 43 = 9)) by decide)))
    refine li_iload_n 1 dX12_spoke_19 rfl ?_
    refine li_callS (n := 2) (As := [.int x6, .int p1]) dX12_spoke_20 (k_X12_has (d - 1) (by omega) x6 p1 M3 hJ ) (by omega) (Nat.le_of_ble_eq_true rfl) w_1734 w_1735 w_112 w_1736 (by decide +kernel) rfl rfl (Nat.le_of_ble_eq_true rfl) (fun r M8 h9 => ?_)
    obtain ⟨qx7, h9, jM8⟩ := h9
    have hf := li_fs_trans hf h9 (fun i k h => False.elim h)
    have hJ := jM8
    have rM8_1 := J_sl1 (M := M8) hJ
    have rM8_9 := J_sl9 (M := M8) hJ
    have mM8_1 : (M8.1 175 1).toInt = (M3.1 175 1).toInt := tl_slot (h9.1 175 1 id)
    have mM8_9 : (M8.1 175 9).toInt = (M3.1 175 9).toInt := tl_slot (h9.1 175 9 id)
    rcases qx7 with ⟨rfl, qx7⟩ | ⟨rfl, qx7⟩
    · skip
      refine li_if_ne 29 dX12_spoke_23 (by decide) (fun c => ?_) (fun c => absurd c (by decide))
      refine li_aload_n 0 dX12_spoke_29 rfl ?_
      refine li_getr (k := 0) (N := 52) (T := TX12) (C0 := RX12) dX12_spoke_30 (by decide) sh_175 rfl rfl (by decide) (by decide) li_in12 w_1404 ?_
      refine li_iload_n 1 dX12_spoke_33 rfl ?_
      refine li_iald dX12_spoke_34 (by decide) sh_176 (tl_in (by omega)) ?_
      refine li_top (fun x11 ex11 => ?_)
      have gx11 := tl_rg x11
      try (have ox11 : (p1 : Int32).toInt % 51 = (p1 : Int32).toInt := by omega)
      have lx11 : ((p1 : Int32).toInt % 51 = 20 → 0 ≤ x11.toInt ∧ x11.toInt ≤ 6) ∧ (21 ≤ (p1 : Int32).toInt % 51 → ((p1 : Int32).toInt % 51 - 21) % 5 < 2 → 0 ≤ x11.toInt ∧ x11.toInt ≤ 5) := hJ.ldLed (by unfold li_led; omega) ex11 (by omega)
      refine li_aload_n 0 dX12_spoke_35 rfl ?_
      refine li_getr (k := 42) (N := 52) (T := TX12) (C0 := RX12) dX12_spoke_36 (by decide) sh_175 rfl rfl (by decide) (by decide) li_in12 w_1446 ?_
      refine li_iload_n 1 dX12_spoke_39 rfl ?_
      refine li_iald dX12_spoke_40 (by decide) sh_197 (tl_in (by omega)) ?_
      refine li_top (fun x12 ex12 => ?_)
      have gx12 := tl_rg x12
      refine li_isub dX12_spoke_41 ?_
      refine li_top (fun x13 ex13 => ?_)
      try (have tx13 : x13.toInt = (x11 : Int32).toInt - (x12 : Int32).toInt := tl_sub ex13 (by omega))
      refine li_istore_n [(2, .int x13), (0, .ref (Z.2.2 175)), (1, .int p1)] dX12_spoke_42 (by decide) rfl ?_
      refine li_aload_n 1 dX12_spoke_43 rfl ?_
      refine li_iconst 0 dX12_spoke_44 (by decide) ?_
      refine li_puti (k := 46) (N := 52) (T := TX12) (C0 := RX12) dX12_spoke_45 (by decide) sh_175 rfl rfl (by decide) li_in12 tyX12_ok nmX12 rfl rfl rfl rfl w_1450 ?_
      refine li_nm (fun M14 eM14 => ?_)
      have hf := li_fs_ui hf (Or.inr (Or.inr (Or.inr (Or.inr (Or.inr (Or.inr (Or.inr (Or.inr (Or.inr (Or.inr (Or.inr (Or.inl ⟨rfl, rfl⟩)))))))))))) eM14
      have z0 : (0 : Int32).toInt = 0 := rfl
      have hJ := hJ.put (k := 46) (by decide) (rg_free rfl) eM14
      have rM14_1 := J_sl1 (M := M14) hJ
      have rM14_9 := J_sl9 (M := M14) hJ
      have mM14_1 : (M14.1 175 1).toInt = (M8.1 175 1).toInt := by rw [eM14, li_ui_at, if_pos rfl, if_neg (by decide)]
      have mM14_9 : (M14.1 175 9).toInt = (M8.1 175 9).toInt := by rw [eM14, li_ui_at, if_pos rfl, if_neg (by decide)]
      refine li_iload_n 0 dX12_spoke_48 rfl ?_
      have J58 : ∀  (M16 : li_M), li_fs (fun i k => i = 181 ∨ i = 185 ∨ i = 198 ∨ i = 199 ∨ i = 1000 ∨ (i = 175 ∧ k = 10) ∨ (i = 175 ∧ k = 12) ∨ (i = 175 ∧ k = 13) ∨ (i = 175 ∧ k = 14) ∨ (i = 175 ∧ k = 15) ∨ (i = 175 ∧ k = 20) ∨ (i = 175 ∧ k = 46) ∨ (i = 175 ∧ k = 9)) M0 M16 → li_J M16 → li_T l Z YX12_spoke d 58 [(2, .int x13), (0, .ref (Z.2.2 175)), (1, .int p1)] [] M16 (fun r M' => (∃ x : Int32, r = some (.int x)) ∧ li_fs (fun i k => i = 181 ∨ i = 185 ∨ i = 198 ∨ i = 199 ∨ i = 1000 ∨ (i = 175 ∧ k = 10) ∨ (i = 175 ∧ k = 12) ∨ (i = 175 ∧ k = 13) ∨ (i = 175 ∧ k = 14) ∨ (i = 175 ∧ k = 15) ∨ (i = 175 ∧ k = 20) ∨ (i = 175 ∧ k = 46) ∨ (i = 175 ∧ k = 9)) M0 M' ∧ li_J M') := by
        intro  M16 hf hJ
        have rM16_1 := J_sl1 (M := M16) hJ
        have rM16_9 := J_sl9 (M := M16) hJ
        have mM16_1 : (M16.1 175 1).toInt = (M0.1 175 1).toInt := tl_slot (hf.1 175 1 (show ¬ (175 = 181 ∨ 175 = 185 ∨ 175 = 198 ∨ 175 = 199 ∨ 175 = 1000 ∨ (175 = 175 ∧ 1 = 10) ∨ (175 = 175 ∧ 1 = 12) ∨ (175 = 175 ∧ 1 = 13) ∨ (175 = 175 ∧ 1 = 14) ∨ (175 = 175 ∧ 1 = 15) ∨ (175 = 175 ∧ 1 = 20) ∨ (175 = 175 ∧ 1 = 46) ∨ (175 = 175 ∧ 1 = 9)) by decide))
        refine li_iconst (-1) dX12_spoke_58 (by decide) ?_
        refine li_istore_n [(3, .int (-1)), (2, .int x13), (0, .ref (Z.2.2 175)), (1, .int p1)] dX12_spoke_59 (by decide) rfl ?_
        refine li_iconst 1 dX12_spoke_60 (by decide) ?_
        refine li_aload_n 2 dX12_spoke_61 rfl ?_
        refine li_geti (k := 4) (N := 52) (T := TX12) (C0 := RX12) dX12_spoke_62 (by decide) sh_175 rfl rfl (by decide) li_in12 w_1408 ?_
        refine li_top (fun x17 ex17 => ?_)
        have gx17 : 0 ≤ x17.toInt ∧ x17.toInt ≤ 8 := by rw [ex17]; exact J_sl4 hJ
        have sx17 : x17.toInt = (M0.1 175 4).toInt := tl_slot (ex17.trans (hf.1 175 4 (show ¬ (175 = 181 ∨ 175 = 185 ∨ 175 = 198 ∨ 175 = 199 ∨ 175 = 1000 ∨ (175 = 175 ∧ 4 = 10) ∨ (175 = 175 ∧ 4 = 12) ∨ (175 = 175 ∧ 4 = 13) ∨ (175 = 175 ∧ 4 = 14) ∨ (175 = 175 ∧ 4 = 15) ∨ (175 = 175 ∧ 4 = 20) ∨ (175 = 175 ∧ 4 = 46) ∨ (175 = 175 ∧ 4 = 9)) by decide)))
        refine li_ishl dX12_spoke_65 ?_
        refine li_top (fun x18 ex18 => ?_)
        have z1 : (1 : Int32).toInt = 1 := rfl
        try (have tx18 := tl_shl255 ex18 (by omega))
        refine li_iconst 1 dX12_spoke_66 (by decide) ?_
        refine li_isub dX12_spoke_67 ?_
        refine li_top (fun x19 ex19 => ?_)
        have z1 : (1 : Int32).toInt = 1 := rfl
        try (have tx19 : x19.toInt = (x18 : Int32).toInt - (1 : Int32).toInt := tl_sub ex19 (by omega))
        refine li_istore [(4, .int x19), (3, .int (-1)), (2, .int x13), (0, .ref (Z.2.2 175)), (1, .int p1)] dX12_spoke_68 (by decide) rfl ?_
        refine li_iconst 0 dX12_spoke_70 (by decide) ?_
        refine li_istore [(5, .int 0), (4, .int x19), (3, .int (-1)), (2, .int x13), (0, .ref (Z.2.2 175)), (1, .int p1)] dX12_spoke_71 (by decide) rfl ?_
        have L73 : ∀ (n : Nat) (x20 : Int32) (x21 : Int32) (x22 : Int32) (M23 : li_M), (256 - (x20 : Int32).toInt).toNat < n → li_fs (fun i k => i = 181 ∨ i = 185 ∨ i = 198 ∨ i = 199 ∨ i = 1000 ∨ (i = 175 ∧ k = 10) ∨ (i = 175 ∧ k = 12) ∨ (i = 175 ∧ k = 13) ∨ (i = 175 ∧ k = 14) ∨ (i = 175 ∧ k = 15) ∨ (i = 175 ∧ k = 20) ∨ (i = 175 ∧ k = 46) ∨ (i = 175 ∧ k = 9)) M0 M23 → li_J M23 → 0 ≤ (x20 : Int32).toInt → li_T l Z YX12_spoke d 73 [(5, .int x20), (4, .int x21), (3, .int x22), (2, .int x13), (0, .ref (Z.2.2 175)), (1, .int p1)] [] M23 (fun r M' => (∃ x : Int32, r = some (.int x)) ∧ li_fs (fun i k => i = 181 ∨ i = 185 ∨ i = 198 ∨ i = 199 ∨ i = 1000 ∨ (i = 175 ∧ k = 10) ∨ (i = 175 ∧ k = 12) ∨ (i = 175 ∧ k = 13) ∨ (i = 175 ∧ k = 14) ∨ (i = 175 ∧ k = 15) ∨ (i = 175 ∧ k = 20) ∨ (i = 175 ∧ k = 46) ∨ (i = 175 ∧ k = 9)) M0 M' ∧ li_J M') := by
          intro n
          induction n with
          | zero => intro x20 x21 x22 M23 hn; exact absurd hn (Nat.not_lt_zero _)
          | succ n ih73 =>
            intro x20 x21 x22 M23 hn hf hJ hi
            have gx20 := tl_rg x20
            have gx21 := tl_rg x21
            have gx22 := tl_rg x22
            have rM23_1 := J_sl1 (M := M23) hJ
            have rM23_9 := J_sl9 (M := M23) hJ
            have mM23_1 : (M23.1 175 1).toInt = (M0.1 175 1).toInt := tl_slot (hf.1 175 1 (show ¬ (175 = 181 ∨ 175 = 185 ∨ 175 = 198 ∨ 175 = 199 ∨ 175 = 1000 ∨ (175 = 175 ∧ 1 = 10) ∨ (175 = 175 ∧ 1 = 12) ∨ (175 = 175 ∧ 1 = 13) ∨ (175 = 175 ∧ 1 = 14) ∨ (175 = 175 ∧ 1 = 15) ∨ (175 = 175 ∧ 1 = 20) ∨ (175 = 175 ∧ 1 = 46) ∨ (175 = 175 ∧ 1 = 9)) by decide))
            refine li_iload 0 dX12_spoke_73 rfl ?_
            refine li_sipush 256 dX12_spoke_75 (by decide) ?_
            refine li_icmp_ge 126 dX12_spoke_78 (by decide) (fun c24 => ?_) (fun c24 => ?_)
            · have tc24 : 256 ≤ x20.toInt := tl_le c24
              refine li_aload_n 4 dX12_spoke_126 rfl ?_
              refine li_iconst 0 dX12_spoke_127 (by decide) ?_
              refine li_puti (k := 9) (N := 52) (T := TX12) (C0 := RX12) dX12_spoke_128 (by decide) sh_175 rfl rfl (by decide) li_in12 tyX12_ok nmX12 rfl rfl rfl rfl w_1413 ?_
              refine li_nm (fun M25 eM25 => ?_)
              have hf := li_fs_ui hf (Or.inr (Or.inr (Or.inr (Or.inr (Or.inr (Or.inr (Or.inr (Or.inr (Or.inr (Or.inr (Or.inr (Or.inr (⟨rfl, rfl⟩))))))))))))) eM25
              have z0 : (0 : Int32).toInt = 0 := rfl
              have hJ := J_pt9 hJ (show 0 ≤ (0 : Int32).toInt ∧ (0 : Int32).toInt ≤ 20 by omega) eM25
              have rM25_1 := J_sl1 (M := M25) hJ
              have rM25_9 := J_sl9 (M := M25) hJ
              have mM25_1 : (M25.1 175 1).toInt = (M23.1 175 1).toInt := by rw [eM25, li_ui_at, if_pos rfl, if_neg (by decide)]
              have mM25_9 : (M25.1 175 9).toInt = 0 := by rw [eM25, li_ui_at, if_pos rfl, if_pos rfl]; rfl
              refine li_aload_n 4 dX12_spoke_131 rfl ?_
              refine li_iload_n 2 dX12_spoke_132 rfl ?_
              refine li_callV (n := 1) (As := [.int x22]) dX12_spoke_133 (k_X12_tell (d - 1) (by omega) x22 M25 hJ (by omega)) (by omega) (Nat.le_of_ble_eq_true rfl) w_1783 w_1785 w_77 w_112 w_1786 (by decide +kernel) rfl (by decide) sh_175 rfl rfl (Nat.le_of_ble_eq_true rfl) (fun r M27 h28 => ?_)
              obtain ⟨rfl, h28, jM27, nM27⟩ := h28
              have hf := li_fs_trans hf h28 (fun i k => fun h => Or.elim h (fun h => Or.inl h) (fun h => Or.inr (Or.inr (Or.inr (Or.inr (Or.inr (Or.inr (Or.inr (Or.inr (Or.inr (Or.inr (Or.inr (Or.inr h)))))))))))))
              have hJ := jM27
              have rM27_1 := J_sl1 (M := M27) hJ
              have rM27_9 := J_sl9 (M := M27) hJ
              have mM27_1 : (M27.1 175 1).toInt = (M25.1 175 1).toInt := tl_slot (h28.1 175 1 (show ¬ (175 = 181 ∨ (175 = 175 ∧ 1 = 9)) by decide))
              refine li_aload_n 4 dX12_spoke_136 rfl ?_
              refine li_aload_n 4 dX12_spoke_137 rfl ?_
              refine li_geti (k := 46) (N := 52) (T := TX12) (C0 := RX12) dX12_spoke_138 (by decide) sh_175 rfl rfl (by decide) li_in12 w_1450 ?_
              refine li_top (fun x29 ex29 => ?_)
              have gx29 := tl_rg x29
              have mx29 : x29.toInt = (M27.1 175 46).toInt := tl_slot ex29
              refine li_if_ne 148 dX12_spoke_141 (by decide) (fun c30 => ?_) (fun c30 => ?_)
              · have tc30 : ¬ x29.toInt = 0 := tl_ne c30
                refine li_iload 1 dX12_spoke_148 rfl ?_
                refine li_callV (n := 1) (As := [.int x21]) dX12_spoke_150 (k_X12_tell (d - 1) (by omega) x21 M27 hJ (by omega)) (by omega) (Nat.le_of_ble_eq_true rfl) w_1783 w_1785 w_77 w_112 w_1786 (by decide +kernel) rfl (by decide) sh_175 rfl rfl (Nat.le_of_ble_eq_true rfl) (fun r M32 h33 => ?_)
                obtain ⟨rfl, h33, jM32, nM32⟩ := h33
                have hf := li_fs_trans hf h33 (fun i k => fun h => Or.elim h (fun h => Or.inl h) (fun h => Or.inr (Or.inr (Or.inr (Or.inr (Or.inr (Or.inr (Or.inr (Or.inr (Or.inr (Or.inr (Or.inr (Or.inr h)))))))))))))
                have hJ := jM32
                have rM32_1 := J_sl1 (M := M32) hJ
                have rM32_9 := J_sl9 (M := M32) hJ
                have mM32_1 : (M32.1 175 1).toInt = (M27.1 175 1).toInt := tl_slot (h33.1 175 1 (show ¬ (175 = 181 ∨ (175 = 175 ∧ 1 = 9)) by decide))
                refine li_aload_n 4 dX12_spoke_153 rfl ?_
                refine li_geti (k := 46) (N := 52) (T := TX12) (C0 := RX12) dX12_spoke_154 (by decide) sh_175 rfl rfl (by decide) li_in12 w_1450 ?_
                refine li_top (fun x34 ex34 => ?_)
                have gx34 := tl_rg x34
                have mx34 : x34.toInt = (M32.1 175 46).toInt := tl_slot ex34
                exact li_iret dX12_spoke_157 rfl rfl ⟨⟨_, rfl⟩, hf, hJ⟩
              · have tc30 : x29.toInt = 0 := tl_eq c30
                refine li_iconst 0 dX12_spoke_144 (by decide) ?_
                refine li_goto 150 dX12_spoke_145 (by decide) ?_
                have z0 : (0 : Int32).toInt = 0 := rfl
                refine li_callV (n := 1) (As := [.int 0]) dX12_spoke_150 (k_X12_tell (d - 1) (by omega) 0 M27 hJ (by omega)) (by omega) (Nat.le_of_ble_eq_true rfl) w_1783 w_1785 w_77 w_112 w_1786 (by decide +kernel) rfl (by decide) sh_175 rfl rfl (Nat.le_of_ble_eq_true rfl) (fun r M36 h37 => ?_)
                obtain ⟨rfl, h37, jM36, nM36⟩ := h37
                have hf := li_fs_trans hf h37 (fun i k => fun h => Or.elim h (fun h => Or.inl h) (fun h => Or.inr (Or.inr (Or.inr (Or.inr (Or.inr (Or.inr (Or.inr (Or.inr (Or.inr (Or.inr (Or.inr (Or.inr h)))))))))))))
                have hJ := jM36
                have rM36_1 := J_sl1 (M := M36) hJ
                have rM36_9 := J_sl9 (M := M36) hJ
                have mM36_1 : (M36.1 175 1).toInt = (M27.1 175 1).toInt := tl_slot (h37.1 175 1 (show ¬ (175 = 181 ∨ (175 = 175 ∧ 1 = 9)) by decide))
                refine li_aload_n 4 dX12_spoke_153 rfl ?_
                refine li_geti (k := 46) (N := 52) (T := TX12) (C0 := RX12) dX12_spoke_154 (by decide) sh_175 rfl rfl (by decide) li_in12 w_1450 ?_
                refine li_top (fun x38 ex38 => ?_)
                have gx38 := tl_rg x38
                have mx38 : x38.toInt = (M36.1 175 46).toInt := tl_slot ex38
                exact li_iret dX12_spoke_157 rfl rfl ⟨⟨_, rfl⟩, hf, hJ⟩
            · have tc24 : x20.toInt < 256 := tl_nle c24
              refine li_aload_n 4 dX12_spoke_81 rfl ?_
              refine li_geti (k := 46) (N := 52) (T := TX12) (C0 := RX12) dX12_spoke_82 (by decide) sh_175 rfl rfl (by decide) li_in12 w_1450 ?_
              refine li_top (fun x39 ex39 => ?_)
              have gx39 := tl_rg x39
              have mx39 : x39.toInt = (M23.1 175 46).toInt := tl_slot ex39
              refine li_if_le 126 dX12_spoke_85 (by decide) (fun c40 => ?_) (fun c40 => ?_)
              · have tc40 : x39.toInt ≤ 0 := tl_le c40
                refine li_aload_n 4 dX12_spoke_126 rfl ?_
                refine li_iconst 0 dX12_spoke_127 (by decide) ?_
                refine li_puti (k := 9) (N := 52) (T := TX12) (C0 := RX12) dX12_spoke_128 (by decide) sh_175 rfl rfl (by decide) li_in12 tyX12_ok nmX12 rfl rfl rfl rfl w_1413 ?_
                refine li_nm (fun M41 eM41 => ?_)
                have hf := li_fs_ui hf (Or.inr (Or.inr (Or.inr (Or.inr (Or.inr (Or.inr (Or.inr (Or.inr (Or.inr (Or.inr (Or.inr (Or.inr (⟨rfl, rfl⟩))))))))))))) eM41
                have z0 : (0 : Int32).toInt = 0 := rfl
                have hJ := J_pt9 hJ (show 0 ≤ (0 : Int32).toInt ∧ (0 : Int32).toInt ≤ 20 by omega) eM41
                have rM41_1 := J_sl1 (M := M41) hJ
                have rM41_9 := J_sl9 (M := M41) hJ
                have mM41_1 : (M41.1 175 1).toInt = (M23.1 175 1).toInt := by rw [eM41, li_ui_at, if_pos rfl, if_neg (by decide)]
                have mM41_9 : (M41.1 175 9).toInt = 0 := by rw [eM41, li_ui_at, if_pos rfl, if_pos rfl]; rfl
                refine li_aload_n 4 dX12_spoke_131 rfl ?_
                refine li_iload_n 2 dX12_spoke_132 rfl ?_
                refine li_callV (n := 1) (As := [.int x22]) dX12_spoke_133 (k_X12_tell (d - 1) (by omega) x22 M41 hJ (by omega)) (by omega) (Nat.le_of_ble_eq_true rfl) w_1783 w_1785 w_77 w_112 w_1786 (by decide +kernel) rfl (by decide) sh_175 rfl rfl (Nat.le_of_ble_eq_true rfl) (fun r M43 h44 => ?_)
                obtain ⟨rfl, h44, jM43, nM43⟩ := h44
                have hf := li_fs_trans hf h44 (fun i k => fun h => Or.elim h (fun h => Or.inl h) (fun h => Or.inr (Or.inr (Or.inr (Or.inr (Or.inr (Or.inr (Or.inr (Or.inr (Or.inr (Or.inr (Or.inr (Or.inr h)))))))))))))
                have hJ := jM43
                have rM43_1 := J_sl1 (M := M43) hJ
                have rM43_9 := J_sl9 (M := M43) hJ
                have mM43_1 : (M43.1 175 1).toInt = (M41.1 175 1).toInt := tl_slot (h44.1 175 1 (show ¬ (175 = 181 ∨ (175 = 175 ∧ 1 = 9)) by decide))
                refine li_aload_n 4 dX12_spoke_136 rfl ?_
                refine li_aload_n 4 dX12_spoke_137 rfl ?_
                refine li_geti (k := 46) (N := 52) (T := TX12) (C0 := RX12) dX12_spoke_138 (by decide) sh_175 rfl rfl (by decide) li_in12 w_1450 ?_
                refine li_top (fun x45 ex45 => ?_)
                have gx45 := tl_rg x45
                have mx45 : x45.toInt = (M43.1 175 46).toInt := tl_slot ex45
                refine li_if_ne 148 dX12_spoke_141 (by decide) (fun c46 => ?_) (fun c46 => ?_)
                · have tc46 : ¬ x45.toInt = 0 := tl_ne c46
                  refine li_iload 1 dX12_spoke_148 rfl ?_
                  refine li_callV (n := 1) (As := [.int x21]) dX12_spoke_150 (k_X12_tell (d - 1) (by omega) x21 M43 hJ (by omega)) (by omega) (Nat.le_of_ble_eq_true rfl) w_1783 w_1785 w_77 w_112 w_1786 (by decide +kernel) rfl (by decide) sh_175 rfl rfl (Nat.le_of_ble_eq_true rfl) (fun r M48 h49 => ?_)
                  obtain ⟨rfl, h49, jM48, nM48⟩ := h49
                  have hf := li_fs_trans hf h49 (fun i k => fun h => Or.elim h (fun h => Or.inl h) (fun h => Or.inr (Or.inr (Or.inr (Or.inr (Or.inr (Or.inr (Or.inr (Or.inr (Or.inr (Or.inr (Or.inr (Or.inr h)))))))))))))
                  have hJ := jM48
                  have rM48_1 := J_sl1 (M := M48) hJ
                  have rM48_9 := J_sl9 (M := M48) hJ
                  have mM48_1 : (M48.1 175 1).toInt = (M43.1 175 1).toInt := tl_slot (h49.1 175 1 (show ¬ (175 = 181 ∨ (175 = 175 ∧ 1 = 9)) by decide))
                  refine li_aload_n 4 dX12_spoke_153 rfl ?_
                  refine li_geti (k := 46) (N := 52) (T := TX12) (C0 := RX12) dX12_spoke_154 (by decide) sh_175 rfl rfl (by decide) li_in12 w_1450 ?_
                  refine li_top (fun x50 ex50 => ?_)
                  have gx50 := tl_rg x50
                  have mx50 : x50.toInt = (M48.1 175 46).toInt := tl_slot ex50
                  exact li_iret dX12_spoke_157 rfl rfl ⟨⟨_, rfl⟩, hf, hJ⟩
                · have tc46 : x45.toInt = 0 := tl_eq c46
                  refine li_iconst 0 dX12_spoke_144 (by decide) ?_
                  refine li_goto 150 dX12_spoke_145 (by decide) ?_
                  have z0 : (0 : Int32).toInt = 0 := rfl
                  refine li_callV (n := 1) (As := [.int 0]) dX12_spoke_150 (k_X12_tell (d - 1) (by omega) 0 M43 hJ (by omega)) (by omega) (Nat.le_of_ble_eq_true rfl) w_1783 w_1785 w_77 w_112 w_1786 (by decide +kernel) rfl (by decide) sh_175 rfl rfl (Nat.le_of_ble_eq_true rfl) (fun r M52 h53 => ?_)
                  obtain ⟨rfl, h53, jM52, nM52⟩ := h53
                  have hf := li_fs_trans hf h53 (fun i k => fun h => Or.elim h (fun h => Or.inl h) (fun h => Or.inr (Or.inr (Or.inr (Or.inr (Or.inr (Or.inr (Or.inr (Or.inr (Or.inr (Or.inr (Or.inr (Or.inr h)))))))))))))
                  have hJ := jM52
                  have rM52_1 := J_sl1 (M := M52) hJ
                  have rM52_9 := J_sl9 (M := M52) hJ
                  have mM52_1 : (M52.1 175 1).toInt = (M43.1 175 1).toInt := tl_slot (h53.1 175 1 (show ¬ (175 = 181 ∨ (175 = 175 ∧ 1 = 9)) by decide))
                  refine li_aload_n 4 dX12_spoke_153 rfl ?_
                  refine li_geti (k := 46) (N := 52) (T := TX12) (C0 := RX12) dX12_spoke_154 (by decide) sh_175 rfl rfl (by decide) li_in12 w_1450 ?_
                  refine li_top (fun x54 ex54 => ?_)
                  have gx54 := tl_rg x54
                  have mx54 : x54.toInt = (M52.1 175 46).toInt := tl_slot ex54
                  exact li_iret dX12_spoke_157 rfl rfl ⟨⟨_, rfl⟩, hf, hJ⟩
              · have tc40 : 0 < x39.toInt := tl_nle c40
                refine li_aload_n 4 dX12_spoke_88 rfl ?_
                refine li_getr (k := 45) (N := 52) (T := TX12) (C0 := RX12) dX12_spoke_89 (by decide) sh_175 rfl rfl (by decide) (by decide) li_in12 w_1449 ?_
                refine li_iload 0 dX12_spoke_92 rfl ?_
                refine li_zald dX12_spoke_94 (by decide) sh_199 (tl_in (by omega)) ?_
                refine li_top (fun x55 ex55 => ?_)
                have gx55 := tl_rg x55
                have J120 : ∀ (x57 : Int32) (x58 : Int32) (M59 : li_M), li_fs (fun i k => i = 181 ∨ i = 185 ∨ i = 198 ∨ i = 199 ∨ i = 1000 ∨ (i = 175 ∧ k = 10) ∨ (i = 175 ∧ k = 12) ∨ (i = 175 ∧ k = 13) ∨ (i = 175 ∧ k = 14) ∨ (i = 175 ∧ k = 15) ∨ (i = 175 ∧ k = 20) ∨ (i = 175 ∧ k = 46) ∨ (i = 175 ∧ k = 9)) M0 M59 → li_J M59 → li_T l Z YX12_spoke d 120 [(5, .int x20), (4, .int x57), (3, .int x58), (2, .int x13), (0, .ref (Z.2.2 175)), (1, .int p1)] [] M59 (fun r M' => (∃ x : Int32, r = some (.int x)) ∧ li_fs (fun i k => i = 181 ∨ i = 185 ∨ i = 198 ∨ i = 199 ∨ i = 1000 ∨ (i = 175 ∧ k = 10) ∨ (i = 175 ∧ k = 12) ∨ (i = 175 ∧ k = 13) ∨ (i = 175 ∧ k = 14) ∨ (i = 175 ∧ k = 15) ∨ (i = 175 ∧ k = 20) ∨ (i = 175 ∧ k = 46) ∨ (i = 175 ∧ k = 9)) M0 M' ∧ li_J M') := by
                  intro x57 x58 M59 hf hJ
                  have gx57 := tl_rg x57
                  have gx58 := tl_rg x58
                  have rM59_1 := J_sl1 (M := M59) hJ
                  have rM59_9 := J_sl9 (M := M59) hJ
                  have mM59_1 : (M59.1 175 1).toInt = (M0.1 175 1).toInt := tl_slot (hf.1 175 1 (show ¬ (175 = 181 ∨ 175 = 185 ∨ 175 = 198 ∨ 175 = 199 ∨ 175 = 1000 ∨ (175 = 175 ∧ 1 = 10) ∨ (175 = 175 ∧ 1 = 12) ∨ (175 = 175 ∧ 1 = 13) ∨ (175 = 175 ∧ 1 = 14) ∨ (175 = 175 ∧ 1 = 15) ∨ (175 = 175 ∧ 1 = 20) ∨ (175 = 175 ∧ 1 = 46) ∨ (175 = 175 ∧ 1 = 9)) by decide))
                  obtain ⟨x60, ex60⟩ : ∃ y : Int32, y = x20 + 1 := ⟨_, rfl⟩
                  have z1 : (1 : Int32).toInt = 1 := rfl
                  try (have tx60 : x60.toInt = (x20 : Int32).toInt + (1 : Int32).toInt := tl_add ex60 (by omega))
                  refine li_iinc 0 [(5, .int x60), (4, .int x57), (3, .int x58), (2, .int x13), (0, .ref (Z.2.2 175)), (1, .int p1)] x60 dX12_spoke_120 rfl (by rw [ex60]; rfl) (by decide) rfl ?_
                  refine li_goto 73 dX12_spoke_123 (by decide) ?_
                  refine li_pick [0, 1, 2, 3, 4, 5] [(5, .int x60), (4, .int x57), (3, .int x58), (2, .int x13), (0, .ref (Z.2.2 175)), (1, .int p1)] rfl ?_
                  exact ih73 x60 x57 x58 M59 (by omega) hf hJ (by omega)
                refine li_if_ne 101 dX12_spoke_95 (by decide) (fun c56 => ?_) (fun c56 => ?_)
                · have tc56 : ¬ x55.toInt = 0 := tl_ne c56
                  refine li_iload_n 2 dX12_spoke_101 rfl ?_
                  refine li_iconst (-1) dX12_spoke_102 (by decide) ?_
                  have J112 : ∀ (x62 : Int32) (M63 : li_M), li_fs (fun i k => i = 181 ∨ i = 185 ∨ i = 198 ∨ i = 199 ∨ i = 1000 ∨ (i = 175 ∧ k = 10) ∨ (i = 175 ∧ k = 12) ∨ (i = 175 ∧ k = 13) ∨ (i = 175 ∧ k = 14) ∨ (i = 175 ∧ k = 15) ∨ (i = 175 ∧ k = 20) ∨ (i = 175 ∧ k = 46) ∨ (i = 175 ∧ k = 9)) M0 M63 → li_J M63 → li_T l Z YX12_spoke d 112 [(5, .int x20), (4, .int x21), (3, .int x22), (2, .int x13), (0, .ref (Z.2.2 175)), (1, .int p1)] [.int x62] M63 (fun r M' => (∃ x : Int32, r = some (.int x)) ∧ li_fs (fun i k => i = 181 ∨ i = 185 ∨ i = 198 ∨ i = 199 ∨ i = 1000 ∨ (i = 175 ∧ k = 10) ∨ (i = 175 ∧ k = 12) ∨ (i = 175 ∧ k = 13) ∨ (i = 175 ∧ k = 14) ∨ (i = 175 ∧ k = 15) ∨ (i = 175 ∧ k = 20) ∨ (i = 175 ∧ k = 46) ∨ (i = 175 ∧ k = 9)) M0 M' ∧ li_J M') := by
                    intro x62 M63 hf hJ
                    have gx62 := tl_rg x62
                    have rM63_1 := J_sl1 (M := M63) hJ
                    have rM63_9 := J_sl9 (M := M63) hJ
                    have mM63_1 : (M63.1 175 1).toInt = (M0.1 175 1).toInt := tl_slot (hf.1 175 1 (show ¬ (175 = 181 ∨ 175 = 185 ∨ 175 = 198 ∨ 175 = 199 ∨ 175 = 1000 ∨ (175 = 175 ∧ 1 = 10) ∨ (175 = 175 ∧ 1 = 12) ∨ (175 = 175 ∧ 1 = 13) ∨ (175 = 175 ∧ 1 = 14) ∨ (175 = 175 ∧ 1 = 15) ∨ (175 = 175 ∧ 1 = 20) ∨ (175 = 175 ∧ 1 = 46) ∨ (175 = 175 ∧ 1 = 9)) by decide))
                    refine li_istore_n [(3, .int x62), (5, .int x20), (4, .int x21), (2, .int x13), (0, .ref (Z.2.2 175)), (1, .int p1)] dX12_spoke_112 (by decide) rfl ?_
                    refine li_iload 2 dX12_spoke_113 rfl ?_
                    refine li_iload 1 dX12_spoke_115 rfl ?_
                    refine li_iand dX12_spoke_117 ?_
                    refine li_top (fun x64 ex64 => ?_)
                    first | (have tx64 := tl_andR ex64 (by omega)) | (have tx64 := tl_andL ex64 (by omega)) | skip
                    refine li_istore [(4, .int x64), (3, .int x62), (5, .int x20), (2, .int x13), (0, .ref (Z.2.2 175)), (1, .int p1)] dX12_spoke_118 (by decide) rfl ?_
                    refine li_pick [2, 0, 1, 3, 4, 5] [(5, .int x20), (4, .int x64), (3, .int x62), (2, .int x13), (0, .ref (Z.2.2 175)), (1, .int p1)] rfl ?_
                    exact J120 x64 x62 M63 hf hJ
                  refine li_icmp_ne 111 dX12_spoke_103 (by decide) (fun c61 => ?_) (fun c61 => ?_)
                  · have tc61 : ¬ x22.toInt = (-1) := tl_ne c61
                    refine li_iload_n 2 dX12_spoke_111 rfl ?_
                    refine li_pick [0, 1, 2, 3, 4, 5] [(5, .int x20), (4, .int x21), (3, .int x22), (2, .int x13), (0, .ref (Z.2.2 175)), (1, .int p1)] rfl ?_
                    exact J112 x22 M23 hf hJ
                  · have tc61 : x22.toInt = (-1) := tl_eq c61
                    refine li_iload 0 dX12_spoke_106 rfl ?_
                    refine li_goto 112 dX12_spoke_108 (by decide) ?_
                    refine li_pick [0, 1, 2, 3, 4, 5] [(5, .int x20), (4, .int x21), (3, .int x22), (2, .int x13), (0, .ref (Z.2.2 175)), (1, .int p1)] rfl ?_
                    exact J112 x20 M23 hf hJ
                · have tc56 : x55.toInt = 0 := tl_eq c56
                  refine li_goto 120 dX12_spoke_98 (by decide) ?_
                  refine li_pick [0, 1, 2, 3, 4, 5] [(5, .int x20), (4, .int x21), (3, .int x22), (2, .int x13), (0, .ref (Z.2.2 175)), (1, .int p1)] rfl ?_
                  exact J120 x21 x22 M23 hf hJ
        have z0 : (0 : Int32).toInt = 0 := rfl
        have zm1 : ((-1) : Int32).toInt = -1 := rfl
        exact L73 _ 0 x19 (-1) M16 (Nat.lt_succ_self _) hf hJ (by omega)
      refine li_if_lt 58 dX12_spoke_49 (by decide) (fun c15 => ?_) (fun c15 => ?_)
      · have tc15 : x13.toInt < 0 := tl_lt c15
        refine li_pick [0, 1, 2] [(2, .int x13), (0, .ref (Z.2.2 175)), (1, .int p1)] rfl ?_
        exact J58  M14 hf hJ
      · have tc15 : 0 ≤ x13.toInt := tl_nlt c15
        refine li_aload_n 1 dX12_spoke_52 rfl ?_
        refine li_iload_n 2 dX12_spoke_53 rfl ?_
        refine li_iload_n 0 dX12_spoke_54 rfl ?_
        refine li_callV (n := 2) (As := [.int p1, .int x13]) dX12_spoke_55 (k_X12_markCosts (d - 1) (by omega) p1 x13 M14 hJ (by omega)) (by omega) (Nat.le_of_ble_eq_true rfl) w_1931 w_1933 w_95 w_112 w_1934 (by decide +kernel) rfl (by decide) sh_175 rfl rfl (Nat.le_of_ble_eq_true rfl) (fun r M66 h67 => ?_)
        obtain ⟨rfl, h67, jM66⟩ := h67
        have hf := li_fs_trans hf h67 (fun i k => fun h => Or.elim h (fun h => Or.inr (Or.inl h)) (fun h => Or.elim h (fun h => Or.inr (Or.inr (Or.inl h))) (fun h => Or.elim h (fun h => Or.inr (Or.inr (Or.inr (Or.inl h)))) (fun h => Or.elim h (fun h => Or.inr (Or.inr (Or.inr (Or.inr (Or.inl h))))) (fun h => Or.elim h (fun h => Or.inr (Or.inr (Or.inr (Or.inr (Or.inr (Or.inr (Or.inl h))))))) (fun h => Or.elim h (fun h => Or.inr (Or.inr (Or.inr (Or.inr (Or.inr (Or.inr (Or.inr (Or.inl h)))))))) (fun h => Or.elim h (fun h => Or.inr (Or.inr (Or.inr (Or.inr (Or.inr (Or.inr (Or.inr (Or.inr (Or.inl h))))))))) (fun h => Or.elim h (fun h => Or.inr (Or.inr (Or.inr (Or.inr (Or.inr (Or.inr (Or.inr (Or.inr (Or.inr (Or.inl h)))))))))) (fun h => Or.elim h (fun h => Or.inr (Or.inr (Or.inr (Or.inr (Or.inr (Or.inr (Or.inr (Or.inr (Or.inr (Or.inr (Or.inl h))))))))))) (fun h => Or.inr (Or.inr (Or.inr (Or.inr (Or.inr (Or.inr (Or.inr (Or.inr (Or.inr (Or.inr (Or.inr (Or.inl h)))))))))))))))))))))
        have hJ := jM66
        have rM66_1 := J_sl1 (M := M66) hJ
        have rM66_9 := J_sl9 (M := M66) hJ
        have mM66_1 : (M66.1 175 1).toInt = (M14.1 175 1).toInt := tl_slot (h67.1 175 1 (show ¬ (175 = 185 ∨ 175 = 198 ∨ 175 = 199 ∨ 175 = 1000 ∨ (175 = 175 ∧ 1 = 12) ∨ (175 = 175 ∧ 1 = 13) ∨ (175 = 175 ∧ 1 = 14) ∨ (175 = 175 ∧ 1 = 15) ∨ (175 = 175 ∧ 1 = 20) ∨ (175 = 175 ∧ 1 = 46)) by decide))
        have mM66_9 : (M66.1 175 9).toInt = (M14.1 175 9).toInt := tl_slot (h67.1 175 9 (show ¬ (175 = 185 ∨ 175 = 198 ∨ 175 = 199 ∨ 175 = 1000 ∨ (175 = 175 ∧ 9 = 12) ∨ (175 = 175 ∧ 9 = 13) ∨ (175 = 175 ∧ 9 = 14) ∨ (175 = 175 ∧ 9 = 15) ∨ (175 = 175 ∧ 9 = 20) ∨ (175 = 175 ∧ 9 = 46)) by decide))
        refine li_pick [0, 1, 2] [(2, .int x13), (0, .ref (Z.2.2 175)), (1, .int p1)] rfl ?_
        exact J58  M66 hf hJ
    · skip
      refine li_if_ne 29 dX12_spoke_23 (by decide) (fun c => absurd rfl c) (fun c => ?_)
      refine li_bipush (-2) dX12_spoke_26 (by decide) ?_
      have zm2 : ((-2) : Int32).toInt = -2 := rfl
      exact li_iret dX12_spoke_28 rfl rfl ⟨⟨_, rfl⟩, hf, hJ⟩
  · skip
    refine li_if_ne 15 dX12_spoke_10 (by decide) (fun c => absurd rfl c) (fun c => ?_)
    refine li_iconst (-1) dX12_spoke_13 (by decide) ?_
    have zm1 : ((-1) : Int32).toInt = -1 := rfl
    exact li_iret dX12_spoke_14 rfl rfl ⟨⟨_, rfl⟩, hf, hJ⟩
set_option maxRecDepth 100000 in
set_option maxHeartbeats 4000000 in
theorem k_X12_look {l : Launch} {Z : li_Z} (d : Nat) (hd : 342 ≤ d) (M0 : li_M) (hJ : li_J M0) : li_Met l Z YX12_look d [.ref (Z.2.2 175)] M0 (fun r M' => (∃ x : Int32, r = some (.int x)) ∧ li_fs (fun i k => i = 181 ∨ i = 185 ∨ i = 198 ∨ i = 199 ∨ i = 1000 ∨ (i = 175 ∧ k = 10) ∨ (i = 175 ∧ k = 12) ∨ (i = 175 ∧ k = 13) ∨ (i = 175 ∧ k = 14) ∨ (i = 175 ∧ k = 15) ∨ (i = 175 ∧ k = 20) ∨ (i = 175 ∧ k = 46) ∨ (i = 175 ∧ k = 9)) M0 M' ∧ li_J M') := by
  refine li_enter (by decide +kernel) (Nat.le_of_ble_eq_true rfl) ?_
  show li_T l Z YX12_look d 0 [(0, .ref (Z.2.2 175))] [] M0 _
  have hf : li_fs (fun i k => i = 181 ∨ i = 185 ∨ i = 198 ∨ i = 199 ∨ i = 1000 ∨ (i = 175 ∧ k = 10) ∨ (i = 175 ∧ k = 12) ∨ (i = 175 ∧ k = 13) ∨ (i = 175 ∧ k = 14) ∨ (i = 175 ∧ k = 15) ∨ (i = 175 ∧ k = 20) ∨ (i = 175 ∧ k = 46) ∨ (i = 175 ∧ k = 9)) M0 M0 := li_fs_refl
  have rM0_9 := J_sl9 (M := M0) hJ
  refine li_aload_n 0 dX12_look_0 rfl ?_
  refine li_iconst 0 dX12_look_1 (by decide) ?_
  refine li_puti (k := 10) (N := 52) (T := TX12) (C0 := RX12) dX12_look_2 (by decide) sh_175 rfl rfl (by decide) li_in12 tyX12_ok nmX12 rfl rfl rfl rfl w_1414 ?_
  refine li_nm (fun M1 eM1 => ?_)
  have hf := li_fs_ui hf (Or.inr (Or.inr (Or.inr (Or.inr (Or.inr (Or.inl ⟨rfl, rfl⟩)))))) eM1
  have z0 : (0 : Int32).toInt = 0 := rfl
  have hJ := hJ.put (k := 10) (by decide) (rg_free rfl) eM1
  have rM1_9 := J_sl9 (M := M1) hJ
  have mM1_9 : (M1.1 175 9).toInt = (M0.1 175 9).toInt := by rw [eM1, li_ui_at, if_pos rfl, if_neg (by decide)]
  refine li_bipush (-2) dX12_look_5 (by decide) ?_
  refine li_istore_n [(1, .int (-2)), (0, .ref (Z.2.2 175))] dX12_look_7 (by decide) rfl ?_
  refine li_iconst 0 dX12_look_8 (by decide) ?_
  refine li_istore_n [(2, .int 0), (1, .int (-2)), (0, .ref (Z.2.2 175))] dX12_look_9 (by decide) rfl ?_
  refine li_iconst 0 dX12_look_10 (by decide) ?_
  refine li_istore_n [(3, .int 0), (2, .int 0), (1, .int (-2)), (0, .ref (Z.2.2 175))] dX12_look_11 (by decide) rfl ?_
  have L12 : ∀ (n : Nat) (x2 : Int32) (x3 : Int32) (x4 : Int32) (M5 : li_M), (6 - (x2 : Int32).toInt).toNat < n → li_fs (fun i k => i = 181 ∨ i = 185 ∨ i = 198 ∨ i = 199 ∨ i = 1000 ∨ (i = 175 ∧ k = 10) ∨ (i = 175 ∧ k = 12) ∨ (i = 175 ∧ k = 13) ∨ (i = 175 ∧ k = 14) ∨ (i = 175 ∧ k = 15) ∨ (i = 175 ∧ k = 20) ∨ (i = 175 ∧ k = 46) ∨ (i = 175 ∧ k = 9)) M0 M5 → li_J M5 → 0 ≤ (x2 : Int32).toInt → li_T l Z YX12_look d 12 [(3, .int x2), (2, .int x3), (1, .int x4), (0, .ref (Z.2.2 175))] [] M5 (fun r M' => (∃ x : Int32, r = some (.int x)) ∧ li_fs (fun i k => i = 181 ∨ i = 185 ∨ i = 198 ∨ i = 199 ∨ i = 1000 ∨ (i = 175 ∧ k = 10) ∨ (i = 175 ∧ k = 12) ∨ (i = 175 ∧ k = 13) ∨ (i = 175 ∧ k = 14) ∨ (i = 175 ∧ k = 15) ∨ (i = 175 ∧ k = 20) ∨ (i = 175 ∧ k = 46) ∨ (i = 175 ∧ k = 9)) M0 M' ∧ li_J M') := by
    intro n
    induction n with
    | zero => intro x2 x3 x4 M5 hn; exact absurd hn (Nat.not_lt_zero _)
    | succ n ih12 =>
      intro x2 x3 x4 M5 hn hf hJ hi
      have gx2 := tl_rg x2
      have gx3 := tl_rg x3
      have gx4 := tl_rg x4
      have rM5_9 := J_sl9 (M := M5) hJ
      refine li_iload_n 0 dX12_look_12 rfl ?_
      refine li_aload_n 3 dX12_look_13 rfl ?_
      refine li_geti (k := 1) (N := 52) (T := TX12) (C0 := RX12) dX12_look_14 (by decide) sh_175 rfl rfl (by decide) li_in12 w_1405 ?_
      refine li_top (fun x6 ex6 => ?_)
      have gx6 : 0 ≤ x6.toInt ∧ x6.toInt ≤ 6 := by rw [ex6]; exact J_sl1 hJ
      have sx6 : x6.toInt = (M0.1 175 1).toInt := tl_slot (ex6.trans (hf.1 175 1 (show ¬ (175 = 181 ∨ 175 = 185 ∨ 175 = 198 ∨ 175 = 199 ∨ 175 = 1000 ∨ (175 = 175 ∧ 1 = 10) ∨ (175 = 175 ∧ 1 = 12) ∨ (175 = 175 ∧ 1 = 13) ∨ (175 = 175 ∧ 1 = 14) ∨ (175 = 175 ∧ 1 = 15) ∨ (175 = 175 ∧ 1 = 20) ∨ (175 = 175 ∧ 1 = 46) ∨ (175 = 175 ∧ 1 = 9)) by decide)))
      refine li_icmp_ge 64 dX12_look_17 (by decide) (fun c7 => ?_) (fun c7 => ?_)
      · have tc7 : x6.toInt ≤ x2.toInt := tl_le c7
        refine li_iload_n 2 dX12_look_64 rfl ?_
        refine li_if_ge 71 dX12_look_65 (by decide) (fun c8 => ?_) (fun c8 => ?_)
        · have tc8 : 0 ≤ x4.toInt := tl_le c8
          refine li_aload_n 3 dX12_look_71 rfl ?_
          refine li_iconst 0 dX12_look_72 (by decide) ?_
          refine li_puti (k := 9) (N := 52) (T := TX12) (C0 := RX12) dX12_look_73 (by decide) sh_175 rfl rfl (by decide) li_in12 tyX12_ok nmX12 rfl rfl rfl rfl w_1413 ?_
          refine li_nm (fun M9 eM9 => ?_)
          have hf := li_fs_ui hf (Or.inr (Or.inr (Or.inr (Or.inr (Or.inr (Or.inr (Or.inr (Or.inr (Or.inr (Or.inr (Or.inr (Or.inr (⟨rfl, rfl⟩))))))))))))) eM9
          have z0 : (0 : Int32).toInt = 0 := rfl
          have hJ := J_pt9 hJ (show 0 ≤ (0 : Int32).toInt ∧ (0 : Int32).toInt ≤ 20 by omega) eM9
          have rM9_9 := J_sl9 (M := M9) hJ
          have mM9_9 : (M9.1 175 9).toInt = 0 := by rw [eM9, li_ui_at, if_pos rfl, if_pos rfl]; rfl
          refine li_aload_n 3 dX12_look_76 rfl ?_
          refine li_iload_n 1 dX12_look_77 rfl ?_
          refine li_callV (n := 1) (As := [.int x3]) dX12_look_78 (k_X12_tell (d - 1) (by omega) x3 M9 hJ (by omega)) (by omega) (Nat.le_of_ble_eq_true rfl) w_1783 w_1785 w_77 w_112 w_1786 (by decide +kernel) rfl (by decide) sh_175 rfl rfl (Nat.le_of_ble_eq_true rfl) (fun r M11 h12 => ?_)
          obtain ⟨rfl, h12, jM11, nM11⟩ := h12
          have hf := li_fs_trans hf h12 (fun i k => fun h => Or.elim h (fun h => Or.inl h) (fun h => Or.inr (Or.inr (Or.inr (Or.inr (Or.inr (Or.inr (Or.inr (Or.inr (Or.inr (Or.inr (Or.inr (Or.inr h)))))))))))))
          have hJ := jM11
          have rM11_9 := J_sl9 (M := M11) hJ
          refine li_iload_n 2 dX12_look_81 rfl ?_
          exact li_iret dX12_look_82 rfl rfl ⟨⟨_, rfl⟩, hf, hJ⟩
        · have tc8 : x4.toInt < 0 := tl_nle c8
          refine li_bipush (-2) dX12_look_68 (by decide) ?_
          have zm2 : ((-2) : Int32).toInt = -2 := rfl
          exact li_iret dX12_look_70 rfl rfl ⟨⟨_, rfl⟩, hf, hJ⟩
      · have tc7 : x2.toInt < x6.toInt := tl_nle c7
        refine li_aload_n 3 dX12_look_20 rfl ?_
        refine li_geti (k := 43) (N := 52) (T := TX12) (C0 := RX12) dX12_look_21 (by decide) sh_175 rfl rfl (by decide) li_in12 w_1447 ?_
        refine li_top (fun x13 ex13 => ?_)
        have gx13 := tl_rg x13
        have sx13 : x13.toInt = (M0.1 175 43).toInt := tl_slot (ex13.trans (hf.1 175 43 (show ¬ (175 = 181 ∨ 175 = 185 ∨ 175 = 198 ∨ 175 = 199 ∨ 175 = 1000 ∨ (175 = 175 ∧ 43 = 10) ∨ (175 = 175 ∧ 43 = 12) ∨ (175 = 175 ∧ 43 = 13) ∨ (175 = 175 ∧ 43 = 14) ∨ (175 = 175 ∧ 43 = 15) ∨ (175 = 175 ∧ 43 = 20) ∨ (175 = 175 ∧ 43 = 46) ∨ (175 = 175 ∧ 43 = 9)) by decide)))
        refine li_iload_n 0 dX12_look_24 rfl ?_
        refine li_callS (n := 2) (As := [.int x13, .int x2]) dX12_look_25 (k_X12_has (d - 1) (by omega) x13 x2 M5 hJ ) (by omega) (Nat.le_of_ble_eq_true rfl) w_1734 w_1735 w_112 w_1736 (by decide +kernel) rfl rfl (Nat.le_of_ble_eq_true rfl) (fun r M15 h16 => ?_)
        obtain ⟨qx14, h16, jM15⟩ := h16
        have hf := li_fs_trans hf h16 (fun i k h => False.elim h)
        have hJ := jM15
        have rM15_9 := J_sl9 (M := M15) hJ
        have mM15_9 : (M15.1 175 9).toInt = (M5.1 175 9).toInt := tl_slot (h16.1 175 9 id)
        rcases qx14 with ⟨rfl, qx14⟩ | ⟨rfl, qx14⟩
        · skip
          refine li_if_eq 34 dX12_look_28 (by decide) (fun c => absurd c (by decide)) (fun c => ?_)
          refine li_goto 58 dX12_look_31 (by decide) ?_
          obtain ⟨x18, ex18⟩ : ∃ y : Int32, y = x2 + 1 := ⟨_, rfl⟩
          have z1 : (1 : Int32).toInt = 1 := rfl
          try (have tx18 : x18.toInt = (x2 : Int32).toInt + (1 : Int32).toInt := tl_add ex18 (by omega))
          refine li_iinc 0 [(3, .int x18), (2, .int x3), (1, .int x4), (0, .ref (Z.2.2 175))] x18 dX12_look_58 rfl (by rw [ex18]; rfl) (by decide) rfl ?_
          refine li_goto 12 dX12_look_61 (by decide) ?_
          refine li_pick [0, 1, 2, 3] [(3, .int x18), (2, .int x3), (1, .int x4), (0, .ref (Z.2.2 175))] rfl ?_
          exact ih12 x18 x3 x4 M15 (by omega) hf hJ (by omega)
        · skip
          refine li_if_eq 34 dX12_look_28 (by decide) (fun c => ?_) (fun c => absurd rfl c)
          refine li_aload_n 3 dX12_look_34 rfl ?_
          refine li_iload_n 0 dX12_look_35 rfl ?_
          refine li_iconst (-1) dX12_look_36 (by decide) ?_
          have zm1 : ((-1) : Int32).toInt = -1 := rfl
          refine li_callV (n := 2) (As := [.int x2, .int (-1)]) dX12_look_37 (k_X12_markCosts (d - 1) (by omega) x2 (-1) M15 hJ (by omega)) (by omega) (Nat.le_of_ble_eq_true rfl) w_1931 w_1933 w_95 w_112 w_1934 (by decide +kernel) rfl (by decide) sh_175 rfl rfl (Nat.le_of_ble_eq_true rfl) (fun r M21 h22 => ?_)
          obtain ⟨rfl, h22, jM21⟩ := h22
          have hf := li_fs_trans hf h22 (fun i k => fun h => Or.elim h (fun h => Or.inr (Or.inl h)) (fun h => Or.elim h (fun h => Or.inr (Or.inr (Or.inl h))) (fun h => Or.elim h (fun h => Or.inr (Or.inr (Or.inr (Or.inl h)))) (fun h => Or.elim h (fun h => Or.inr (Or.inr (Or.inr (Or.inr (Or.inl h))))) (fun h => Or.elim h (fun h => Or.inr (Or.inr (Or.inr (Or.inr (Or.inr (Or.inr (Or.inl h))))))) (fun h => Or.elim h (fun h => Or.inr (Or.inr (Or.inr (Or.inr (Or.inr (Or.inr (Or.inr (Or.inl h)))))))) (fun h => Or.elim h (fun h => Or.inr (Or.inr (Or.inr (Or.inr (Or.inr (Or.inr (Or.inr (Or.inr (Or.inl h))))))))) (fun h => Or.elim h (fun h => Or.inr (Or.inr (Or.inr (Or.inr (Or.inr (Or.inr (Or.inr (Or.inr (Or.inr (Or.inl h)))))))))) (fun h => Or.elim h (fun h => Or.inr (Or.inr (Or.inr (Or.inr (Or.inr (Or.inr (Or.inr (Or.inr (Or.inr (Or.inr (Or.inl h))))))))))) (fun h => Or.inr (Or.inr (Or.inr (Or.inr (Or.inr (Or.inr (Or.inr (Or.inr (Or.inr (Or.inr (Or.inr (Or.inl h)))))))))))))))))))))
          have hJ := jM21
          have rM21_9 := J_sl9 (M := M21) hJ
          have mM21_9 : (M21.1 175 9).toInt = (M15.1 175 9).toInt := tl_slot (h22.1 175 9 (show ¬ (175 = 185 ∨ 175 = 198 ∨ 175 = 199 ∨ 175 = 1000 ∨ (175 = 175 ∧ 9 = 12) ∨ (175 = 175 ∧ 9 = 13) ∨ (175 = 175 ∧ 9 = 14) ∨ (175 = 175 ∧ 9 = 15) ∨ (175 = 175 ∧ 9 = 20) ∨ (175 = 175 ∧ 9 = 46)) by decide))
          refine li_aload_n 3 dX12_look_40 rfl ?_
          refine li_geti (k := 46) (N := 52) (T := TX12) (C0 := RX12) dX12_look_41 (by decide) sh_175 rfl rfl (by decide) li_in12 w_1450 ?_
          refine li_top (fun x23 ex23 => ?_)
          have gx23 := tl_rg x23
          have mx23 : x23.toInt = (M21.1 175 46).toInt := tl_slot ex23
          refine li_iload_n 1 dX12_look_44 rfl ?_
          have J58 : ∀ (x25 : Int32) (x26 : Int32) (M27 : li_M), li_fs (fun i k => i = 181 ∨ i = 185 ∨ i = 198 ∨ i = 199 ∨ i = 1000 ∨ (i = 175 ∧ k = 10) ∨ (i = 175 ∧ k = 12) ∨ (i = 175 ∧ k = 13) ∨ (i = 175 ∧ k = 14) ∨ (i = 175 ∧ k = 15) ∨ (i = 175 ∧ k = 20) ∨ (i = 175 ∧ k = 46) ∨ (i = 175 ∧ k = 9)) M0 M27 → li_J M27 → li_T l Z YX12_look d 58 [(3, .int x2), (2, .int x25), (1, .int x26), (0, .ref (Z.2.2 175))] [] M27 (fun r M' => (∃ x : Int32, r = some (.int x)) ∧ li_fs (fun i k => i = 181 ∨ i = 185 ∨ i = 198 ∨ i = 199 ∨ i = 1000 ∨ (i = 175 ∧ k = 10) ∨ (i = 175 ∧ k = 12) ∨ (i = 175 ∧ k = 13) ∨ (i = 175 ∧ k = 14) ∨ (i = 175 ∧ k = 15) ∨ (i = 175 ∧ k = 20) ∨ (i = 175 ∧ k = 46) ∨ (i = 175 ∧ k = 9)) M0 M' ∧ li_J M') := by
            intro x25 x26 M27 hf hJ
            have gx25 := tl_rg x25
            have gx26 := tl_rg x26
            have rM27_9 := J_sl9 (M := M27) hJ
            obtain ⟨x28, ex28⟩ : ∃ y : Int32, y = x2 + 1 := ⟨_, rfl⟩
            have z1 : (1 : Int32).toInt = 1 := rfl
            try (have tx28 : x28.toInt = (x2 : Int32).toInt + (1 : Int32).toInt := tl_add ex28 (by omega))
            refine li_iinc 0 [(3, .int x28), (2, .int x25), (1, .int x26), (0, .ref (Z.2.2 175))] x28 dX12_look_58 rfl (by rw [ex28]; rfl) (by decide) rfl ?_
            refine li_goto 12 dX12_look_61 (by decide) ?_
            refine li_pick [0, 1, 2, 3] [(3, .int x28), (2, .int x25), (1, .int x26), (0, .ref (Z.2.2 175))] rfl ?_
            exact ih12 x28 x25 x26 M27 (by omega) hf hJ (by omega)
          refine li_icmp_gt 51 dX12_look_45 (by decide) (fun c24 => ?_) (fun c24 => ?_)
          · have tc24 : x3.toInt < x23.toInt := tl_lt c24
            refine li_iload_n 0 dX12_look_51 rfl ?_
            refine li_istore_n [(1, .int x2), (3, .int x2), (2, .int x3), (0, .ref (Z.2.2 175))] dX12_look_52 (by decide) rfl ?_
            refine li_aload_n 3 dX12_look_53 rfl ?_
            refine li_geti (k := 46) (N := 52) (T := TX12) (C0 := RX12) dX12_look_54 (by decide) sh_175 rfl rfl (by decide) li_in12 w_1450 ?_
            refine li_top (fun x29 ex29 => ?_)
            have gx29 := tl_rg x29
            have mx29 : x29.toInt = (M21.1 175 46).toInt := tl_slot ex29
            refine li_istore_n [(2, .int x29), (1, .int x2), (3, .int x2), (0, .ref (Z.2.2 175))] dX12_look_57 (by decide) rfl ?_
            refine li_pick [2, 0, 1, 3] [(3, .int x2), (2, .int x29), (1, .int x2), (0, .ref (Z.2.2 175))] rfl ?_
            exact J58 x29 x2 M21 hf hJ
          · have tc24 : x23.toInt ≤ x3.toInt := tl_nlt c24
            refine li_goto 58 dX12_look_48 (by decide) ?_
            refine li_pick [0, 1, 2, 3] [(3, .int x2), (2, .int x3), (1, .int x4), (0, .ref (Z.2.2 175))] rfl ?_
            exact J58 x3 x4 M21 hf hJ
  have z0 : (0 : Int32).toInt = 0 := rfl
  have z0 : (0 : Int32).toInt = 0 := rfl
  have zm2 : ((-2) : Int32).toInt = -2 := rfl
  exact L12 _ 0 0 (-2) M1 (Nat.lt_succ_self _) hf hJ (by omega)
