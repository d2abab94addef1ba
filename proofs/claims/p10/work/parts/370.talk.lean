theorem w_78 : (Jvm.Cond.selects "ClockForTalkModel" ({ cls := "ClockForTalkModel", name := "readAct", desc := "(I)V" } : Jvm.MethodName) ({ cls := "ClockForTalkModel", name := "readAct", desc := "(I)V" } : Jvm.MethodName)) ∈ li_ws := li_mem 78 (by decide +kernel) (by decide +kernel)
theorem w_79 : (Jvm.Cond.selects "ClockForTalkModel" ({ cls := "ClockForTalkModel", name := "act", desc := "(IIII)Z" } : Jvm.MethodName) ({ cls := "ClockForTalkModel", name := "act", desc := "(IIII)Z" } : Jvm.MethodName)) ∈ li_ws := li_mem 79 (by decide +kernel) (by decide +kernel)
theorem w_1428 : (Jvm.Cond.fieldLink "ClockForTalkModel" (44 : Nat) "ClockForTalkModel" "aside" "[I") ∈ li_ws := li_mem 1428 (by decide +kernel) (by decide +kernel)
theorem w_1431 : (Jvm.Cond.fieldLink "ClockForTalkModel" (47 : Nat) "ClockForTalkModel" "acts" "[I") ∈ li_ws := li_mem 1431 (by decide +kernel) (by decide +kernel)
theorem w_1432 : (Jvm.Cond.fieldLink "ClockForTalkModel" (314 : Nat) "ClockForTalkModel" "costAll" "I") ∈ li_ws := li_mem 1432 (by decide +kernel) (by decide +kernel)
theorem w_1791 : (Jvm.Cond.methodLink "ClockForTalkModel" (311 : Nat) ({ cls := "ClockForTalkModel", name := "readAct", desc := "(I)V" } : Jvm.MethodName)) ∈ li_ws := li_mem 1791 (by decide +kernel) (by decide +kernel)
theorem w_1793 : (Jvm.Cond.instanceMethod ({ cls := "ClockForTalkModel", name := "readAct", desc := "(I)V" } : Jvm.MethodName)) ∈ li_ws := li_mem 1793 (by decide +kernel) (by decide +kernel)
theorem w_1794 : (Jvm.Cond.code ({ cls := "ClockForTalkModel", name := "readAct", desc := "(I)V" } : Jvm.MethodName) prog_13_method_63_code (3 : Nat) (Option.none : Option Jvm.ClassFile.FieldType)) ∈ li_ws := li_mem 1794 (by decide +kernel) (by decide +kernel)
theorem w_1795 : (Jvm.Cond.methodLink "ClockForTalkModel" (317 : Nat) ({ cls := "ClockForTalkModel", name := "act", desc := "(IIII)Z" } : Jvm.MethodName)) ∈ li_ws := li_mem 1795 (by decide +kernel) (by decide +kernel)
theorem w_1797 : (Jvm.Cond.instanceMethod ({ cls := "ClockForTalkModel", name := "act", desc := "(IIII)Z" } : Jvm.MethodName)) ∈ li_ws := li_mem 1797 (by decide +kernel) (by decide +kernel)
theorem w_1798 : (Jvm.Cond.code ({ cls := "ClockForTalkModel", name := "act", desc := "(IIII)Z" } : Jvm.MethodName) prog_13_method_64_code (6 : Nat) (Option.some Jvm.ClassFile.FieldType.boolean)) ∈ li_ws := li_mem 1798 (by decide +kernel) (by decide +kernel)
theorem dX12_readAct_0 : decode cX12_readAct 0 = .ok (.aload_n 0, 1) := by decide +kernel
theorem dX12_readAct_1 : decode cX12_readAct 1 = .ok (.invokevirtual 146, 3) := by decide +kernel
theorem dX12_readAct_4 : decode cX12_readAct 4 = .ok (.istore_n 2, 1) := by decide +kernel
theorem dX12_readAct_5 : decode cX12_readAct 5 = .ok (.iload_n 2, 1) := by decide +kernel
theorem dX12_readAct_6 : decode cX12_readAct 6 = .ok (.bipush 115, 2) := by decide +kernel
theorem dX12_readAct_8 : decode cX12_readAct 8 = .ok (.if_icmp .eq 29, 3) := by decide +kernel
theorem dX12_readAct_11 : decode cX12_readAct 11 = .ok (.iload_n 2, 1) := by decide +kernel
theorem dX12_readAct_12 : decode cX12_readAct 12 = .ok (.bipush 98, 2) := by decide +kernel
theorem dX12_readAct_14 : decode cX12_readAct 14 = .ok (.if_icmp .eq 23, 3) := by decide +kernel
theorem dX12_readAct_17 : decode cX12_readAct 17 = .ok (.iload_n 2, 1) := by decide +kernel
theorem dX12_readAct_18 : decode cX12_readAct 18 = .ok (.bipush 103, 2) := by decide +kernel
theorem dX12_readAct_20 : decode cX12_readAct 20 = .ok (.if_icmp .eq 17, 3) := by decide +kernel
theorem dX12_readAct_23 : decode cX12_readAct 23 = .ok (.iload_n 2, 1) := by decide +kernel
theorem dX12_readAct_24 : decode cX12_readAct 24 = .ok (.bipush 100, 2) := by decide +kernel
theorem dX12_readAct_26 : decode cX12_readAct 26 = .ok (.if_icmp .eq 11, 3) := by decide +kernel
theorem dX12_readAct_29 : decode cX12_readAct 29 = .ok (.aload_n 0, 1) := by decide +kernel
theorem dX12_readAct_30 : decode cX12_readAct 30 = .ok (.aload_n 0, 1) := by decide +kernel
theorem dX12_readAct_31 : decode cX12_readAct 31 = .ok (.getfield 136, 3) := by decide +kernel
theorem dX12_readAct_34 : decode cX12_readAct 34 = .ok (.invokevirtual 154, 3) := by decide +kernel
theorem dX12_readAct_37 : decode cX12_readAct 37 = .ok (.aload_n 0, 1) := by decide +kernel
theorem dX12_readAct_38 : decode cX12_readAct 38 = .ok (.dup, 1) := by decide +kernel
theorem dX12_readAct_39 : decode cX12_readAct 39 = .ok (.getfield 136, 3) := by decide +kernel
theorem dX12_readAct_42 : decode cX12_readAct 42 = .ok (.iconst 1, 1) := by decide +kernel
theorem dX12_readAct_43 : decode cX12_readAct 43 = .ok (.iadd, 1) := by decide +kernel
theorem dX12_readAct_44 : decode cX12_readAct 44 = .ok (.putfield 136, 3) := by decide +kernel
theorem dX12_readAct_47 : decode cX12_readAct 47 = .ok (.aload_n 0, 1) := by decide +kernel
theorem dX12_readAct_48 : decode cX12_readAct 48 = .ok (.getfield 47, 3) := by decide +kernel
theorem dX12_readAct_51 : decode cX12_readAct 51 = .ok (.iload_n 1, 1) := by decide +kernel
theorem dX12_readAct_52 : decode cX12_readAct 52 = .ok (.iload_n 2, 1) := by decide +kernel
theorem dX12_readAct_53 : decode cX12_readAct 53 = .ok (.iastore, 1) := by decide +kernel
theorem dX12_readAct_54 : decode cX12_readAct 54 = .ok (.aload_n 0, 1) := by decide +kernel
theorem dX12_readAct_55 : decode cX12_readAct 55 = .ok (.getfield 47, 3) := by decide +kernel
theorem dX12_readAct_58 : decode cX12_readAct 58 = .ok (.iload_n 1, 1) := by decide +kernel
theorem dX12_readAct_59 : decode cX12_readAct 59 = .ok (.iconst 1, 1) := by decide +kernel
theorem dX12_readAct_60 : decode cX12_readAct 60 = .ok (.iadd, 1) := by decide +kernel
theorem dX12_readAct_61 : decode cX12_readAct 61 = .ok (.iload_n 2, 1) := by decide +kernel
theorem dX12_readAct_62 : decode cX12_readAct 62 = .ok (.bipush 100, 2) := by decide +kernel
theorem dX12_readAct_64 : decode cX12_readAct 64 = .ok (.if_icmp .ne 11, 3) := by decide +kernel
theorem dX12_readAct_67 : decode cX12_readAct 67 = .ok (.aload_n 0, 1) := by decide +kernel
theorem dX12_readAct_68 : decode cX12_readAct 68 = .ok (.iconst 2, 1) := by decide +kernel
theorem dX12_readAct_69 : decode cX12_readAct 69 = .ok (.invokevirtual 166, 3) := by decide +kernel
theorem dX12_readAct_72 : decode cX12_readAct 72 = .ok (.goto 30, 3) := by decide +kernel
theorem dX12_readAct_75 : decode cX12_readAct 75 = .ok (.iload_n 2, 1) := by decide +kernel
theorem dX12_readAct_76 : decode cX12_readAct 76 = .ok (.bipush 103, 2) := by decide +kernel
theorem dX12_readAct_78 : decode cX12_readAct 78 = .ok (.if_icmp .ne 15, 3) := by decide +kernel
theorem dX12_readAct_81 : decode cX12_readAct 81 = .ok (.aload_n 0, 1) := by decide +kernel
theorem dX12_readAct_82 : decode cX12_readAct 82 = .ok (.bipush 97, 2) := by decide +kernel
theorem dX12_readAct_84 : decode cX12_readAct 84 = .ok (.bipush 6, 2) := by decide +kernel
theorem dX12_readAct_86 : decode cX12_readAct 86 = .ok (.iconst (-1), 1) := by decide +kernel
theorem dX12_readAct_87 : decode cX12_readAct 87 = .ok (.invokevirtual 158, 3) := by decide +kernel
theorem dX12_readAct_90 : decode cX12_readAct 90 = .ok (.goto 12, 3) := by decide +kernel
theorem dX12_readAct_93 : decode cX12_readAct 93 = .ok (.aload_n 0, 1) := by decide +kernel
theorem dX12_readAct_94 : decode cX12_readAct 94 = .ok (.bipush 48, 2) := by decide +kernel
theorem dX12_readAct_96 : decode cX12_readAct 96 = .ok (.bipush 10, 2) := by decide +kernel
theorem dX12_readAct_98 : decode cX12_readAct 98 = .ok (.iconst (-1), 1) := by decide +kernel
theorem dX12_readAct_99 : decode cX12_readAct 99 = .ok (.invokevirtual 158, 3) := by decide +kernel
theorem dX12_readAct_102 : decode cX12_readAct 102 = .ok (.iastore, 1) := by decide +kernel
theorem dX12_readAct_103 : decode cX12_readAct 103 = .ok (.iload_n 2, 1) := by decide +kernel
theorem dX12_readAct_104 : decode cX12_readAct 104 = .ok (.bipush 115, 2) := by decide +kernel
theorem dX12_readAct_106 : decode cX12_readAct 106 = .ok (.if_icmp .ne 19, 3) := by decide +kernel
theorem dX12_readAct_109 : decode cX12_readAct 109 = .ok (.aload_n 0, 1) := by decide +kernel
theorem dX12_readAct_110 : decode cX12_readAct 110 = .ok (.getfield 47, 3) := by decide +kernel
theorem dX12_readAct_113 : decode cX12_readAct 113 = .ok (.iload_n 1, 1) := by decide +kernel
theorem dX12_readAct_114 : decode cX12_readAct 114 = .ok (.iconst 2, 1) := by decide +kernel
theorem dX12_readAct_115 : decode cX12_readAct 115 = .ok (.iadd, 1) := by decide +kernel
theorem dX12_readAct_116 : decode cX12_readAct 116 = .ok (.aload_n 0, 1) := by decide +kernel
theorem dX12_readAct_117 : decode cX12_readAct 117 = .ok (.bipush 48, 2) := by decide +kernel
theorem dX12_readAct_119 : decode cX12_readAct 119 = .ok (.iconst 4, 1) := by decide +kernel
theorem dX12_readAct_120 : decode cX12_readAct 120 = .ok (.iconst (-1), 1) := by decide +kernel
theorem dX12_readAct_121 : decode cX12_readAct 121 = .ok (.invokevirtual 158, 3) := by decide +kernel
theorem dX12_readAct_124 : decode cX12_readAct 124 = .ok (.iastore, 1) := by decide +kernel
theorem dX12_readAct_125 : decode cX12_readAct 125 = .ok (.iload_n 2, 1) := by decide +kernel
theorem dX12_readAct_126 : decode cX12_readAct 126 = .ok (.bipush 103, 2) := by decide +kernel
theorem dX12_readAct_128 : decode cX12_readAct 128 = .ok (.if_icmp .ne 33, 3) := by decide +kernel
theorem dX12_readAct_131 : decode cX12_readAct 131 = .ok (.aload_n 0, 1) := by decide +kernel
theorem dX12_readAct_132 : decode cX12_readAct 132 = .ok (.getfield 47, 3) := by decide +kernel
theorem dX12_readAct_135 : decode cX12_readAct 135 = .ok (.iload_n 1, 1) := by decide +kernel
theorem dX12_readAct_136 : decode cX12_readAct 136 = .ok (.iconst 2, 1) := by decide +kernel
theorem dX12_readAct_137 : decode cX12_readAct 137 = .ok (.iadd, 1) := by decide +kernel
theorem dX12_readAct_138 : decode cX12_readAct 138 = .ok (.aload_n 0, 1) := by decide +kernel
theorem dX12_readAct_139 : decode cX12_readAct 139 = .ok (.bipush 97, 2) := by decide +kernel
theorem dX12_readAct_141 : decode cX12_readAct 141 = .ok (.bipush 6, 2) := by decide +kernel
theorem dX12_readAct_143 : decode cX12_readAct 143 = .ok (.iconst (-1), 1) := by decide +kernel
theorem dX12_readAct_144 : decode cX12_readAct 144 = .ok (.invokevirtual 158, 3) := by decide +kernel
theorem dX12_readAct_147 : decode cX12_readAct 147 = .ok (.iastore, 1) := by decide +kernel
theorem dX12_readAct_148 : decode cX12_readAct 148 = .ok (.aload_n 0, 1) := by decide +kernel
theorem dX12_readAct_149 : decode cX12_readAct 149 = .ok (.getfield 47, 3) := by decide +kernel
theorem dX12_readAct_152 : decode cX12_readAct 152 = .ok (.iload_n 1, 1) := by decide +kernel
theorem dX12_readAct_153 : decode cX12_readAct 153 = .ok (.iconst 3, 1) := by decide +kernel
theorem dX12_readAct_154 : decode cX12_readAct 154 = .ok (.iadd, 1) := by decide +kernel
theorem dX12_readAct_155 : decode cX12_readAct 155 = .ok (.aload_n 0, 1) := by decide +kernel
theorem dX12_readAct_156 : decode cX12_readAct 156 = .ok (.iconst 3, 1) := by decide +kernel
theorem dX12_readAct_157 : decode cX12_readAct 157 = .ok (.invokevirtual 166, 3) := by decide +kernel
theorem dX12_readAct_160 : decode cX12_readAct 160 = .ok (.iastore, 1) := by decide +kernel
theorem dX12_readAct_161 : decode cX12_readAct 161 = .ok (.return_, 1) := by decide +kernel
abbrev YX12_readAct : li_Y := (yX12_readAct, cX12_readAct, 3, none)
theorem dX12_act_0 : decode cX12_act 0 = .ok (.iload_n 1, 1) := by decide +kernel
theorem dX12_act_1 : decode cX12_act 1 = .ok (.bipush 100, 2) := by decide +kernel
theorem dX12_act_3 : decode cX12_act 3 = .ok (.if_icmp .ne 14, 3) := by decide +kernel
theorem dX12_act_6 : decode cX12_act 6 = .ok (.aload_n 0, 1) := by decide +kernel
theorem dX12_act_7 : decode cX12_act 7 = .ok (.aload_n 0, 1) := by decide +kernel
theorem dX12_act_8 : decode cX12_act 8 = .ok (.getfield 9, 3) := by decide +kernel
theorem dX12_act_11 : decode cX12_act 11 = .ok (.iload_n 2, 1) := by decide +kernel
theorem dX12_act_12 : decode cX12_act 12 = .ok (.invokevirtual 304, 3) := by decide +kernel
theorem dX12_act_15 : decode cX12_act 15 = .ok (.iconst 1, 1) := by decide +kernel
theorem dX12_act_16 : decode cX12_act 16 = .ok (.ireturn, 1) := by decide +kernel
theorem dX12_act_17 : decode cX12_act 17 = .ok (.iload_n 1, 1) := by decide +kernel
theorem dX12_act_18 : decode cX12_act 18 = .ok (.bipush 103, 2) := by decide +kernel
theorem dX12_act_20 : decode cX12_act 20 = .ok (.if_icmp .ne 30, 3) := by decide +kernel
theorem dX12_act_23 : decode cX12_act 23 = .ok (.aload_n 0, 1) := by decide +kernel
theorem dX12_act_24 : decode cX12_act 24 = .ok (.iload_n 2, 1) := by decide +kernel
theorem dX12_act_25 : decode cX12_act 25 = .ok (.iload_n 3, 1) := by decide +kernel
theorem dX12_act_26 : decode cX12_act 26 = .ok (.iload 4, 2) := by decide +kernel
theorem dX12_act_28 : decode cX12_act 28 = .ok (.invokevirtual 288, 3) := by decide +kernel
theorem dX12_act_31 : decode cX12_act 31 = .ok (.ifCond .ge 5, 3) := by decide +kernel
theorem dX12_act_34 : decode cX12_act 34 = .ok (.iconst 0, 1) := by decide +kernel
theorem dX12_act_35 : decode cX12_act 35 = .ok (.ireturn, 1) := by decide +kernel
theorem dX12_act_36 : decode cX12_act 36 = .ok (.aload_n 0, 1) := by decide +kernel
theorem dX12_act_37 : decode cX12_act 37 = .ok (.getfield 9, 3) := by decide +kernel
theorem dX12_act_40 : decode cX12_act 40 = .ok (.iload_n 2, 1) := by decide +kernel
theorem dX12_act_41 : decode cX12_act 41 = .ok (.iload_n 3, 1) := by decide +kernel
theorem dX12_act_42 : decode cX12_act 42 = .ok (.iload 4, 2) := by decide +kernel
theorem dX12_act_44 : decode cX12_act 44 = .ok (.invokestatic 292, 3) := by decide +kernel
theorem dX12_act_47 : decode cX12_act 47 = .ok (.pop, 1) := by decide +kernel
theorem dX12_act_48 : decode cX12_act 48 = .ok (.iconst 1, 1) := by decide +kernel
theorem dX12_act_49 : decode cX12_act 49 = .ok (.ireturn, 1) := by decide +kernel
theorem dX12_act_50 : decode cX12_act 50 = .ok (.aload_n 0, 1) := by decide +kernel
theorem dX12_act_51 : decode cX12_act 51 = .ok (.iload_n 2, 1) := by decide +kernel
theorem dX12_act_52 : decode cX12_act 52 = .ok (.invokevirtual 265, 3) := by decide +kernel
theorem dX12_act_55 : decode cX12_act 55 = .ok (.ifCond .ne 5, 3) := by decide +kernel
theorem dX12_act_58 : decode cX12_act 58 = .ok (.iconst 0, 1) := by decide +kernel
theorem dX12_act_59 : decode cX12_act 59 = .ok (.ireturn, 1) := by decide +kernel
theorem dX12_act_60 : decode cX12_act 60 = .ok (.iload_n 1, 1) := by decide +kernel
theorem dX12_act_61 : decode cX12_act 61 = .ok (.bipush 115, 2) := by decide +kernel
theorem dX12_act_63 : decode cX12_act 63 = .ok (.if_icmp .ne 7, 3) := by decide +kernel
theorem dX12_act_66 : decode cX12_act 66 = .ok (.iload_n 3, 1) := by decide +kernel
theorem dX12_act_67 : decode cX12_act 67 = .ok (.goto 12, 3) := by decide +kernel
theorem dX12_act_70 : decode cX12_act 70 = .ok (.aload_n 0, 1) := by decide +kernel
theorem dX12_act_71 : decode cX12_act 71 = .ok (.aload_n 0, 1) := by decide +kernel
theorem dX12_act_72 : decode cX12_act 72 = .ok (.getfield 9, 3) := by decide +kernel
theorem dX12_act_75 : decode cX12_act 75 = .ok (.iload_n 2, 1) := by decide +kernel
theorem dX12_act_76 : decode cX12_act 76 = .ok (.invokevirtual 243, 3) := by decide +kernel
theorem dX12_act_79 : decode cX12_act 79 = .ok (.istore 5, 2) := by decide +kernel
theorem dX12_act_81 : decode cX12_act 81 = .ok (.aload_n 0, 1) := by decide +kernel
theorem dX12_act_82 : decode cX12_act 82 = .ok (.aload_n 0, 1) := by decide +kernel
theorem dX12_act_83 : decode cX12_act 83 = .ok (.getfield 9, 3) := by decide +kernel
theorem dX12_act_86 : decode cX12_act 86 = .ok (.iload_n 2, 1) := by decide +kernel
theorem dX12_act_87 : decode cX12_act 87 = .ok (.iload 5, 2) := by decide +kernel
theorem dX12_act_89 : decode cX12_act 89 = .ok (.invokevirtual 275, 3) := by decide +kernel
theorem dX12_act_92 : decode cX12_act 92 = .ok (.ifCond .ge 5, 3) := by decide +kernel
theorem dX12_act_95 : decode cX12_act 95 = .ok (.iconst 0, 1) := by decide +kernel
theorem dX12_act_96 : decode cX12_act 96 = .ok (.ireturn, 1) := by decide +kernel
theorem dX12_act_97 : decode cX12_act 97 = .ok (.aload_n 0, 1) := by decide +kernel
theorem dX12_act_98 : decode cX12_act 98 = .ok (.dup, 1) := by decide +kernel
theorem dX12_act_99 : decode cX12_act 99 = .ok (.getfield 314, 3) := by decide +kernel
theorem dX12_act_102 : decode cX12_act 102 = .ok (.aload_n 0, 1) := by decide +kernel
theorem dX12_act_103 : decode cX12_act 103 = .ok (.aload_n 0, 1) := by decide +kernel
theorem dX12_act_104 : decode cX12_act 104 = .ok (.getfield 9, 3) := by decide +kernel
theorem dX12_act_107 : decode cX12_act 107 = .ok (.iload_n 2, 1) := by decide +kernel
theorem dX12_act_108 : decode cX12_act 108 = .ok (.iload 5, 2) := by decide +kernel
theorem dX12_act_110 : decode cX12_act 110 = .ok (.invokevirtual 282, 3) := by decide +kernel
theorem dX12_act_113 : decode cX12_act 113 = .ok (.iadd, 1) := by decide +kernel
theorem dX12_act_114 : decode cX12_act 114 = .ok (.putfield 314, 3) := by decide +kernel
theorem dX12_act_117 : decode cX12_act 117 = .ok (.iconst 1, 1) := by decide +kernel
theorem dX12_act_118 : decode cX12_act 118 = .ok (.ireturn, 1) := by decide +kernel
abbrev YX12_act : li_Y := (yX12_act, cX12_act, 6, (some .boolean))
theorem dX12_talk_0 : decode cX12_talk 0 = .ok (.aload_n 0, 1) := by decide +kernel
theorem dX12_talk_1 : decode cX12_talk 1 = .ok (.iconst 0, 1) := by decide +kernel
theorem dX12_talk_2 : decode cX12_talk 2 = .ok (.putfield 103, 3) := by decide +kernel
theorem dX12_talk_5 : decode cX12_talk 5 = .ok (.aload_n 0, 1) := by decide +kernel
theorem dX12_talk_6 : decode cX12_talk 6 = .ok (.aload_n 0, 1) := by decide +kernel
theorem dX12_talk_7 : decode cX12_talk 7 = .ok (.getfield 22, 3) := by decide +kernel
theorem dX12_talk_10 : decode cX12_talk 10 = .ok (.aload_n 0, 1) := by decide +kernel
theorem dX12_talk_11 : decode cX12_talk 11 = .ok (.getfield 124, 3) := by decide +kernel
theorem dX12_talk_14 : decode cX12_talk 14 = .ok (.bipush 60, 2) := by decide +kernel
theorem dX12_talk_16 : decode cX12_talk 16 = .ok (.invokevirtual 162, 3) := by decide +kernel
theorem dX12_talk_19 : decode cX12_talk 19 = .ok (.aload_n 0, 1) := by decide +kernel
theorem dX12_talk_20 : decode cX12_talk 20 = .ok (.iconst 0, 1) := by decide +kernel
theorem dX12_talk_21 : decode cX12_talk 21 = .ok (.putfield 124, 3) := by decide +kernel
theorem dX12_talk_24 : decode cX12_talk 24 = .ok (.iconst 0, 1) := by decide +kernel
theorem dX12_talk_25 : decode cX12_talk 25 = .ok (.istore_n 1, 1) := by decide +kernel
theorem dX12_talk_26 : decode cX12_talk 26 = .ok (.aload_n 0, 1) := by decide +kernel
theorem dX12_talk_27 : decode cX12_talk 27 = .ok (.getfield 130, 3) := by decide +kernel
theorem dX12_talk_30 : decode cX12_talk 30 = .ok (.ifCond .le 7, 3) := by decide +kernel
theorem dX12_talk_33 : decode cX12_talk 33 = .ok (.iconst 1, 1) := by decide +kernel
theorem dX12_talk_34 : decode cX12_talk 34 = .ok (.goto 4, 3) := by decide +kernel
theorem dX12_talk_37 : decode cX12_talk 37 = .ok (.iconst 0, 1) := by decide +kernel
theorem dX12_talk_38 : decode cX12_talk 38 = .ok (.istore_n 2, 1) := by decide +kernel
theorem dX12_talk_39 : decode cX12_talk 39 = .ok (.iload_n 2, 1) := by decide +kernel
theorem dX12_talk_40 : decode cX12_talk 40 = .ok (.ifCond .eq 30, 3) := by decide +kernel
theorem dX12_talk_43 : decode cX12_talk 43 = .ok (.aload_n 0, 1) := by decide +kernel
theorem dX12_talk_44 : decode cX12_talk 44 = .ok (.invokevirtual 142, 3) := by decide +kernel
theorem dX12_talk_47 : decode cX12_talk 47 = .ok (.ifCond .eq 23, 3) := by decide +kernel
theorem dX12_talk_50 : decode cX12_talk 50 = .ok (.aload_n 0, 1) := by decide +kernel
theorem dX12_talk_51 : decode cX12_talk 51 = .ok (.iconst 4, 1) := by decide +kernel
theorem dX12_talk_52 : decode cX12_talk 52 = .ok (.iload_n 1, 1) := by decide +kernel
theorem dX12_talk_53 : decode cX12_talk 53 = .ok (.imul, 1) := by decide +kernel
theorem dX12_talk_54 : decode cX12_talk 54 = .ok (.invokevirtual 311, 3) := by decide +kernel
theorem dX12_talk_57 : decode cX12_talk 57 = .ok (.iinc 1 1, 3) := by decide +kernel
theorem dX12_talk_60 : decode cX12_talk 60 = .ok (.aload_n 0, 1) := by decide +kernel
theorem dX12_talk_61 : decode cX12_talk 61 = .ok (.bipush 59, 2) := by decide +kernel
theorem dX12_talk_63 : decode cX12_talk 63 = .ok (.invokevirtual 150, 3) := by decide +kernel
theorem dX12_talk_66 : decode cX12_talk 66 = .ok (.istore_n 2, 1) := by decide +kernel
theorem dX12_talk_67 : decode cX12_talk 67 = .ok (.goto (-28), 3) := by decide +kernel
theorem dX12_talk_70 : decode cX12_talk 70 = .ok (.aload_n 0, 1) := by decide +kernel
theorem dX12_talk_71 : decode cX12_talk 71 = .ok (.getfield 136, 3) := by decide +kernel
theorem dX12_talk_74 : decode cX12_talk 74 = .ok (.aload_n 0, 1) := by decide +kernel
theorem dX12_talk_75 : decode cX12_talk 75 = .ok (.getfield 130, 3) := by decide +kernel
theorem dX12_talk_78 : decode cX12_talk 78 = .ok (.if_icmp .ge 11, 3) := by decide +kernel
theorem dX12_talk_81 : decode cX12_talk 81 = .ok (.aload_n 0, 1) := by decide +kernel
theorem dX12_talk_82 : decode cX12_talk 82 = .ok (.aload_n 0, 1) := by decide +kernel
theorem dX12_talk_83 : decode cX12_talk 83 = .ok (.getfield 136, 3) := by decide +kernel
theorem dX12_talk_86 : decode cX12_talk 86 = .ok (.invokevirtual 154, 3) := by decide +kernel
theorem dX12_talk_89 : decode cX12_talk 89 = .ok (.aload_n 0, 1) := by decide +kernel
theorem dX12_talk_90 : decode cX12_talk 90 = .ok (.invokevirtual 142, 3) := by decide +kernel
theorem dX12_talk_93 : decode cX12_talk 93 = .ok (.ifCond .ne 10, 3) := by decide +kernel
theorem dX12_talk_96 : decode cX12_talk 96 = .ok (.iconst (-1), 1) := by decide +kernel
theorem dX12_talk_97 : decode cX12_talk 97 = .ok (.aload_n 0, 1) := by decide +kernel
theorem dX12_talk_98 : decode cX12_talk 98 = .ok (.getfield 139, 3) := by decide +kernel
theorem dX12_talk_101 : decode cX12_talk 101 = .ok (.isub, 1) := by decide +kernel
theorem dX12_talk_102 : decode cX12_talk 102 = .ok (.ireturn, 1) := by decide +kernel
theorem dX12_talk_103 : decode cX12_talk 103 = .ok (.aload_n 0, 1) := by decide +kernel
theorem dX12_talk_104 : decode cX12_talk 104 = .ok (.getfield 9, 3) := by decide +kernel
theorem dX12_talk_107 : decode cX12_talk 107 = .ok (.aload_n 0, 1) := by decide +kernel
theorem dX12_talk_108 : decode cX12_talk 108 = .ok (.getfield 44, 3) := by decide +kernel
theorem dX12_talk_111 : decode cX12_talk 111 = .ok (.iconst 0, 1) := by decide +kernel
theorem dX12_talk_112 : decode cX12_talk 112 = .ok (.invokestatic 268, 3) := by decide +kernel
theorem dX12_talk_115 : decode cX12_talk 115 = .ok (.aload_n 0, 1) := by decide +kernel
theorem dX12_talk_116 : decode cX12_talk 116 = .ok (.iconst 0, 1) := by decide +kernel
theorem dX12_talk_117 : decode cX12_talk 117 = .ok (.putfield 314, 3) := by decide +kernel
theorem dX12_talk_120 : decode cX12_talk 120 = .ok (.iconst 0, 1) := by decide +kernel
theorem dX12_talk_121 : decode cX12_talk 121 = .ok (.istore_n 3, 1) := by decide +kernel
theorem dX12_talk_122 : decode cX12_talk 122 = .ok (.iload_n 3, 1) := by decide +kernel
theorem dX12_talk_123 : decode cX12_talk 123 = .ok (.iload_n 1, 1) := by decide +kernel
theorem dX12_talk_124 : decode cX12_talk 124 = .ok (.if_icmp .ge 54, 3) := by decide +kernel
theorem dX12_talk_127 : decode cX12_talk 127 = .ok (.aload_n 0, 1) := by decide +kernel
theorem dX12_talk_128 : decode cX12_talk 128 = .ok (.aload_n 0, 1) := by decide +kernel
theorem dX12_talk_129 : decode cX12_talk 129 = .ok (.getfield 47, 3) := by decide +kernel
theorem dX12_talk_132 : decode cX12_talk 132 = .ok (.iconst 4, 1) := by decide +kernel
theorem dX12_talk_133 : decode cX12_talk 133 = .ok (.iload_n 3, 1) := by decide +kernel
theorem dX12_talk_134 : decode cX12_talk 134 = .ok (.imul, 1) := by decide +kernel
theorem dX12_talk_135 : decode cX12_talk 135 = .ok (.iaload, 1) := by decide +kernel
theorem dX12_talk_136 : decode cX12_talk 136 = .ok (.aload_n 0, 1) := by decide +kernel
theorem dX12_talk_137 : decode cX12_talk 137 = .ok (.getfield 47, 3) := by decide +kernel
theorem dX12_talk_140 : decode cX12_talk 140 = .ok (.iconst 4, 1) := by decide +kernel
theorem dX12_talk_141 : decode cX12_talk 141 = .ok (.iload_n 3, 1) := by decide +kernel
theorem dX12_talk_142 : decode cX12_talk 142 = .ok (.imul, 1) := by decide +kernel
theorem dX12_talk_143 : decode cX12_talk 143 = .ok (.iconst 1, 1) := by decide +kernel
theorem dX12_talk_144 : decode cX12_talk 144 = .ok (.iadd, 1) := by decide +kernel
theorem dX12_talk_145 : decode cX12_talk 145 = .ok (.iaload, 1) := by decide +kernel
theorem dX12_talk_146 : decode cX12_talk 146 = .ok (.aload_n 0, 1) := by decide +kernel
theorem dX12_talk_147 : decode cX12_talk 147 = .ok (.getfield 47, 3) := by decide +kernel
theorem dX12_talk_150 : decode cX12_talk 150 = .ok (.iconst 4, 1) := by decide +kernel
theorem dX12_talk_151 : decode cX12_talk 151 = .ok (.iload_n 3, 1) := by decide +kernel
theorem dX12_talk_152 : decode cX12_talk 152 = .ok (.imul, 1) := by decide +kernel
theorem dX12_talk_153 : decode cX12_talk 153 = .ok (.iconst 2, 1) := by decide +kernel
theorem dX12_talk_154 : decode cX12_talk 154 = .ok (.iadd, 1) := by decide +kernel
theorem dX12_talk_155 : decode cX12_talk 155 = .ok (.iaload, 1) := by decide +kernel
theorem dX12_talk_156 : decode cX12_talk 156 = .ok (.aload_n 0, 1) := by decide +kernel
theorem dX12_talk_157 : decode cX12_talk 157 = .ok (.getfield 47, 3) := by decide +kernel
theorem dX12_talk_160 : decode cX12_talk 160 = .ok (.iconst 4, 1) := by decide +kernel
theorem dX12_talk_161 : decode cX12_talk 161 = .ok (.iload_n 3, 1) := by decide +kernel
theorem dX12_talk_162 : decode cX12_talk 162 = .ok (.imul, 1) := by decide +kernel
theorem dX12_talk_163 : decode cX12_talk 163 = .ok (.iconst 3, 1) := by decide +kernel
theorem dX12_talk_164 : decode cX12_talk 164 = .ok (.iadd, 1) := by decide +kernel
theorem dX12_talk_165 : decode cX12_talk 165 = .ok (.iaload, 1) := by decide +kernel
theorem dX12_talk_166 : decode cX12_talk 166 = .ok (.invokevirtual 317, 3) := by decide +kernel
theorem dX12_talk_169 : decode cX12_talk 169 = .ok (.ifCond .eq 9, 3) := by decide +kernel
theorem dX12_talk_172 : decode cX12_talk 172 = .ok (.iinc 3 1, 3) := by decide +kernel
theorem dX12_talk_175 : decode cX12_talk 175 = .ok (.goto (-53), 3) := by decide +kernel
theorem dX12_talk_178 : decode cX12_talk 178 = .ok (.iload_n 3, 1) := by decide +kernel
theorem dX12_talk_179 : decode cX12_talk 179 = .ok (.ifCond .le 11, 3) := by decide +kernel
theorem dX12_talk_182 : decode cX12_talk 182 = .ok (.aload_n 0, 1) := by decide +kernel
theorem dX12_talk_183 : decode cX12_talk 183 = .ok (.aload_n 0, 1) := by decide +kernel
theorem dX12_talk_184 : decode cX12_talk 184 = .ok (.getfield 44, 3) := by decide +kernel
theorem dX12_talk_187 : decode cX12_talk 187 = .ok (.invokevirtual 278, 3) := by decide +kernel
theorem dX12_talk_190 : decode cX12_talk 190 = .ok (.aload_n 0, 1) := by decide +kernel
theorem dX12_talk_191 : decode cX12_talk 191 = .ok (.iconst 0, 1) := by decide +kernel
theorem dX12_talk_192 : decode cX12_talk 192 = .ok (.putfield 107, 3) := by decide +kernel
theorem dX12_talk_195 : decode cX12_talk 195 = .ok (.aload_n 0, 1) := by decide +kernel
theorem dX12_talk_196 : decode cX12_talk 196 = .ok (.iload_n 3, 1) := by decide +kernel
theorem dX12_talk_197 : decode cX12_talk 197 = .ok (.iload_n 1, 1) := by decide +kernel
theorem dX12_talk_198 : decode cX12_talk 198 = .ok (.if_icmp .ge 7, 3) := by decide +kernel
theorem dX12_talk_201 : decode cX12_talk 201 = .ok (.iconst 1, 1) := by decide +kernel
theorem dX12_talk_202 : decode cX12_talk 202 = .ok (.goto 4, 3) := by decide +kernel
theorem dX12_talk_205 : decode cX12_talk 205 = .ok (.iconst 0, 1) := by decide +kernel
theorem dX12_talk_206 : decode cX12_talk 206 = .ok (.invokevirtual 308, 3) := by decide +kernel
theorem dX12_talk_209 : decode cX12_talk 209 = .ok (.aload_n 0, 1) := by decide +kernel
theorem dX12_talk_210 : decode cX12_talk 210 = .ok (.aload_n 0, 1) := by decide +kernel
theorem dX12_talk_211 : decode cX12_talk 211 = .ok (.getfield 314, 3) := by decide +kernel
theorem dX12_talk_214 : decode cX12_talk 214 = .ok (.invokevirtual 308, 3) := by decide +kernel
theorem dX12_talk_217 : decode cX12_talk 217 = .ok (.iload_n 3, 1) := by decide +kernel
theorem dX12_talk_218 : decode cX12_talk 218 = .ok (.ireturn, 1) := by decide +kernel
abbrev YX12_talk : li_Y := (yX12_talk, cX12_talk, 4, (some .int))
set_option maxRecDepth 100000 in
set_option maxHeartbeats 4000000 in
theorem k_X12_readAct {l : Launch} {Z : li_Z} (d : Nat) (hd : 5 ≤ d) (p1 : Int32) (M0 : li_M) (hJ : li_J M0) (h1 : 0 ≤ p1.toInt ∧ p1.toInt ≤ 316) (h2 : (M0.1 175 14).toInt ≤ 80) : li_Met l Z YX12_readAct d [.ref (Z.2.2 175), .int p1] M0 (fun r M' => r = none ∧ li_fs (fun i k => i = 188 ∨ (i = 175 ∧ k = 14) ∨ (i = 175 ∧ k = 15)) M0 M' ∧ li_J M' ∧ ((M0.1 175 14).toInt + 1 ≤ (M'.1 175 14).toInt)) := by
  refine li_enter (by decide +kernel) (Nat.le_of_ble_eq_true rfl) ?_
  show li_T l Z YX12_readAct d 0 [(0, .ref (Z.2.2 175)), (1, .int p1)] [] M0 _
  have hf : li_fs (fun i k => i = 188 ∨ (i = 175 ∧ k = 14) ∨ (i = 175 ∧ k = 15)) M0 M0 := li_fs_refl
  have gp1 := tl_rg p1
  have rM0_12 := J_sl12 (M := M0) hJ
  have rM0_13 := J_sl13 (M := M0) hJ
  have rM0_14 := J_sl14 (M := M0) hJ
  have rM0_15 := J_sl15 (M := M0) hJ
  refine li_aload_n 0 dX12_readAct_0 rfl ?_
  refine li_callV (n := 0) (As := []) dX12_readAct_1 (k_X12_here (d - 1) (by omega)  M0 hJ ) (by omega) (Nat.le_of_ble_eq_true rfl) w_1597 w_1599 w_47 w_112 w_1600 (by decide +kernel) rfl (by decide) sh_175 rfl rfl (Nat.le_of_ble_eq_true rfl) (fun r M2 h3 => ?_)
  obtain ⟨⟨x1, rfl, qx1⟩, h3, jM2⟩ := h3
  have gx1 := tl_rg x1
  have hf := li_fs_trans hf h3 (fun i k h => False.elim h)
  have hJ := jM2
  have rM2_12 := J_sl12 (M := M2) hJ
  have rM2_13 := J_sl13 (M := M2) hJ
  have rM2_14 := J_sl14 (M := M2) hJ
  have rM2_15 := J_sl15 (M := M2) hJ
  have mM2_12 : (M2.1 175 12).toInt = (M0.1 175 12).toInt := tl_slot (h3.1 175 12 id)
  have mM2_13 : (M2.1 175 13).toInt = (M0.1 175 13).toInt := tl_slot (h3.1 175 13 id)
  have mM2_14 : (M2.1 175 14).toInt = (M0.1 175 14).toInt := tl_slot (h3.1 175 14 id)
  have mM2_15 : (M2.1 175 15).toInt = (M0.1 175 15).toInt := tl_slot (h3.1 175 15 id)
  refine li_istore_n [(2, .int x1), (0, .ref (Z.2.2 175)), (1, .int p1)] dX12_readAct_4 (by decide) rfl ?_
  refine li_iload_n 0 dX12_readAct_5 rfl ?_
  refine li_bipush 115 dX12_readAct_6 (by decide) ?_
  have J37 : ∀  (M5 : li_M), li_fs (fun i k => i = 188 ∨ (i = 175 ∧ k = 14) ∨ (i = 175 ∧ k = 15)) M0 M5 → li_J M5 → (M5.1 175 14).toInt = (M0.1 175 14).toInt → li_T l Z YX12_readAct d 37 [(2, .int x1), (0, .ref (Z.2.2 175)), (1, .int p1)] [] M5 (fun r M' => r = none ∧ li_fs (fun i k => i = 188 ∨ (i = 175 ∧ k = 14) ∨ (i = 175 ∧ k = 15)) M0 M' ∧ li_J M' ∧ ((M0.1 175 14).toInt + 1 ≤ (M'.1 175 14).toInt)) := by
    intro  M5 hf hJ hi
    have rM5_12 := J_sl12 (M := M5) hJ
    have rM5_13 := J_sl13 (M := M5) hJ
    have rM5_14 := J_sl14 (M := M5) hJ
    have rM5_15 := J_sl15 (M := M5) hJ
    have mM5_12 : (M5.1 175 12).toInt = (M0.1 175 12).toInt := tl_slot (hf.1 175 12 (show ¬ (175 = 188 ∨ (175 = 175 ∧ 12 = 14) ∨ (175 = 175 ∧ 12 = 15)) by decide))
    have mM5_13 : (M5.1 175 13).toInt = (M0.1 175 13).toInt := tl_slot (hf.1 175 13 (show ¬ (175 = 188 ∨ (175 = 175 ∧ 13 = 14) ∨ (175 = 175 ∧ 13 = 15)) by decide))
    refine li_aload_n 1 dX12_readAct_37 rfl ?_
    refine li_dup dX12_readAct_38 rfl ?_
    refine li_geti (k := 14) (N := 52) (T := TX12) (C0 := RX12) dX12_readAct_39 (by decide) sh_175 rfl rfl (by decide) li_in12 w_1418 ?_
    refine li_top (fun x6 ex6 => ?_)
    have gx6 : 0 ≤ x6.toInt ∧ x6.toInt ≤ 81 := by rw [ex6]; exact J_sl14 hJ
    have mx6 : x6.toInt = (M5.1 175 14).toInt := tl_slot ex6
    refine li_iconst 1 dX12_readAct_42 (by decide) ?_
    refine li_iadd dX12_readAct_43 ?_
    refine li_top (fun x7 ex7 => ?_)
    have z1 : (1 : Int32).toInt = 1 := rfl
    try (have tx7 : x7.toInt = (x6 : Int32).toInt + (1 : Int32).toInt := tl_add ex7 (by omega))
    refine li_puti (k := 14) (N := 52) (T := TX12) (C0 := RX12) dX12_readAct_44 (by decide) sh_175 rfl rfl (by decide) li_in12 tyX12_ok nmX12 rfl rfl rfl rfl w_1418 ?_
    refine li_nm (fun M8 eM8 => ?_)
    have hf := li_fs_ui hf (Or.inr (Or.inl ⟨rfl, rfl⟩)) eM8
    have hJ := J_pt14 hJ (show 0 ≤ (x7 : Int32).toInt ∧ (x7 : Int32).toInt ≤ 81 by omega) eM8
    have rM8_12 := J_sl12 (M := M8) hJ
    have rM8_13 := J_sl13 (M := M8) hJ
    have rM8_14 := J_sl14 (M := M8) hJ
    have rM8_15 := J_sl15 (M := M8) hJ
    have mM8_12 : (M8.1 175 12).toInt = (M5.1 175 12).toInt := by rw [eM8, li_ui_at, if_pos rfl, if_neg (by decide)]
    have mM8_13 : (M8.1 175 13).toInt = (M5.1 175 13).toInt := by rw [eM8, li_ui_at, if_pos rfl, if_neg (by decide)]
    have mM8_14 : (M8.1 175 14).toInt = x7.toInt := by rw [eM8, li_ui_at, if_pos rfl, if_pos rfl]
    have mM8_15 : (M8.1 175 15).toInt = (M5.1 175 15).toInt := by rw [eM8, li_ui_at, if_pos rfl, if_neg (by decide)]
    refine li_aload_n 1 dX12_readAct_47 rfl ?_
    refine li_getr (k := 27) (N := 52) (T := TX12) (C0 := RX12) dX12_readAct_48 (by decide) sh_175 rfl rfl (by decide) (by decide) li_in12 w_1431 ?_
    refine li_iload_n 2 dX12_readAct_51 rfl ?_
    refine li_iload_n 0 dX12_readAct_52 rfl ?_
    refine li_iast dX12_readAct_53 (by decide) sh_188 (tl_in (by omega)) ?_
    refine li_nm (fun M9 eM9 => ?_)
    have hf := li_fs_ui hf (Or.inl rfl) eM9
    have hJ := hJ.st (by decide) (li_el_free (by unfold li_led; omega) (by decide) (by decide) (by unfold li_rq; omega)) eM9
    have rM9_12 := J_sl12 (M := M9) hJ
    have rM9_13 := J_sl13 (M := M9) hJ
    have rM9_14 := J_sl14 (M := M9) hJ
    have rM9_15 := J_sl15 (M := M9) hJ
    have mM9_12 : (M9.1 175 12).toInt = (M8.1 175 12).toInt := by rw [eM9, li_ui_at, if_neg (by decide)]
    have mM9_13 : (M9.1 175 13).toInt = (M8.1 175 13).toInt := by rw [eM9, li_ui_at, if_neg (by decide)]
    have mM9_14 : (M9.1 175 14).toInt = (M8.1 175 14).toInt := by rw [eM9, li_ui_at, if_neg (by decide)]
    have mM9_15 : (M9.1 175 15).toInt = (M8.1 175 15).toInt := by rw [eM9, li_ui_at, if_neg (by decide)]
    refine li_aload_n 1 dX12_readAct_54 rfl ?_
    refine li_getr (k := 27) (N := 52) (T := TX12) (C0 := RX12) dX12_readAct_55 (by decide) sh_175 rfl rfl (by decide) (by decide) li_in12 w_1431 ?_
    refine li_iload_n 2 dX12_readAct_58 rfl ?_
    refine li_iconst 1 dX12_readAct_59 (by decide) ?_
    refine li_iadd dX12_readAct_60 ?_
    refine li_top (fun x10 ex10 => ?_)
    have z1 : (1 : Int32).toInt = 1 := rfl
    try (have tx10 : x10.toInt = (p1 : Int32).toInt + (1 : Int32).toInt := tl_add ex10 (by omega))
    refine li_iload_n 0 dX12_readAct_61 rfl ?_
    refine li_bipush 100 dX12_readAct_62 (by decide) ?_
    have J102 : ∀ (x12 : Int32) (M13 : li_M), li_fs (fun i k => i = 188 ∨ (i = 175 ∧ k = 14) ∨ (i = 175 ∧ k = 15)) M0 M13 → li_J M13 → (M0.1 175 14).toInt + 1 ≤ (M13.1 175 14).toInt → li_T l Z YX12_readAct d 102 [(2, .int x1), (0, .ref (Z.2.2 175)), (1, .int p1)] [.int x12, .int x10, .ref (Z.2.2 188)] M13 (fun r M' => r = none ∧ li_fs (fun i k => i = 188 ∨ (i = 175 ∧ k = 14) ∨ (i = 175 ∧ k = 15)) M0 M' ∧ li_J M' ∧ ((M0.1 175 14).toInt + 1 ≤ (M'.1 175 14).toInt)) := by
      intro x12 M13 hf hJ hi
      have gx12 := tl_rg x12
      have rM13_12 := J_sl12 (M := M13) hJ
      have rM13_13 := J_sl13 (M := M13) hJ
      have rM13_14 := J_sl14 (M := M13) hJ
      have rM13_15 := J_sl15 (M := M13) hJ
      have mM13_12 : (M13.1 175 12).toInt = (M0.1 175 12).toInt := tl_slot (hf.1 175 12 (show ¬ (175 = 188 ∨ (175 = 175 ∧ 12 = 14) ∨ (175 = 175 ∧ 12 = 15)) by decide))
      have mM13_13 : (M13.1 175 13).toInt = (M0.1 175 13).toInt := tl_slot (hf.1 175 13 (show ¬ (175 = 188 ∨ (175 = 175 ∧ 13 = 14) ∨ (175 = 175 ∧ 13 = 15)) by decide))
      refine li_iast dX12_readAct_102 (by decide) sh_188 (tl_in (by omega)) ?_
      refine li_nm (fun M14 eM14 => ?_)
      have hf := li_fs_ui hf (Or.inl rfl) eM14
      have hJ := hJ.st (by decide) (li_el_free (by unfold li_led; omega) (by decide) (by decide) (by unfold li_rq; omega)) eM14
      have rM14_12 := J_sl12 (M := M14) hJ
      have rM14_13 := J_sl13 (M := M14) hJ
      have rM14_14 := J_sl14 (M := M14) hJ
      have rM14_15 := J_sl15 (M := M14) hJ
      have mM14_12 : (M14.1 175 12).toInt = (M13.1 175 12).toInt := by rw [eM14, li_ui_at, if_neg (by decide)]
      have mM14_13 : (M14.1 175 13).toInt = (M13.1 175 13).toInt := by rw [eM14, li_ui_at, if_neg (by decide)]
      have mM14_14 : (M14.1 175 14).toInt = (M13.1 175 14).toInt := by rw [eM14, li_ui_at, if_neg (by decide)]
      have mM14_15 : (M14.1 175 15).toInt = (M13.1 175 15).toInt := by rw [eM14, li_ui_at, if_neg (by decide)]
      refine li_iload_n 0 dX12_readAct_103 rfl ?_
      refine li_bipush 115 dX12_readAct_104 (by decide) ?_
      have J125 : ∀  (M16 : li_M), li_fs (fun i k => i = 188 ∨ (i = 175 ∧ k = 14) ∨ (i = 175 ∧ k = 15)) M0 M16 → li_J M16 → (M0.1 175 14).toInt + 1 ≤ (M16.1 175 14).toInt → li_T l Z YX12_readAct d 125 [(2, .int x1), (0, .ref (Z.2.2 175)), (1, .int p1)] [] M16 (fun r M' => r = none ∧ li_fs (fun i k => i = 188 ∨ (i = 175 ∧ k = 14) ∨ (i = 175 ∧ k = 15)) M0 M' ∧ li_J M' ∧ ((M0.1 175 14).toInt + 1 ≤ (M'.1 175 14).toInt)) := by
        intro  M16 hf hJ hi
        have rM16_12 := J_sl12 (M := M16) hJ
        have rM16_13 := J_sl13 (M := M16) hJ
        have rM16_14 := J_sl14 (M := M16) hJ
        have rM16_15 := J_sl15 (M := M16) hJ
        have mM16_12 : (M16.1 175 12).toInt = (M0.1 175 12).toInt := tl_slot (hf.1 175 12 (show ¬ (175 = 188 ∨ (175 = 175 ∧ 12 = 14) ∨ (175 = 175 ∧ 12 = 15)) by decide))
        have mM16_13 : (M16.1 175 13).toInt = (M0.1 175 13).toInt := tl_slot (hf.1 175 13 (show ¬ (175 = 188 ∨ (175 = 175 ∧ 13 = 14) ∨ (175 = 175 ∧ 13 = 15)) by decide))
        refine li_iload_n 0 dX12_readAct_125 rfl ?_
        refine li_bipush 103 dX12_readAct_126 (by decide) ?_
        refine li_icmp_ne 161 dX12_readAct_128 (by decide) (fun c17 => ?_) (fun c17 => ?_)
        · have tc17 : ¬ x1.toInt = 103 := tl_ne c17
          exact li_vret dX12_readAct_161 rfl ⟨rfl, hf, hJ, (by first | omega | (intro _; omega) | (refine ⟨?_, ?_⟩ <;> first | omega | (intro _; omega)) | (refine ⟨?_, ?_, ?_, ?_⟩ <;> first | omega | (intro _; omega)))⟩
        · have tc17 : x1.toInt = 103 := tl_eq c17
          refine li_aload_n 1 dX12_readAct_131 rfl ?_
          refine li_getr (k := 27) (N := 52) (T := TX12) (C0 := RX12) dX12_readAct_132 (by decide) sh_175 rfl rfl (by decide) (by decide) li_in12 w_1431 ?_
          refine li_iload_n 2 dX12_readAct_135 rfl ?_
          refine li_iconst 2 dX12_readAct_136 (by decide) ?_
          refine li_iadd dX12_readAct_137 ?_
          refine li_top (fun x18 ex18 => ?_)
          have z2 : (2 : Int32).toInt = 2 := rfl
          try (have tx18 : x18.toInt = (p1 : Int32).toInt + (2 : Int32).toInt := tl_add ex18 (by omega))
          refine li_aload_n 1 dX12_readAct_138 rfl ?_
          refine li_bipush 97 dX12_readAct_139 (by decide) ?_
          refine li_bipush 6 dX12_readAct_141 (by decide) ?_
          refine li_iconst (-1) dX12_readAct_143 (by decide) ?_
          have z97 : (97 : Int32).toInt = 97 := rfl
          have z6 : (6 : Int32).toInt = 6 := rfl
          have zm1 : ((-1) : Int32).toInt = -1 := rfl
          refine li_callV (n := 3) (As := [.int 97, .int 6, .int (-1)]) dX12_readAct_144 (k_X12_oneOfW (d - 1) (by omega) 97 6 (-1) M16 hJ (by omega) (by omega)) (by omega) (Nat.le_of_ble_eq_true rfl) w_1593 w_1595 w_46 w_112 w_1596 (by decide +kernel) rfl (by decide) sh_175 rfl rfl (Nat.le_of_ble_eq_true rfl) (fun r M20 h21 => ?_)
          obtain ⟨⟨x19, rfl, qx19⟩, h21, jM20⟩ := h21
          have gx19 := tl_rg x19
          have hf := li_fs_trans hf h21 (fun i k => fun h => Or.elim h (fun h => Or.inr (Or.inl h)) (fun h => Or.inr (Or.inr h)))
          have hJ := jM20
          have rM20_12 := J_sl12 (M := M20) hJ
          have rM20_13 := J_sl13 (M := M20) hJ
          have rM20_14 := J_sl14 (M := M20) hJ
          have rM20_15 := J_sl15 (M := M20) hJ
          have mM20_12 : (M20.1 175 12).toInt = (M16.1 175 12).toInt := tl_slot (h21.1 175 12 (show ¬ ((175 = 175 ∧ 12 = 14) ∨ (175 = 175 ∧ 12 = 15)) by decide))
          have mM20_13 : (M20.1 175 13).toInt = (M16.1 175 13).toInt := tl_slot (h21.1 175 13 (show ¬ ((175 = 175 ∧ 13 = 14) ∨ (175 = 175 ∧ 13 = 15)) by decide))
          refine li_iast dX12_readAct_147 (by decide) sh_188 (tl_in (by omega)) ?_
          refine li_nm (fun M22 eM22 => ?_)
          have hf := li_fs_ui hf (Or.inl rfl) eM22
          have hJ := hJ.st (by decide) (li_el_free (by unfold li_led; omega) (by decide) (by decide) (by unfold li_rq; omega)) eM22
          have rM22_12 := J_sl12 (M := M22) hJ
          have rM22_13 := J_sl13 (M := M22) hJ
          have rM22_14 := J_sl14 (M := M22) hJ
          have rM22_15 := J_sl15 (M := M22) hJ
          have mM22_12 : (M22.1 175 12).toInt = (M20.1 175 12).toInt := by rw [eM22, li_ui_at, if_neg (by decide)]
          have mM22_13 : (M22.1 175 13).toInt = (M20.1 175 13).toInt := by rw [eM22, li_ui_at, if_neg (by decide)]
          have mM22_14 : (M22.1 175 14).toInt = (M20.1 175 14).toInt := by rw [eM22, li_ui_at, if_neg (by decide)]
          have mM22_15 : (M22.1 175 15).toInt = (M20.1 175 15).toInt := by rw [eM22, li_ui_at, if_neg (by decide)]
          refine li_aload_n 1 dX12_readAct_148 rfl ?_
          refine li_getr (k := 27) (N := 52) (T := TX12) (C0 := RX12) dX12_readAct_149 (by decide) sh_175 rfl rfl (by decide) (by decide) li_in12 w_1431 ?_
          refine li_iload_n 2 dX12_readAct_152 rfl ?_
          refine li_iconst 3 dX12_readAct_153 (by decide) ?_
          refine li_iadd dX12_readAct_154 ?_
          refine li_top (fun x23 ex23 => ?_)
          have z3 : (3 : Int32).toInt = 3 := rfl
          try (have tx23 : x23.toInt = (p1 : Int32).toInt + (3 : Int32).toInt := tl_add ex23 (by omega))
          refine li_aload_n 1 dX12_readAct_155 rfl ?_
          refine li_iconst 3 dX12_readAct_156 (by decide) ?_
          have z3 : (3 : Int32).toInt = 3 := rfl
          refine li_callV (n := 1) (As := [.int 3]) dX12_readAct_157 (k_X12_numberW (d - 1) (by omega) 3 M22 hJ ) (by omega) (Nat.le_of_ble_eq_true rfl) w_1589 w_1591 w_45 w_112 w_1592 (by decide +kernel) rfl (by decide) sh_175 rfl rfl (Nat.le_of_ble_eq_true rfl) (fun r M25 h26 => ?_)
          obtain ⟨⟨x24, rfl, qx24⟩, h26, jM25⟩ := h26
          have gx24 := tl_rg x24
          have hf := li_fs_trans hf h26 (fun i k => fun h => Or.elim h (fun h => Or.inr (Or.inl h)) (fun h => Or.inr (Or.inr h)))
          have hJ := jM25
          have rM25_12 := J_sl12 (M := M25) hJ
          have rM25_13 := J_sl13 (M := M25) hJ
          have rM25_14 := J_sl14 (M := M25) hJ
          have rM25_15 := J_sl15 (M := M25) hJ
          have mM25_12 : (M25.1 175 12).toInt = (M22.1 175 12).toInt := tl_slot (h26.1 175 12 (show ¬ ((175 = 175 ∧ 12 = 14) ∨ (175 = 175 ∧ 12 = 15)) by decide))
          have mM25_13 : (M25.1 175 13).toInt = (M22.1 175 13).toInt := tl_slot (h26.1 175 13 (show ¬ ((175 = 175 ∧ 13 = 14) ∨ (175 = 175 ∧ 13 = 15)) by decide))
          refine li_iast dX12_readAct_160 (by decide) sh_188 (tl_in (by omega)) ?_
          refine li_nm (fun M27 eM27 => ?_)
          have hf := li_fs_ui hf (Or.inl rfl) eM27
          have hJ := hJ.st (by decide) (li_el_free (by unfold li_led; omega) (by decide) (by decide) (by unfold li_rq; omega)) eM27
          have rM27_12 := J_sl12 (M := M27) hJ
          have rM27_13 := J_sl13 (M := M27) hJ
          have rM27_14 := J_sl14 (M := M27) hJ
          have rM27_15 := J_sl15 (M := M27) hJ
          have mM27_12 : (M27.1 175 12).toInt = (M25.1 175 12).toInt := by rw [eM27, li_ui_at, if_neg (by decide)]
          have mM27_13 : (M27.1 175 13).toInt = (M25.1 175 13).toInt := by rw [eM27, li_ui_at, if_neg (by decide)]
          have mM27_14 : (M27.1 175 14).toInt = (M25.1 175 14).toInt := by rw [eM27, li_ui_at, if_neg (by decide)]
          have mM27_15 : (M27.1 175 15).toInt = (M25.1 175 15).toInt := by rw [eM27, li_ui_at, if_neg (by decide)]
          exact li_vret dX12_readAct_161 rfl ⟨rfl, hf, hJ, (by first | omega | (intro _; omega) | (refine ⟨?_, ?_⟩ <;> first | omega | (intro _; omega)) | (refine ⟨?_, ?_, ?_, ?_⟩ <;> first | omega | (intro _; omega)))⟩
      refine li_icmp_ne 125 dX12_readAct_106 (by decide) (fun c15 => ?_) (fun c15 => ?_)
      · have tc15 : ¬ x1.toInt = 115 := tl_ne c15
        refine li_pick [0, 1, 2] [(2, .int x1), (0, .ref (Z.2.2 175)), (1, .int p1)] rfl ?_
        exact J125  M14 hf hJ (by omega)
      · have tc15 : x1.toInt = 115 := tl_eq c15
        refine li_aload_n 1 dX12_readAct_109 rfl ?_
        refine li_getr (k := 27) (N := 52) (T := TX12) (C0 := RX12) dX12_readAct_110 (by decide) sh_175 rfl rfl (by decide) (by decide) li_in12 w_1431 ?_
        refine li_iload_n 2 dX12_readAct_113 rfl ?_
        refine li_iconst 2 dX12_readAct_114 (by decide) ?_
        refine li_iadd dX12_readAct_115 ?_
        refine li_top (fun x28 ex28 => ?_)
        have z2 : (2 : Int32).toInt = 2 := rfl
        try (have tx28 : x28.toInt = (p1 : Int32).toInt + (2 : Int32).toInt := tl_add ex28 (by omega))
        refine li_aload_n 1 dX12_readAct_116 rfl ?_
        refine li_bipush 48 dX12_readAct_117 (by decide) ?_
        refine li_iconst 4 dX12_readAct_119 (by decide) ?_
        refine li_iconst (-1) dX12_readAct_120 (by decide) ?_
        have z48 : (48 : Int32).toInt = 48 := rfl
        have z4 : (4 : Int32).toInt = 4 := rfl
        have zm1 : ((-1) : Int32).toInt = -1 := rfl
        refine li_callV (n := 3) (As := [.int 48, .int 4, .int (-1)]) dX12_readAct_121 (k_X12_oneOfW (d - 1) (by omega) 48 4 (-1) M14 hJ (by omega) (by omega)) (by omega) (Nat.le_of_ble_eq_true rfl) w_1593 w_1595 w_46 w_112 w_1596 (by decide +kernel) rfl (by decide) sh_175 rfl rfl (Nat.le_of_ble_eq_true rfl) (fun r M30 h31 => ?_)
        obtain ⟨⟨x29, rfl, qx29⟩, h31, jM30⟩ := h31
        have gx29 := tl_rg x29
        have hf := li_fs_trans hf h31 (fun i k => fun h => Or.elim h (fun h => Or.inr (Or.inl h)) (fun h => Or.inr (Or.inr h)))
        have hJ := jM30
        have rM30_12 := J_sl12 (M := M30) hJ
        have rM30_13 := J_sl13 (M := M30) hJ
        have rM30_14 := J_sl14 (M := M30) hJ
        have rM30_15 := J_sl15 (M := M30) hJ
        have mM30_12 : (M30.1 175 12).toInt = (M14.1 175 12).toInt := tl_slot (h31.1 175 12 (show ¬ ((175 = 175 ∧ 12 = 14) ∨ (175 = 175 ∧ 12 = 15)) by decide))
        have mM30_13 : (M30.1 175 13).toInt = (M14.1 175 13).toInt := tl_slot (h31.1 175 13 (show ¬ ((175 = 175 ∧ 13 = 14) ∨ (175 = 175 ∧ 13 = 15)) by decide))
        refine li_iast dX12_readAct_124 (by decide) sh_188 (tl_in (by omega)) ?_
        refine li_nm (fun M32 eM32 => ?_)
        have hf := li_fs_ui hf (Or.inl rfl) eM32
        have hJ := hJ.st (by decide) (li_el_free (by unfold li_led; omega) (by decide) (by decide) (by unfold li_rq; omega)) eM32
        have rM32_12 := J_sl12 (M := M32) hJ
        have rM32_13 := J_sl13 (M := M32) hJ
        have rM32_14 := J_sl14 (M := M32) hJ
        have rM32_15 := J_sl15 (M := M32) hJ
        have mM32_12 : (M32.1 175 12).toInt = (M30.1 175 12).toInt := by rw [eM32, li_ui_at, if_neg (by decide)]
        have mM32_13 : (M32.1 175 13).toInt = (M30.1 175 13).toInt := by rw [eM32, li_ui_at, if_neg (by decide)]
        have mM32_14 : (M32.1 175 14).toInt = (M30.1 175 14).toInt := by rw [eM32, li_ui_at, if_neg (by decide)]
        have mM32_15 : (M32.1 175 15).toInt = (M30.1 175 15).toInt := by rw [eM32, li_ui_at, if_neg (by decide)]
        refine li_pick [0, 1, 2] [(2, .int x1), (0, .ref (Z.2.2 175)), (1, .int p1)] rfl ?_
        exact J125  M32 hf hJ (by omega)
    refine li_icmp_ne 75 dX12_readAct_64 (by decide) (fun c11 => ?_) (fun c11 => ?_)
    · have tc11 : ¬ x1.toInt = 100 := tl_ne c11
      refine li_iload_n 0 dX12_readAct_75 rfl ?_
      refine li_bipush 103 dX12_readAct_76 (by decide) ?_
      refine li_icmp_ne 93 dX12_readAct_78 (by decide) (fun c33 => ?_) (fun c33 => ?_)
      · have tc33 : ¬ x1.toInt = 103 := tl_ne c33
        refine li_aload_n 1 dX12_readAct_93 rfl ?_
        refine li_bipush 48 dX12_readAct_94 (by decide) ?_
        refine li_bipush 10 dX12_readAct_96 (by decide) ?_
        refine li_iconst (-1) dX12_readAct_98 (by decide) ?_
        have z48 : (48 : Int32).toInt = 48 := rfl
        have z10 : (10 : Int32).toInt = 10 := rfl
        have zm1 : ((-1) : Int32).toInt = -1 := rfl
        refine li_callV (n := 3) (As := [.int 48, .int 10, .int (-1)]) dX12_readAct_99 (k_X12_oneOfW (d - 1) (by omega) 48 10 (-1) M9 hJ (by omega) (by omega)) (by omega) (Nat.le_of_ble_eq_true rfl) w_1593 w_1595 w_46 w_112 w_1596 (by decide +kernel) rfl (by decide) sh_175 rfl rfl (Nat.le_of_ble_eq_true rfl) (fun r M35 h36 => ?_)
        obtain ⟨⟨x34, rfl, qx34⟩, h36, jM35⟩ := h36
        have gx34 := tl_rg x34
        have hf := li_fs_trans hf h36 (fun i k => fun h => Or.elim h (fun h => Or.inr (Or.inl h)) (fun h => Or.inr (Or.inr h)))
        have hJ := jM35
        have rM35_12 := J_sl12 (M := M35) hJ
        have rM35_13 := J_sl13 (M := M35) hJ
        have rM35_14 := J_sl14 (M := M35) hJ
        have rM35_15 := J_sl15 (M := M35) hJ
        have mM35_12 : (M35.1 175 12).toInt = (M9.1 175 12).toInt := tl_slot (h36.1 175 12 (show ¬ ((175 = 175 ∧ 12 = 14) ∨ (175 = 175 ∧ 12 = 15)) by decide))
        have mM35_13 : (M35.1 175 13).toInt = (M9.1 175 13).toInt := tl_slot (h36.1 175 13 (show ¬ ((175 = 175 ∧ 13 = 14) ∨ (175 = 175 ∧ 13 = 15)) by decide))
        refine li_pick [0, 1, 2] [(2, .int x1), (0, .ref (Z.2.2 175)), (1, .int p1)] rfl ?_
        exact J102 x34 M35 hf hJ (by omega)
      · have tc33 : x1.toInt = 103 := tl_eq c33
        refine li_aload_n 1 dX12_readAct_81 rfl ?_
        refine li_bipush 97 dX12_readAct_82 (by decide) ?_
        refine li_bipush 6 dX12_readAct_84 (by decide) ?_
        refine li_iconst (-1) dX12_readAct_86 (by decide) ?_
        have z97 : (97 : Int32).toInt = 97 := rfl
        have z6 : (6 : Int32).toInt = 6 := rfl
        have zm1 : ((-1) : Int32).toInt = -1 := rfl
        refine li_callV (n := 3) (As := [.int 97, .int 6, .int (-1)]) dX12_readAct_87 (k_X12_oneOfW (d - 1) (by omega) 97 6 (-1) M9 hJ (by omega) (by omega)) (by omega) (Nat.le_of_ble_eq_true rfl) w_1593 w_1595 w_46 w_112 w_1596 (by decide +kernel) rfl (by decide) sh_175 rfl rfl (Nat.le_of_ble_eq_true rfl) (fun r M38 h39 => ?_)
        obtain ⟨⟨x37, rfl, qx37⟩, h39, jM38⟩ := h39
        have gx37 := tl_rg x37
        have hf := li_fs_trans hf h39 (fun i k => fun h => Or.elim h (fun h => Or.inr (Or.inl h)) (fun h => Or.inr (Or.inr h)))
        have hJ := jM38
        have rM38_12 := J_sl12 (M := M38) hJ
        have rM38_13 := J_sl13 (M := M38) hJ
        have rM38_14 := J_sl14 (M := M38) hJ
        have rM38_15 := J_sl15 (M := M38) hJ
        have mM38_12 : (M38.1 175 12).toInt = (M9.1 175 12).toInt := tl_slot (h39.1 175 12 (show ¬ ((175 = 175 ∧ 12 = 14) ∨ (175 = 175 ∧ 12 = 15)) by decide))
        have mM38_13 : (M38.1 175 13).toInt = (M9.1 175 13).toInt := tl_slot (h39.1 175 13 (show ¬ ((175 = 175 ∧ 13 = 14) ∨ (175 = 175 ∧ 13 = 15)) by decide))
        refine li_goto 102 dX12_readAct_90 (by decide) ?_
        refine li_pick [0, 1, 2] [(2, .int x1), (0, .ref (Z.2.2 175)), (1, .int p1)] rfl ?_
        exact J102 x37 M38 hf hJ (by omega)
    · have tc11 : x1.toInt = 100 := tl_eq c11
      refine li_aload_n 1 dX12_readAct_67 rfl ?_
      refine li_iconst 2 dX12_readAct_68 (by decide) ?_
      have z2 : (2 : Int32).toInt = 2 := rfl
      refine li_callV (n := 1) (As := [.int 2]) dX12_readAct_69 (k_X12_numberW (d - 1) (by omega) 2 M9 hJ ) (by omega) (Nat.le_of_ble_eq_true rfl) w_1589 w_1591 w_45 w_112 w_1592 (by decide +kernel) rfl (by decide) sh_175 rfl rfl (Nat.le_of_ble_eq_true rfl) (fun r M41 h42 => ?_)
      obtain ⟨⟨x40, rfl, qx40⟩, h42, jM41⟩ := h42
      have gx40 := tl_rg x40
      have hf := li_fs_trans hf h42 (fun i k => fun h => Or.elim h (fun h => Or.inr (Or.inl h)) (fun h => Or.inr (Or.inr h)))
      have hJ := jM41
      have rM41_12 := J_sl12 (M := M41) hJ
      have rM41_13 := J_sl13 (M := M41) hJ
      have rM41_14 := J_sl14 (M := M41) hJ
      have rM41_15 := J_sl15 (M := M41) hJ
      have mM41_12 : (M41.1 175 12).toInt = (M9.1 175 12).toInt := tl_slot (h42.1 175 12 (show ¬ ((175 = 175 ∧ 12 = 14) ∨ (175 = 175 ∧ 12 = 15)) by decide))
      have mM41_13 : (M41.1 175 13).toInt = (M9.1 175 13).toInt := tl_slot (h42.1 175 13 (show ¬ ((175 = 175 ∧ 13 = 14) ∨ (175 = 175 ∧ 13 = 15)) by decide))
      refine li_goto 102 dX12_readAct_72 (by decide) ?_
      refine li_pick [0, 1, 2] [(2, .int x1), (0, .ref (Z.2.2 175)), (1, .int p1)] rfl ?_
      exact J102 x40 M41 hf hJ (by omega)
  refine li_icmp_eq 37 dX12_readAct_8 (by decide) (fun c4 => ?_) (fun c4 => ?_)
  · have tc4 : x1.toInt = 115 := tl_eq c4
    refine li_pick [0, 1, 2] [(2, .int x1), (0, .ref (Z.2.2 175)), (1, .int p1)] rfl ?_
    exact J37  M2 hf hJ (by omega)
  · have tc4 : ¬ x1.toInt = 115 := tl_ne c4
    refine li_iload_n 0 dX12_readAct_11 rfl ?_
    refine li_bipush 98 dX12_readAct_12 (by decide) ?_
    refine li_icmp_eq 37 dX12_readAct_14 (by decide) (fun c43 => ?_) (fun c43 => ?_)
    · have tc43 : x1.toInt = 98 := tl_eq c43
      refine li_pick [0, 1, 2] [(2, .int x1), (0, .ref (Z.2.2 175)), (1, .int p1)] rfl ?_
      exact J37  M2 hf hJ (by omega)
    · have tc43 : ¬ x1.toInt = 98 := tl_ne c43
      refine li_iload_n 0 dX12_readAct_17 rfl ?_
      refine li_bipush 103 dX12_readAct_18 (by decide) ?_
      refine li_icmp_eq 37 dX12_readAct_20 (by decide) (fun c44 => ?_) (fun c44 => ?_)
      · have tc44 : x1.toInt = 103 := tl_eq c44
        refine li_pick [0, 1, 2] [(2, .int x1), (0, .ref (Z.2.2 175)), (1, .int p1)] rfl ?_
        exact J37  M2 hf hJ (by omega)
      · have tc44 : ¬ x1.toInt = 103 := tl_ne c44
        refine li_iload_n 0 dX12_readAct_23 rfl ?_
        refine li_bipush 100 dX12_readAct_24 (by decide) ?_
        refine li_icmp_eq 37 dX12_readAct_26 (by decide) (fun c45 => ?_) (fun c45 => ?_)
        · have tc45 : x1.toInt = 100 := tl_eq c45
          refine li_pick [0, 1, 2] [(2, .int x1), (0, .ref (Z.2.2 175)), (1, .int p1)] rfl ?_
          exact J37  M2 hf hJ (by omega)
        · have tc45 : ¬ x1.toInt = 100 := tl_ne c45
          refine li_aload_n 1 dX12_readAct_29 rfl ?_
          refine li_aload_n 1 dX12_readAct_30 rfl ?_
          refine li_geti (k := 14) (N := 52) (T := TX12) (C0 := RX12) dX12_readAct_31 (by decide) sh_175 rfl rfl (by decide) li_in12 w_1418 ?_
          refine li_top (fun x46 ex46 => ?_)
          have gx46 : 0 ≤ x46.toInt ∧ x46.toInt ≤ 81 := by rw [ex46]; exact J_sl14 hJ
          have mx46 : x46.toInt = (M2.1 175 14).toInt := tl_slot ex46
          refine li_callV (n := 1) (As := [.int x46]) dX12_readAct_34 (k_X12_faultW (d - 1) (by omega) x46 M2 hJ (by omega)) (by omega) (Nat.le_of_ble_eq_true rfl) w_1585 w_1587 w_44 w_112 w_1588 (by decide +kernel) rfl (by decide) sh_175 rfl rfl (Nat.le_of_ble_eq_true rfl) (fun r M48 h49 => ?_)
          obtain ⟨rfl, h49, jM48, nM48⟩ := h49
          have hf := li_fs_trans hf h49 (fun i k => fun h => Or.inr (Or.inr h))
          have hJ := jM48
          have rM48_12 := J_sl12 (M := M48) hJ
          have rM48_13 := J_sl13 (M := M48) hJ
          have rM48_14 := J_sl14 (M := M48) hJ
          have rM48_15 := J_sl15 (M := M48) hJ
          have mM48_12 : (M48.1 175 12).toInt = (M2.1 175 12).toInt := tl_slot (h49.1 175 12 (show ¬ ((175 = 175 ∧ 12 = 15)) by decide))
          have mM48_13 : (M48.1 175 13).toInt = (M2.1 175 13).toInt := tl_slot (h49.1 175 13 (show ¬ ((175 = 175 ∧ 13 = 15)) by decide))
          have mM48_14 : (M48.1 175 14).toInt = (M2.1 175 14).toInt := tl_slot (h49.1 175 14 (show ¬ ((175 = 175 ∧ 14 = 15)) by decide))
          refine li_pick [0, 1, 2] [(2, .int x1), (0, .ref (Z.2.2 175)), (1, .int p1)] rfl ?_
          exact J37  M48 hf hJ (by omega)
set_option maxRecDepth 100000 in
set_option maxHeartbeats 4000000 in
theorem k_X12_act {l : Launch} {Z : li_Z} (d : Nat) (hd : 342 ≤ d) (p1 p2 p3 p4 : Int32) (M0 : li_M) (hJ : li_J M0) : li_Met l Z YX12_act d [.ref (Z.2.2 175), .int p1, .int p2, .int p3, .int p4] M0 (fun r M' => ((r = some (.int 1) ∧ True) ∨ (r = some (.int 0) ∧ True)) ∧ li_fs (fun i k => i = 176 ∨ i = 185 ∨ i = 1000 ∨ (i = 175 ∧ k = 12) ∨ (i = 175 ∧ k = 13) ∨ (i = 175 ∧ k = 14) ∨ (i = 175 ∧ k = 15) ∨ (i = 175 ∧ k = 20) ∨ (i = 175 ∧ k = 25) ∨ (i = 175 ∧ k = 26) ∨ (i = 175 ∧ k = 28)) M0 M' ∧ li_J M') := by
  refine li_enter (by decide +kernel) (Nat.le_of_ble_eq_true rfl) ?_
  show li_T l Z YX12_act d 0 [(0, .ref (Z.2.2 175)), (1, .int p1), (2, .int p2), (3, .int p3), (4, .int p4)] [] M0 _
  have hf : li_fs (fun i k => i = 176 ∨ i = 185 ∨ i = 1000 ∨ (i = 175 ∧ k = 12) ∨ (i = 175 ∧ k = 13) ∨ (i = 175 ∧ k = 14) ∨ (i = 175 ∧ k = 15) ∨ (i = 175 ∧ k = 20) ∨ (i = 175 ∧ k = 25) ∨ (i = 175 ∧ k = 26) ∨ (i = 175 ∧ k = 28)) M0 M0 := li_fs_refl
  have gp1 := tl_rg p1
  have gp2 := tl_rg p2
  have gp3 := tl_rg p3
  have gp4 := tl_rg p4
  have rM0_4 := J_sl4 (M := M0) hJ
  refine li_iload_n 1 dX12_act_0 rfl ?_
  refine li_bipush 100 dX12_act_1 (by decide) ?_
  refine li_icmp_ne 17 dX12_act_3 (by decide) (fun c1 => ?_) (fun c1 => ?_)
  · have tc1 : ¬ p1.toInt = 100 := tl_ne c1
    refine li_iload_n 1 dX12_act_17 rfl ?_
    refine li_bipush 103 dX12_act_18 (by decide) ?_
    refine li_icmp_ne 50 dX12_act_20 (by decide) (fun c2 => ?_) (fun c2 => ?_)
    · have tc2 : ¬ p1.toInt = 103 := tl_ne c2
      refine li_aload_n 0 dX12_act_50 rfl ?_
      refine li_iload_n 2 dX12_act_51 rfl ?_
      refine li_callV (n := 1) (As := [.int p2]) dX12_act_52 (k_X12_isThing (d - 1) (by omega) p2 M0 hJ ) (by omega) (Nat.le_of_ble_eq_true rfl) w_1664 w_1666 w_59 w_112 w_1667 (by decide +kernel) rfl (by decide) sh_175 rfl rfl (Nat.le_of_ble_eq_true rfl) (fun r M4 h5 => ?_)
      obtain ⟨qx3, h5, jM4⟩ := h5
      have hf := li_fs_trans hf h5 (fun i k h => False.elim h)
      have hJ := jM4
      have rM4_4 := J_sl4 (M := M4) hJ
      have mM4_4 : (M4.1 175 4).toInt = (M0.1 175 4).toInt := tl_slot (h5.1 175 4 id)
      rcases qx3 with ⟨rfl, qx3⟩ | ⟨rfl, qx3⟩
      · skip
        refine li_if_ne 60 dX12_act_55 (by decide) (fun c => ?_) (fun c => absurd c (by decide))
        refine li_iload_n 1 dX12_act_60 rfl ?_
        refine li_bipush 115 dX12_act_61 (by decide) ?_
        have J79 : ∀ (x8 : Int32) (M9 : li_M), li_fs (fun i k => i = 176 ∨ i = 185 ∨ i = 1000 ∨ (i = 175 ∧ k = 12) ∨ (i = 175 ∧ k = 13) ∨ (i = 175 ∧ k = 14) ∨ (i = 175 ∧ k = 15) ∨ (i = 175 ∧ k = 20) ∨ (i = 175 ∧ k = 25) ∨ (i = 175 ∧ k = 26) ∨ (i = 175 ∧ k = 28)) M0 M9 → li_J M9 → li_T l Z YX12_act d 79 [(0, .ref (Z.2.2 175)), (1, .int p1), (2, .int p2), (3, .int p3), (4, .int p4)] [.int x8] M9 (fun r M' => ((r = some (.int 1) ∧ True) ∨ (r = some (.int 0) ∧ True)) ∧ li_fs (fun i k => i = 176 ∨ i = 185 ∨ i = 1000 ∨ (i = 175 ∧ k = 12) ∨ (i = 175 ∧ k = 13) ∨ (i = 175 ∧ k = 14) ∨ (i = 175 ∧ k = 15) ∨ (i = 175 ∧ k = 20) ∨ (i = 175 ∧ k = 25) ∨ (i = 175 ∧ k = 26) ∨ (i = 175 ∧ k = 28)) M0 M' ∧ li_J M') := by
          intro x8 M9 hf hJ
          have gx8 := tl_rg x8
          have rM9_4 := J_sl4 (M := M9) hJ
          have mM9_4 : (M9.1 175 4).toInt = (M0.1 175 4).toInt := tl_slot (hf.1 175 4 (show ¬ (175 = 176 ∨ 175 = 185 ∨ 175 = 1000 ∨ (175 = 175 ∧ 4 = 12) ∨ (175 = 175 ∧ 4 = 13) ∨ (175 = 175 ∧ 4 = 14) ∨ (175 = 175 ∧ 4 = 15) ∨ (175 = 175 ∧ 4 = 20) ∨ (175 = 175 ∧ 4 = 25) ∨ (175 = 175 ∧ 4 = 26) ∨ (175 = 175 ∧ 4 = 28)) by decide))
          refine li_istore [(5, .int x8), (0, .ref (Z.2.2 175)), (1, .int p1), (2, .int p2), (3, .int p3), (4, .int p4)] dX12_act_79 (by decide) rfl ?_
          refine li_aload_n 1 dX12_act_81 rfl ?_
          refine li_aload_n 1 dX12_act_82 rfl ?_
          refine li_getr (k := 0) (N := 52) (T := TX12) (C0 := RX12) dX12_act_83 (by decide) sh_175 rfl rfl (by decide) (by decide) li_in12 w_1404 ?_
          refine li_iload_n 3 dX12_act_86 rfl ?_
          refine li_iload 0 dX12_act_87 rfl ?_
          refine li_callV (n := 3) (As := [.ref (Z.2.2 176), .int p2, .int x8]) dX12_act_89 (k_X12_refusesSay (d - 1) (by omega) la_176 p2 x8 M9 hJ ) (by omega) (Nat.le_of_ble_eq_true rfl) w_1730 w_1732 w_69 w_112 w_1733 (by decide +kernel) rfl (by decide) sh_175 rfl rfl (Nat.le_of_ble_eq_true rfl) (fun r M11 h12 => ?_)
          obtain ⟨⟨x10, rfl, qx10⟩, h12, jM11⟩ := h12
          have gx10 := tl_rg x10
          have hf := li_fs_trans hf h12 (fun i k => fun h => Or.elim h (fun h => Or.inr (Or.inl h)) (fun h => Or.elim h (fun h => Or.inr (Or.inr (Or.inl h))) (fun h => Or.elim h (fun h => Or.inr (Or.inr (Or.inr (Or.inl h)))) (fun h => Or.elim h (fun h => Or.inr (Or.inr (Or.inr (Or.inr (Or.inl h))))) (fun h => Or.elim h (fun h => Or.inr (Or.inr (Or.inr (Or.inr (Or.inr (Or.inl h)))))) (fun h => Or.elim h (fun h => Or.inr (Or.inr (Or.inr (Or.inr (Or.inr (Or.inr (Or.inl h))))))) (fun h => Or.inr (Or.inr (Or.inr (Or.inr (Or.inr (Or.inr (Or.inr (Or.inl h))))))))))))))
          have hJ := jM11
          have rM11_4 := J_sl4 (M := M11) hJ
          have mM11_4 : (M11.1 175 4).toInt = (M9.1 175 4).toInt := tl_slot (h12.1 175 4 (show ¬ (175 = 185 ∨ 175 = 1000 ∨ (175 = 175 ∧ 4 = 12) ∨ (175 = 175 ∧ 4 = 13) ∨ (175 = 175 ∧ 4 = 14) ∨ (175 = 175 ∧ 4 = 15) ∨ (175 = 175 ∧ 4 = 20)) by decide))
          refine li_if_ge 97 dX12_act_92 (by decide) (fun c13 => ?_) (fun c13 => ?_)
          · have tc13 : 0 ≤ x10.toInt := tl_le c13
            refine li_aload_n 1 dX12_act_97 rfl ?_
            refine li_dup dX12_act_98 rfl ?_
            refine li_geti (k := 28) (N := 52) (T := TX12) (C0 := RX12) dX12_act_99 (by decide) sh_175 rfl rfl (by decide) li_in12 w_1432 ?_
            refine li_top (fun x14 ex14 => ?_)
            have gx14 := tl_rg x14
            have mx14 : x14.toInt = (M11.1 175 28).toInt := tl_slot ex14
            refine li_aload_n 1 dX12_act_102 rfl ?_
            refine li_aload_n 1 dX12_act_103 rfl ?_
            refine li_getr (k := 0) (N := 52) (T := TX12) (C0 := RX12) dX12_act_104 (by decide) sh_175 rfl rfl (by decide) (by decide) li_in12 w_1404 ?_
            refine li_iload_n 3 dX12_act_107 rfl ?_
            refine li_iload 0 dX12_act_108 rfl ?_
            refine li_callV (n := 3) (As := [.ref (Z.2.2 176), .int p2, .int x8]) dX12_act_110 (k_X12_goSay (d - 1) (by omega) la_176 p2 x8 M11 hJ (by omega)) (by omega) (Nat.le_of_ble_eq_true rfl) w_1748 w_1750 w_72 w_112 w_1751 (by decide +kernel) rfl (by decide) sh_175 rfl rfl (Nat.le_of_ble_eq_true rfl) (fun r M16 h17 => ?_)
            obtain ⟨⟨x15, rfl⟩, h17, jM16⟩ := h17
            have gx15 := tl_rg x15
            have hf := li_fs_trans hf h17 (fun i k => fun h => Or.elim h (fun h => Or.inl h) (fun h => Or.elim h (fun h => Or.inr (Or.inl h)) (fun h => Or.elim h (fun h => Or.inr (Or.inr (Or.inl h))) (fun h => Or.elim h (fun h => Or.inr (Or.inr (Or.inr (Or.inl h)))) (fun h => Or.elim h (fun h => Or.inr (Or.inr (Or.inr (Or.inr (Or.inl h))))) (fun h => Or.elim h (fun h => Or.inr (Or.inr (Or.inr (Or.inr (Or.inr (Or.inl h)))))) (fun h => Or.elim h (fun h => Or.inr (Or.inr (Or.inr (Or.inr (Or.inr (Or.inr (Or.inl h))))))) (fun h => Or.inr (Or.inr (Or.inr (Or.inr (Or.inr (Or.inr (Or.inr (Or.inl h)))))))))))))))
            have hJ := jM16
            have rM16_4 := J_sl4 (M := M16) hJ
            have mM16_4 : (M16.1 175 4).toInt = (M11.1 175 4).toInt := tl_slot (h17.1 175 4 (show ¬ (175 = 176 ∨ 175 = 185 ∨ 175 = 1000 ∨ (175 = 175 ∧ 4 = 12) ∨ (175 = 175 ∧ 4 = 13) ∨ (175 = 175 ∧ 4 = 14) ∨ (175 = 175 ∧ 4 = 15) ∨ (175 = 175 ∧ 4 = 20)) by decide))
            refine li_iadd dX12_act_113 ?_
            refine li_top (fun x18 ex18 => ?_)
            try (have tx18 : x18.toInt = (x14 : Int32).toInt + (x15 : Int32).toInt := tl_add ex18 (by omega))
            refine li_puti (k := 28) (N := 52) (T := TX12) (C0 := RX12) dX12_act_114 (by decide) sh_175 rfl rfl (by decide) li_in12 tyX12_ok nmX12 rfl rfl rfl rfl w_1432 ?_
            refine li_nm (fun M19 eM19 => ?_)
            have hf := li_fs_ui hf (Or.inr (Or.inr (Or.inr (Or.inr (Or.inr (Or.inr (Or.inr (Or.inr (Or.inr (Or.inr (⟨rfl, rfl⟩))))))))))) eM19
            have hJ := hJ.put (k := 28) (by decide) (rg_free rfl) eM19
            have rM19_4 := J_sl4 (M := M19) hJ
            have mM19_4 : (M19.1 175 4).toInt = (M16.1 175 4).toInt := by rw [eM19, li_ui_at, if_pos rfl, if_neg (by decide)]
            refine li_iconst 1 dX12_act_117 (by decide) ?_
            have z1 : (1 : Int32).toInt = 1 := rfl
            exact li_iret dX12_act_118 rfl (li_nz (Or.inr rfl)) ⟨Or.inl ⟨rfl, trivial⟩, hf, hJ⟩
          · have tc13 : x10.toInt < 0 := tl_nle c13
            refine li_iconst 0 dX12_act_95 (by decide) ?_
            have z0 : (0 : Int32).toInt = 0 := rfl
            exact li_iret dX12_act_96 rfl (li_nz (Or.inl rfl)) ⟨Or.inr ⟨rfl, trivial⟩, hf, hJ⟩
        refine li_icmp_ne 70 dX12_act_63 (by decide) (fun c7 => ?_) (fun c7 => ?_)
        · have tc7 : ¬ p1.toInt = 115 := tl_ne c7
          refine li_aload_n 0 dX12_act_70 rfl ?_
          refine li_aload_n 0 dX12_act_71 rfl ?_
          refine li_getr (k := 0) (N := 52) (T := TX12) (C0 := RX12) dX12_act_72 (by decide) sh_175 rfl rfl (by decide) (by decide) li_in12 w_1404 ?_
          refine li_iload_n 2 dX12_act_75 rfl ?_
          refine li_callV (n := 2) (As := [.ref (Z.2.2 176), .int p2]) dX12_act_76 (k_X12_bestWayOf (d - 1) (by omega) la_176 p2 M4 hJ (by omega)) (by omega) (Nat.le_of_ble_eq_true rfl) w_1677 w_1679 w_62 w_112 w_1680 (by decide +kernel) rfl (by decide) sh_175 rfl rfl (Nat.le_of_ble_eq_true rfl) (fun r M21 h22 => ?_)
          obtain ⟨⟨x20, rfl⟩, h22, jM21⟩ := h22
          have gx20 := tl_rg x20
          have hf := li_fs_trans hf h22 (fun i k => fun h => Or.elim h (fun h => Or.inr (Or.inl h)) (fun h => Or.elim h (fun h => Or.inr (Or.inr (Or.inl h))) (fun h => Or.elim h (fun h => Or.inr (Or.inr (Or.inr (Or.inl h)))) (fun h => Or.elim h (fun h => Or.inr (Or.inr (Or.inr (Or.inr (Or.inl h))))) (fun h => Or.elim h (fun h => Or.inr (Or.inr (Or.inr (Or.inr (Or.inr (Or.inl h)))))) (fun h => Or.elim h (fun h => Or.inr (Or.inr (Or.inr (Or.inr (Or.inr (Or.inr (Or.inl h))))))) (fun h => Or.inr (Or.inr (Or.inr (Or.inr (Or.inr (Or.inr (Or.inr (Or.inl h))))))))))))))
          have hJ := jM21
          have rM21_4 := J_sl4 (M := M21) hJ
          have mM21_4 : (M21.1 175 4).toInt = (M4.1 175 4).toInt := tl_slot (h22.1 175 4 (show ¬ (175 = 185 ∨ 175 = 1000 ∨ (175 = 175 ∧ 4 = 12) ∨ (175 = 175 ∧ 4 = 13) ∨ (175 = 175 ∧ 4 = 14) ∨ (175 = 175 ∧ 4 = 15) ∨ (175 = 175 ∧ 4 = 20)) by decide))
          refine li_pick [0, 1, 2, 3, 4] [(0, .ref (Z.2.2 175)), (1, .int p1), (2, .int p2), (3, .int p3), (4, .int p4)] rfl ?_
          exact J79 x20 M21 hf hJ
        · have tc7 : p1.toInt = 115 := tl_eq c7
          refine li_iload_n 3 dX12_act_66 rfl ?_
          refine li_goto 79 dX12_act_67 (by decide) ?_
          refine li_pick [0, 1, 2, 3, 4] [(0, .ref (Z.2.2 175)), (1, .int p1), (2, .int p2), (3, .int p3), (4, .int p4)] rfl ?_
          exact J79 p3 M4 hf hJ
      · skip
        refine li_if_ne 60 dX12_act_55 (by decide) (fun c => absurd rfl c) (fun c => ?_)
        refine li_iconst 0 dX12_act_58 (by decide) ?_
        have z0 : (0 : Int32).toInt = 0 := rfl
        exact li_iret dX12_act_59 rfl (li_nz (Or.inl rfl)) ⟨Or.inr ⟨rfl, trivial⟩, hf, hJ⟩
    · have tc2 : p1.toInt = 103 := tl_eq c2
      refine li_aload_n 0 dX12_act_23 rfl ?_
      refine li_iload_n 2 dX12_act_24 rfl ?_
      refine li_iload_n 3 dX12_act_25 rfl ?_
      refine li_iload 4 dX12_act_26 rfl ?_
      refine li_callV (n := 3) (As := [.int p2, .int p3, .int p4]) dX12_act_28 (k_X12_refusesGive (d - 1) (by omega) p2 p3 p4 M0 hJ ) (by omega) (Nat.le_of_ble_eq_true rfl) w_1756 w_1758 w_73 w_112 w_1759 (by decide +kernel) rfl (by decide) sh_175 rfl rfl (Nat.le_of_ble_eq_true rfl) (fun r M25 h26 => ?_)
      obtain ⟨⟨x24, rfl, qx24⟩, h26, jM25⟩ := h26
      have gx24 := tl_rg x24
      have hf := li_fs_trans hf h26 (fun i k h => False.elim h)
      have hJ := jM25
      have rM25_4 := J_sl4 (M := M25) hJ
      have mM25_4 : (M25.1 175 4).toInt = (M0.1 175 4).toInt := tl_slot (h26.1 175 4 id)
      refine li_if_ge 36 dX12_act_31 (by decide) (fun c27 => ?_) (fun c27 => ?_)
      · have tc27 : 0 ≤ x24.toInt := tl_le c27
        refine li_aload_n 0 dX12_act_36 rfl ?_
        refine li_getr (k := 0) (N := 52) (T := TX12) (C0 := RX12) dX12_act_37 (by decide) sh_175 rfl rfl (by decide) (by decide) li_in12 w_1404 ?_
        refine li_iload_n 2 dX12_act_40 rfl ?_
        refine li_iload_n 3 dX12_act_41 rfl ?_
        refine li_iload 4 dX12_act_42 rfl ?_
        refine li_callS (n := 4) (As := [.ref (Z.2.2 176), .int p2, .int p3, .int p4]) dX12_act_44 (k_X12_goGive (d - 1) (by omega) la_176 p2 p3 p4 M25 hJ (by omega) (by omega)) (by omega) (Nat.le_of_ble_eq_true rfl) w_1764 w_1765 w_112 w_1766 (by decide +kernel) rfl rfl (Nat.le_of_ble_eq_true rfl) (fun r M29 h30 => ?_)
        obtain ⟨⟨x28, rfl⟩, h30, jM29⟩ := h30
        have gx28 := tl_rg x28
        have hf := li_fs_trans hf h30 (fun i k => fun h => Or.inl h)
        have hJ := jM29
        have rM29_4 := J_sl4 (M := M29) hJ
        have mM29_4 : (M29.1 175 4).toInt = (M25.1 175 4).toInt := tl_slot (h30.1 175 4 (show ¬ (175 = 176) by decide))
        refine li_pop dX12_act_47 rfl ?_
        refine li_iconst 1 dX12_act_48 (by decide) ?_
        have z1 : (1 : Int32).toInt = 1 := rfl
        exact li_iret dX12_act_49 rfl (li_nz (Or.inr rfl)) ⟨Or.inl ⟨rfl, trivial⟩, hf, hJ⟩
      · have tc27 : x24.toInt < 0 := tl_nle c27
        refine li_iconst 0 dX12_act_34 (by decide) ?_
        have z0 : (0 : Int32).toInt = 0 := rfl
        exact li_iret dX12_act_35 rfl (li_nz (Or.inl rfl)) ⟨Or.inr ⟨rfl, trivial⟩, hf, hJ⟩
  · have tc1 : p1.toInt = 100 := tl_eq c1
    refine li_aload_n 0 dX12_act_6 rfl ?_
    refine li_aload_n 0 dX12_act_7 rfl ?_
    refine li_getr (k := 0) (N := 52) (T := TX12) (C0 := RX12) dX12_act_8 (by decide) sh_175 rfl rfl (by decide) (by decide) li_in12 w_1404 ?_
    refine li_iload_n 2 dX12_act_11 rfl ?_
    refine li_callV (n := 2) (As := [.ref (Z.2.2 176), .int p2]) dX12_act_12 (k_X12_goDays (d - 1) (by omega) la_176 p2 M0 hJ ) (by omega) (Nat.le_of_ble_eq_true rfl) w_1775 w_1777 w_75 w_112 w_1778 (by decide +kernel) rfl (by decide) sh_175 rfl rfl (Nat.le_of_ble_eq_true rfl) (fun r M32 h33 => ?_)
    obtain ⟨rfl, h33, jM32⟩ := h33
    have hf := li_fs_trans hf h33 (fun i k => fun h => Or.elim h (fun h => Or.inl h) (fun h => Or.elim h (fun h => Or.inr (Or.inr (Or.inr (Or.inr (Or.inr (Or.inr (Or.inr (Or.inr (Or.inl h))))))))) (fun h => Or.inr (Or.inr (Or.inr (Or.inr (Or.inr (Or.inr (Or.inr (Or.inr (Or.inr (Or.inl h))))))))))))
    have hJ := jM32
    have rM32_4 := J_sl4 (M := M32) hJ
    have mM32_4 : (M32.1 175 4).toInt = (M0.1 175 4).toInt := tl_slot (h33.1 175 4 (show ¬ (175 = 176 ∨ (175 = 175 ∧ 4 = 25) ∨ (175 = 175 ∧ 4 = 26)) by decide))
    refine li_iconst 1 dX12_act_15 (by decide) ?_
    have z1 : (1 : Int32).toInt = 1 := rfl
    exact li_iret dX12_act_16 rfl (li_nz (Or.inr rfl)) ⟨Or.inl ⟨rfl, trivial⟩, hf, hJ⟩
