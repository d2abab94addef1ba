theorem w_99 : (Jvm.Cond.selects "ClockForTalkModel" ({ cls := "ClockForTalkModel", name := "isStruck", desc := "(II)Z" } : Jvm.MethodName) ({ cls := "ClockForTalkModel", name := "isStruck", desc := "(II)Z" } : Jvm.MethodName)) ∈ li_ws := li_mem 99 (by decide +kernel) (by decide +kernel)
theorem w_1451 : (Jvm.Cond.fieldLink "ClockForTalkModel" (91 : Nat) "ClockForTalkModel" "then" "[I") ∈ li_ws := li_mem 1451 (by decide +kernel) (by decide +kernel)
theorem w_1453 : (Jvm.Cond.fieldLink "ClockForTalkModel" (94 : Nat) "ClockForTalkModel" "kept" "[I") ∈ li_ws := li_mem 1453 (by decide +kernel) (by decide +kernel)
theorem w_1454 : (Jvm.Cond.fieldLink "ClockForTalkModel" (97 : Nat) "ClockForTalkModel" "isKept" "[Z") ∈ li_ws := li_mem 1454 (by decide +kernel) (by decide +kernel)
theorem w_1455 : (Jvm.Cond.fieldLink "ClockForTalkModel" (100 : Nat) "ClockForTalkModel" "keptCame" "[I") ∈ li_ws := li_mem 1455 (by decide +kernel) (by decide +kernel)
theorem w_1959 : (Jvm.Cond.methodLink "ClockForTalkModel" (411 : Nat) ({ cls := "ClockForTalkModel", name := "isStruck", desc := "(II)Z" } : Jvm.MethodName)) ∈ li_ws := li_mem 1959 (by decide +kernel) (by decide +kernel)
theorem w_1961 : (Jvm.Cond.instanceMethod ({ cls := "ClockForTalkModel", name := "isStruck", desc := "(II)Z" } : Jvm.MethodName)) ∈ li_ws := li_mem 1961 (by decide +kernel) (by decide +kernel)
theorem w_1962 : (Jvm.Cond.code ({ cls := "ClockForTalkModel", name := "isStruck", desc := "(II)Z" } : Jvm.MethodName) prog_13_method_103_code (7 : Nat) (Option.some Jvm.ClassFile.FieldType.boolean)) ∈ li_ws := li_mem 1962 (by decide +kernel) (by decide +kernel)
theorem w_1967 : (Jvm.Cond.constant "ClockForTalkModel" (414 : Nat) (1103515245 : Int32)) ∈ li_ws := li_mem 1967 (by decide +kernel) (by decide +kernel)
theorem dX12_isStruck_0 : decode cX12_isStruck 0 = .ok (.iconst 0, 1) := by decide +kernel
theorem dX12_isStruck_1 : decode cX12_isStruck 1 = .ok (.istore_n 3, 1) := by decide +kernel
theorem dX12_isStruck_2 : decode cX12_isStruck 2 = .ok (.aload_n 0, 1) := by decide +kernel
theorem dX12_isStruck_3 : decode cX12_isStruck 3 = .ok (.getfield 9, 3) := by decide +kernel
theorem dX12_isStruck_6 : decode cX12_isStruck 6 = .ok (.iload_n 1, 1) := by decide +kernel
theorem dX12_isStruck_7 : decode cX12_isStruck 7 = .ok (.iaload, 1) := by decide +kernel
theorem dX12_isStruck_8 : decode cX12_isStruck 8 = .ok (.istore 4, 2) := by decide +kernel
theorem dX12_isStruck_10 : decode cX12_isStruck 10 = .ok (.iconst 0, 1) := by decide +kernel
theorem dX12_isStruck_11 : decode cX12_isStruck 11 = .ok (.istore 5, 2) := by decide +kernel
theorem dX12_isStruck_13 : decode cX12_isStruck 13 = .ok (.iload 5, 2) := by decide +kernel
theorem dX12_isStruck_15 : decode cX12_isStruck 15 = .ok (.aload_n 0, 1) := by decide +kernel
theorem dX12_isStruck_16 : decode cX12_isStruck 16 = .ok (.getfield 9, 3) := by decide +kernel
theorem dX12_isStruck_19 : decode cX12_isStruck 19 = .ok (.bipush 20, 2) := by decide +kernel
theorem dX12_isStruck_21 : decode cX12_isStruck 21 = .ok (.iaload, 1) := by decide +kernel
theorem dX12_isStruck_22 : decode cX12_isStruck 22 = .ok (.if_icmp .ge 80, 3) := by decide +kernel
theorem dX12_isStruck_25 : decode cX12_isStruck 25 = .ok (.bipush 21, 2) := by decide +kernel
theorem dX12_isStruck_27 : decode cX12_isStruck 27 = .ok (.iconst 5, 1) := by decide +kernel
theorem dX12_isStruck_28 : decode cX12_isStruck 28 = .ok (.iload 5, 2) := by decide +kernel
theorem dX12_isStruck_30 : decode cX12_isStruck 30 = .ok (.imul, 1) := by decide +kernel
theorem dX12_isStruck_31 : decode cX12_isStruck 31 = .ok (.iadd, 1) := by decide +kernel
theorem dX12_isStruck_32 : decode cX12_isStruck 32 = .ok (.istore 6, 2) := by decide +kernel
theorem dX12_isStruck_34 : decode cX12_isStruck 34 = .ok (.aload_n 0, 1) := by decide +kernel
theorem dX12_isStruck_35 : decode cX12_isStruck 35 = .ok (.getfield 9, 3) := by decide +kernel
theorem dX12_isStruck_38 : decode cX12_isStruck 38 = .ok (.iload 6, 2) := by decide +kernel
theorem dX12_isStruck_40 : decode cX12_isStruck 40 = .ok (.iconst 4, 1) := by decide +kernel
theorem dX12_isStruck_41 : decode cX12_isStruck 41 = .ok (.iadd, 1) := by decide +kernel
theorem dX12_isStruck_42 : decode cX12_isStruck 42 = .ok (.iaload, 1) := by decide +kernel
theorem dX12_isStruck_43 : decode cX12_isStruck 43 = .ok (.iconst 1, 1) := by decide +kernel
theorem dX12_isStruck_44 : decode cX12_isStruck 44 = .ok (.if_icmp .eq 52, 3) := by decide +kernel
theorem dX12_isStruck_47 : decode cX12_isStruck 47 = .ok (.aload_n 0, 1) := by decide +kernel
theorem dX12_isStruck_48 : decode cX12_isStruck 48 = .ok (.getfield 9, 3) := by decide +kernel
theorem dX12_isStruck_51 : decode cX12_isStruck 51 = .ok (.iload 6, 2) := by decide +kernel
theorem dX12_isStruck_53 : decode cX12_isStruck 53 = .ok (.iaload, 1) := by decide +kernel
theorem dX12_isStruck_54 : decode cX12_isStruck 54 = .ok (.iload_n 1, 1) := by decide +kernel
theorem dX12_isStruck_55 : decode cX12_isStruck 55 = .ok (.if_icmp .eq 6, 3) := by decide +kernel
theorem dX12_isStruck_58 : decode cX12_isStruck 58 = .ok (.goto 38, 3) := by decide +kernel
theorem dX12_isStruck_61 : decode cX12_isStruck 61 = .ok (.iload_n 2, 1) := by decide +kernel
theorem dX12_isStruck_62 : decode cX12_isStruck 62 = .ok (.aload_n 0, 1) := by decide +kernel
theorem dX12_isStruck_63 : decode cX12_isStruck 63 = .ok (.getfield 9, 3) := by decide +kernel
theorem dX12_isStruck_66 : decode cX12_isStruck 66 = .ok (.iload 6, 2) := by decide +kernel
theorem dX12_isStruck_68 : decode cX12_isStruck 68 = .ok (.iconst 1, 1) := by decide +kernel
theorem dX12_isStruck_69 : decode cX12_isStruck 69 = .ok (.iadd, 1) := by decide +kernel
theorem dX12_isStruck_70 : decode cX12_isStruck 70 = .ok (.iaload, 1) := by decide +kernel
theorem dX12_isStruck_71 : decode cX12_isStruck 71 = .ok (.invokestatic 251, 3) := by decide +kernel
theorem dX12_isStruck_74 : decode cX12_isStruck 74 = .ok (.ifCond .eq 8, 3) := by decide +kernel
theorem dX12_isStruck_77 : decode cX12_isStruck 77 = .ok (.iconst 1, 1) := by decide +kernel
theorem dX12_isStruck_78 : decode cX12_isStruck 78 = .ok (.istore_n 3, 1) := by decide +kernel
theorem dX12_isStruck_79 : decode cX12_isStruck 79 = .ok (.goto 17, 3) := by decide +kernel
theorem dX12_isStruck_82 : decode cX12_isStruck 82 = .ok (.iload 4, 2) := by decide +kernel
theorem dX12_isStruck_84 : decode cX12_isStruck 84 = .ok (.aload_n 0, 1) := by decide +kernel
theorem dX12_isStruck_85 : decode cX12_isStruck 85 = .ok (.getfield 9, 3) := by decide +kernel
theorem dX12_isStruck_88 : decode cX12_isStruck 88 = .ok (.iload 6, 2) := by decide +kernel
theorem dX12_isStruck_90 : decode cX12_isStruck 90 = .ok (.iconst 2, 1) := by decide +kernel
theorem dX12_isStruck_91 : decode cX12_isStruck 91 = .ok (.iadd, 1) := by decide +kernel
theorem dX12_isStruck_92 : decode cX12_isStruck 92 = .ok (.iaload, 1) := by decide +kernel
theorem dX12_isStruck_93 : decode cX12_isStruck 93 = .ok (.iadd, 1) := by decide +kernel
theorem dX12_isStruck_94 : decode cX12_isStruck 94 = .ok (.istore 4, 2) := by decide +kernel
theorem dX12_isStruck_96 : decode cX12_isStruck 96 = .ok (.iinc 5 1, 3) := by decide +kernel
theorem dX12_isStruck_99 : decode cX12_isStruck 99 = .ok (.goto (-86), 3) := by decide +kernel
theorem dX12_isStruck_102 : decode cX12_isStruck 102 = .ok (.iload_n 3, 1) := by decide +kernel
theorem dX12_isStruck_103 : decode cX12_isStruck 103 = .ok (.ifCond .eq 18, 3) := by decide +kernel
theorem dX12_isStruck_106 : decode cX12_isStruck 106 = .ok (.iload 4, 2) := by decide +kernel
theorem dX12_isStruck_108 : decode cX12_isStruck 108 = .ok (.aload_n 0, 1) := by decide +kernel
theorem dX12_isStruck_109 : decode cX12_isStruck 109 = .ok (.iload_n 1, 1) := by decide +kernel
theorem dX12_isStruck_110 : decode cX12_isStruck 110 = .ok (.iconst 1, 1) := by decide +kernel
theorem dX12_isStruck_111 : decode cX12_isStruck 111 = .ok (.invokevirtual 262, 3) := by decide +kernel
theorem dX12_isStruck_114 : decode cX12_isStruck 114 = .ok (.if_icmp .ge 7, 3) := by decide +kernel
theorem dX12_isStruck_117 : decode cX12_isStruck 117 = .ok (.iconst 1, 1) := by decide +kernel
theorem dX12_isStruck_118 : decode cX12_isStruck 118 = .ok (.goto 4, 3) := by decide +kernel
theorem dX12_isStruck_121 : decode cX12_isStruck 121 = .ok (.iconst 0, 1) := by decide +kernel
theorem dX12_isStruck_122 : decode cX12_isStruck 122 = .ok (.ireturn, 1) := by decide +kernel
abbrev YX12_isStruck : li_Y := (yX12_isStruck, cX12_isStruck, 7, (some .boolean))
theorem dX12_run_0 : decode cX12_run 0 = .ok (.aload_n 0, 1) := by decide +kernel
theorem dX12_run_1 : decode cX12_run 1 = .ok (.iconst 0, 1) := by decide +kernel
theorem dX12_run_2 : decode cX12_run 2 = .ok (.putfield 103, 3) := by decide +kernel
theorem dX12_run_5 : decode cX12_run 5 = .ok (.aload_n 0, 1) := by decide +kernel
theorem dX12_run_6 : decode cX12_run 6 = .ok (.iload_n 1, 1) := by decide +kernel
theorem dX12_run_7 : decode cX12_run 7 = .ok (.invokevirtual 117, 3) := by decide +kernel
theorem dX12_run_10 : decode cX12_run 10 = .ok (.ifCond .ne 5, 3) := by decide +kernel
theorem dX12_run_13 : decode cX12_run 13 = .ok (.iconst (-1), 1) := by decide +kernel
theorem dX12_run_14 : decode cX12_run 14 = .ok (.ireturn, 1) := by decide +kernel
theorem dX12_run_15 : decode cX12_run 15 = .ok (.aload_n 0, 1) := by decide +kernel
theorem dX12_run_16 : decode cX12_run 16 = .ok (.iload_n 1, 1) := by decide +kernel
theorem dX12_run_17 : decode cX12_run 17 = .ok (.iconst 1, 1) := by decide +kernel
theorem dX12_run_18 : decode cX12_run 18 = .ok (.invokevirtual 262, 3) := by decide +kernel
theorem dX12_run_21 : decode cX12_run 21 = .ok (.ifCond .ne 7, 3) := by decide +kernel
theorem dX12_run_24 : decode cX12_run 24 = .ok (.iconst 0, 1) := by decide +kernel
theorem dX12_run_25 : decode cX12_run 25 = .ok (.goto 6, 3) := by decide +kernel
theorem dX12_run_28 : decode cX12_run 28 = .ok (.iconst 1, 1) := by decide +kernel
theorem dX12_run_29 : decode cX12_run 29 = .ok (.iload_n 1, 1) := by decide +kernel
theorem dX12_run_30 : decode cX12_run 30 = .ok (.ishl, 1) := by decide +kernel
theorem dX12_run_31 : decode cX12_run 31 = .ok (.istore_n 2, 1) := by decide +kernel
theorem dX12_run_32 : decode cX12_run 32 = .ok (.iconst 0, 1) := by decide +kernel
theorem dX12_run_33 : decode cX12_run 33 = .ok (.istore_n 3, 1) := by decide +kernel
theorem dX12_run_34 : decode cX12_run 34 = .ok (.iload_n 3, 1) := by decide +kernel
theorem dX12_run_35 : decode cX12_run 35 = .ok (.aload_n 0, 1) := by decide +kernel
theorem dX12_run_36 : decode cX12_run 36 = .ok (.getfield 110, 3) := by decide +kernel
theorem dX12_run_39 : decode cX12_run 39 = .ok (.if_icmp .ge 57, 3) := by decide +kernel
theorem dX12_run_42 : decode cX12_run 42 = .ok (.iload_n 2, 1) := by decide +kernel
theorem dX12_run_43 : decode cX12_run 43 = .ok (.ifCond .eq 53, 3) := by decide +kernel
theorem dX12_run_46 : decode cX12_run 46 = .ok (.iconst 0, 1) := by decide +kernel
theorem dX12_run_47 : decode cX12_run 47 = .ok (.istore 4, 2) := by decide +kernel
theorem dX12_run_49 : decode cX12_run 49 = .ok (.iload 4, 2) := by decide +kernel
theorem dX12_run_51 : decode cX12_run 51 = .ok (.aload_n 0, 1) := by decide +kernel
theorem dX12_run_52 : decode cX12_run 52 = .ok (.getfield 110, 3) := by decide +kernel
theorem dX12_run_55 : decode cX12_run 55 = .ok (.if_icmp .ge 35, 3) := by decide +kernel
theorem dX12_run_58 : decode cX12_run 58 = .ok (.iload_n 2, 1) := by decide +kernel
theorem dX12_run_59 : decode cX12_run 59 = .ok (.iload 4, 2) := by decide +kernel
theorem dX12_run_61 : decode cX12_run 61 = .ok (.invokestatic 251, 3) := by decide +kernel
theorem dX12_run_64 : decode cX12_run 64 = .ok (.ifCond .ne 20, 3) := by decide +kernel
theorem dX12_run_67 : decode cX12_run 67 = .ok (.aload_n 0, 1) := by decide +kernel
theorem dX12_run_68 : decode cX12_run 68 = .ok (.iload 4, 2) := by decide +kernel
theorem dX12_run_70 : decode cX12_run 70 = .ok (.iload_n 2, 1) := by decide +kernel
theorem dX12_run_71 : decode cX12_run 71 = .ok (.invokevirtual 411, 3) := by decide +kernel
theorem dX12_run_74 : decode cX12_run 74 = .ok (.ifCond .eq 10, 3) := by decide +kernel
theorem dX12_run_77 : decode cX12_run 77 = .ok (.iload_n 2, 1) := by decide +kernel
theorem dX12_run_78 : decode cX12_run 78 = .ok (.iconst 1, 1) := by decide +kernel
theorem dX12_run_79 : decode cX12_run 79 = .ok (.iload 4, 2) := by decide +kernel
theorem dX12_run_81 : decode cX12_run 81 = .ok (.ishl, 1) := by decide +kernel
theorem dX12_run_82 : decode cX12_run 82 = .ok (.ior, 1) := by decide +kernel
theorem dX12_run_83 : decode cX12_run 83 = .ok (.istore_n 2, 1) := by decide +kernel
theorem dX12_run_84 : decode cX12_run 84 = .ok (.iinc 4 1, 3) := by decide +kernel
theorem dX12_run_87 : decode cX12_run 87 = .ok (.goto (-38), 3) := by decide +kernel
theorem dX12_run_90 : decode cX12_run 90 = .ok (.iinc 3 1, 3) := by decide +kernel
theorem dX12_run_93 : decode cX12_run 93 = .ok (.goto (-59), 3) := by decide +kernel
theorem dX12_run_96 : decode cX12_run 96 = .ok (.iconst 0, 1) := by decide +kernel
theorem dX12_run_97 : decode cX12_run 97 = .ok (.istore_n 3, 1) := by decide +kernel
theorem dX12_run_98 : decode cX12_run 98 = .ok (.iconst 0, 1) := by decide +kernel
theorem dX12_run_99 : decode cX12_run 99 = .ok (.istore 4, 2) := by decide +kernel
theorem dX12_run_101 : decode cX12_run 101 = .ok (.iload 4, 2) := by decide +kernel
theorem dX12_run_103 : decode cX12_run 103 = .ok (.aload_n 0, 1) := by decide +kernel
theorem dX12_run_104 : decode cX12_run 104 = .ok (.getfield 110, 3) := by decide +kernel
theorem dX12_run_107 : decode cX12_run 107 = .ok (.if_icmp .ge 32, 3) := by decide +kernel
theorem dX12_run_110 : decode cX12_run 110 = .ok (.iload_n 3, 1) := by decide +kernel
theorem dX12_run_111 : decode cX12_run 111 = .ok (.iload_n 2, 1) := by decide +kernel
theorem dX12_run_112 : decode cX12_run 112 = .ok (.iload 4, 2) := by decide +kernel
theorem dX12_run_114 : decode cX12_run 114 = .ok (.invokestatic 251, 3) := by decide +kernel
theorem dX12_run_117 : decode cX12_run 117 = .ok (.ifCond .eq 13, 3) := by decide +kernel
theorem dX12_run_120 : decode cX12_run 120 = .ok (.aload_n 0, 1) := by decide +kernel
theorem dX12_run_121 : decode cX12_run 121 = .ok (.iload 4, 2) := by decide +kernel
theorem dX12_run_123 : decode cX12_run 123 = .ok (.iconst 1, 1) := by decide +kernel
theorem dX12_run_124 : decode cX12_run 124 = .ok (.invokevirtual 262, 3) := by decide +kernel
theorem dX12_run_127 : decode cX12_run 127 = .ok (.goto 4, 3) := by decide +kernel
theorem dX12_run_130 : decode cX12_run 130 = .ok (.iconst 0, 1) := by decide +kernel
theorem dX12_run_131 : decode cX12_run 131 = .ok (.iadd, 1) := by decide +kernel
theorem dX12_run_132 : decode cX12_run 132 = .ok (.istore_n 3, 1) := by decide +kernel
theorem dX12_run_133 : decode cX12_run 133 = .ok (.iinc 4 1, 3) := by decide +kernel
theorem dX12_run_136 : decode cX12_run 136 = .ok (.goto (-35), 3) := by decide +kernel
theorem dX12_run_139 : decode cX12_run 139 = .ok (.aload_n 0, 1) := by decide +kernel
theorem dX12_run_140 : decode cX12_run 140 = .ok (.iconst 0, 1) := by decide +kernel
theorem dX12_run_141 : decode cX12_run 141 = .ok (.putfield 107, 3) := by decide +kernel
theorem dX12_run_144 : decode cX12_run 144 = .ok (.aload_n 0, 1) := by decide +kernel
theorem dX12_run_145 : decode cX12_run 145 = .ok (.iload_n 2, 1) := by decide +kernel
theorem dX12_run_146 : decode cX12_run 146 = .ok (.invokestatic 226, 3) := by decide +kernel
theorem dX12_run_149 : decode cX12_run 149 = .ok (.invokevirtual 308, 3) := by decide +kernel
theorem dX12_run_152 : decode cX12_run 152 = .ok (.aload_n 0, 1) := by decide +kernel
theorem dX12_run_153 : decode cX12_run 153 = .ok (.iload_n 3, 1) := by decide +kernel
theorem dX12_run_154 : decode cX12_run 154 = .ok (.invokevirtual 308, 3) := by decide +kernel
theorem dX12_run_157 : decode cX12_run 157 = .ok (.iload_n 2, 1) := by decide +kernel
theorem dX12_run_158 : decode cX12_run 158 = .ok (.ireturn, 1) := by decide +kernel
abbrev YX12_run : li_Y := (yX12_run, cX12_run, 5, (some .int))
theorem dX12_years_0 : decode cX12_years 0 = .ok (.aload_n 0, 1) := by decide +kernel
theorem dX12_years_1 : decode cX12_years 1 = .ok (.iconst 0, 1) := by decide +kernel
theorem dX12_years_2 : decode cX12_years 2 = .ok (.putfield 103, 3) := by decide +kernel
theorem dX12_years_5 : decode cX12_years 5 = .ok (.iload_n 2, 1) := by decide +kernel
theorem dX12_years_6 : decode cX12_years 6 = .ok (.iconst 1, 1) := by decide +kernel
theorem dX12_years_7 : decode cX12_years 7 = .ok (.bipush 60, 2) := by decide +kernel
theorem dX12_years_9 : decode cX12_years 9 = .ok (.invokestatic 113, 3) := by decide +kernel
theorem dX12_years_12 : decode cX12_years 12 = .ok (.ifCond .ne 5, 3) := by decide +kernel
theorem dX12_years_15 : decode cX12_years 15 = .ok (.iconst (-1), 1) := by decide +kernel
theorem dX12_years_16 : decode cX12_years 16 = .ok (.ireturn, 1) := by decide +kernel
theorem dX12_years_17 : decode cX12_years 17 = .ok (.iload_n 1, 1) := by decide +kernel
theorem dX12_years_18 : decode cX12_years 18 = .ok (.istore_n 3, 1) := by decide +kernel
theorem dX12_years_19 : decode cX12_years 19 = .ok (.iconst 0, 1) := by decide +kernel
theorem dX12_years_20 : decode cX12_years 20 = .ok (.istore 4, 2) := by decide +kernel
theorem dX12_years_22 : decode cX12_years 22 = .ok (.iconst 0, 1) := by decide +kernel
theorem dX12_years_23 : decode cX12_years 23 = .ok (.istore 5, 2) := by decide +kernel
theorem dX12_years_25 : decode cX12_years 25 = .ok (.iconst 0, 1) := by decide +kernel
theorem dX12_years_26 : decode cX12_years 26 = .ok (.istore 6, 2) := by decide +kernel
theorem dX12_years_28 : decode cX12_years 28 = .ok (.aload_n 0, 1) := by decide +kernel
theorem dX12_years_29 : decode cX12_years 29 = .ok (.getfield 9, 3) := by decide +kernel
theorem dX12_years_32 : decode cX12_years 32 = .ok (.aload_n 0, 1) := by decide +kernel
theorem dX12_years_33 : decode cX12_years 33 = .ok (.getfield 91, 3) := by decide +kernel
theorem dX12_years_36 : decode cX12_years 36 = .ok (.iconst 0, 1) := by decide +kernel
theorem dX12_years_37 : decode cX12_years 37 = .ok (.invokestatic 268, 3) := by decide +kernel
theorem dX12_years_40 : decode cX12_years 40 = .ok (.iconst 0, 1) := by decide +kernel
theorem dX12_years_41 : decode cX12_years 41 = .ok (.istore 7, 2) := by decide +kernel
theorem dX12_years_43 : decode cX12_years 43 = .ok (.iload 7, 2) := by decide +kernel
theorem dX12_years_45 : decode cX12_years 45 = .ok (.iload_n 2, 1) := by decide +kernel
theorem dX12_years_46 : decode cX12_years 46 = .ok (.if_icmp .ge 108, 3) := by decide +kernel
theorem dX12_years_49 : decode cX12_years 49 = .ok (.iload_n 3, 1) := by decide +kernel
theorem dX12_years_50 : decode cX12_years 50 = .ok (.ldc_w 414, 3) := by decide +kernel
theorem dX12_years_53 : decode cX12_years 53 = .ok (.imul, 1) := by decide +kernel
theorem dX12_years_54 : decode cX12_years 54 = .ok (.sipush 12345, 3) := by decide +kernel
theorem dX12_years_57 : decode cX12_years 57 = .ok (.iadd, 1) := by decide +kernel
theorem dX12_years_58 : decode cX12_years 58 = .ok (.istore_n 3, 1) := by decide +kernel
theorem dX12_years_59 : decode cX12_years 59 = .ok (.iload_n 3, 1) := by decide +kernel
theorem dX12_years_60 : decode cX12_years 60 = .ok (.bipush 16, 2) := by decide +kernel
theorem dX12_years_62 : decode cX12_years 62 = .ok (.iushr, 1) := by decide +kernel
theorem dX12_years_63 : decode cX12_years 63 = .ok (.bipush 10, 2) := by decide +kernel
theorem dX12_years_65 : decode cX12_years 65 = .ok (.irem, 1) := by decide +kernel
theorem dX12_years_66 : decode cX12_years 66 = .ok (.istore 8, 2) := by decide +kernel
theorem dX12_years_68 : decode cX12_years 68 = .ok (.aload_n 0, 1) := by decide +kernel
theorem dX12_years_69 : decode cX12_years 69 = .ok (.iload 8, 2) := by decide +kernel
theorem dX12_years_71 : decode cX12_years 71 = .ok (.invokevirtual 265, 3) := by decide +kernel
theorem dX12_years_74 : decode cX12_years 74 = .ok (.ifCond .eq 66, 3) := by decide +kernel
theorem dX12_years_77 : decode cX12_years 77 = .ok (.aload_n 0, 1) := by decide +kernel
theorem dX12_years_78 : decode cX12_years 78 = .ok (.aload_n 0, 1) := by decide +kernel
theorem dX12_years_79 : decode cX12_years 79 = .ok (.getfield 91, 3) := by decide +kernel
theorem dX12_years_82 : decode cX12_years 82 = .ok (.iload 8, 2) := by decide +kernel
theorem dX12_years_84 : decode cX12_years 84 = .ok (.aload_n 0, 1) := by decide +kernel
theorem dX12_years_85 : decode cX12_years 85 = .ok (.aload_n 0, 1) := by decide +kernel
theorem dX12_years_86 : decode cX12_years 86 = .ok (.getfield 91, 3) := by decide +kernel
theorem dX12_years_89 : decode cX12_years 89 = .ok (.iload 8, 2) := by decide +kernel
theorem dX12_years_91 : decode cX12_years 91 = .ok (.invokevirtual 243, 3) := by decide +kernel
theorem dX12_years_94 : decode cX12_years 94 = .ok (.invokevirtual 275, 3) := by decide +kernel
theorem dX12_years_97 : decode cX12_years 97 = .ok (.ifCond .ne 43, 3) := by decide +kernel
theorem dX12_years_100 : decode cX12_years 100 = .ok (.iload 5, 2) := by decide +kernel
theorem dX12_years_102 : decode cX12_years 102 = .ok (.aload_n 0, 1) := by decide +kernel
theorem dX12_years_103 : decode cX12_years 103 = .ok (.aload_n 0, 1) := by decide +kernel
theorem dX12_years_104 : decode cX12_years 104 = .ok (.getfield 91, 3) := by decide +kernel
theorem dX12_years_107 : decode cX12_years 107 = .ok (.iload 8, 2) := by decide +kernel
theorem dX12_years_109 : decode cX12_years 109 = .ok (.aload_n 0, 1) := by decide +kernel
theorem dX12_years_110 : decode cX12_years 110 = .ok (.aload_n 0, 1) := by decide +kernel
theorem dX12_years_111 : decode cX12_years 111 = .ok (.getfield 91, 3) := by decide +kernel
theorem dX12_years_114 : decode cX12_years 114 = .ok (.iload 8, 2) := by decide +kernel
theorem dX12_years_116 : decode cX12_years 116 = .ok (.invokevirtual 243, 3) := by decide +kernel
theorem dX12_years_119 : decode cX12_years 119 = .ok (.invokevirtual 282, 3) := by decide +kernel
theorem dX12_years_122 : decode cX12_years 122 = .ok (.iadd, 1) := by decide +kernel
theorem dX12_years_123 : decode cX12_years 123 = .ok (.istore 5, 2) := by decide +kernel
theorem dX12_years_125 : decode cX12_years 125 = .ok (.iinc 4 1, 3) := by decide +kernel
theorem dX12_years_128 : decode cX12_years 128 = .ok (.iload 6, 2) := by decide +kernel
theorem dX12_years_130 : decode cX12_years 130 = .ok (.aload_n 0, 1) := by decide +kernel
theorem dX12_years_131 : decode cX12_years 131 = .ok (.iload 8, 2) := by decide +kernel
theorem dX12_years_133 : decode cX12_years 133 = .ok (.iconst 4, 1) := by decide +kernel
theorem dX12_years_134 : decode cX12_years 134 = .ok (.invokevirtual 220, 3) := by decide +kernel
theorem dX12_years_137 : decode cX12_years 137 = .ok (.iadd, 1) := by decide +kernel
theorem dX12_years_138 : decode cX12_years 138 = .ok (.istore 6, 2) := by decide +kernel
theorem dX12_years_140 : decode cX12_years 140 = .ok (.aload_n 0, 1) := by decide +kernel
theorem dX12_years_141 : decode cX12_years 141 = .ok (.aload_n 0, 1) := by decide +kernel
theorem dX12_years_142 : decode cX12_years 142 = .ok (.getfield 91, 3) := by decide +kernel
theorem dX12_years_145 : decode cX12_years 145 = .ok (.invokevirtual 301, 3) := by decide +kernel
theorem dX12_years_148 : decode cX12_years 148 = .ok (.iinc 7 1, 3) := by decide +kernel
theorem dX12_years_151 : decode cX12_years 151 = .ok (.goto (-108), 3) := by decide +kernel
theorem dX12_years_154 : decode cX12_years 154 = .ok (.aload_n 0, 1) := by decide +kernel
theorem dX12_years_155 : decode cX12_years 155 = .ok (.iconst 0, 1) := by decide +kernel
theorem dX12_years_156 : decode cX12_years 156 = .ok (.putfield 107, 3) := by decide +kernel
theorem dX12_years_159 : decode cX12_years 159 = .ok (.aload_n 0, 1) := by decide +kernel
theorem dX12_years_160 : decode cX12_years 160 = .ok (.iload 5, 2) := by decide +kernel
theorem dX12_years_162 : decode cX12_years 162 = .ok (.invokevirtual 308, 3) := by decide +kernel
theorem dX12_years_165 : decode cX12_years 165 = .ok (.aload_n 0, 1) := by decide +kernel
theorem dX12_years_166 : decode cX12_years 166 = .ok (.iload 6, 2) := by decide +kernel
theorem dX12_years_168 : decode cX12_years 168 = .ok (.invokevirtual 308, 3) := by decide +kernel
theorem dX12_years_171 : decode cX12_years 171 = .ok (.iload 4, 2) := by decide +kernel
theorem dX12_years_173 : decode cX12_years 173 = .ok (.ireturn, 1) := by decide +kernel
abbrev YX12_years : li_Y := (yX12_years, cX12_years, 9, (some .int))
theorem dX12_keep_0 : decode cX12_keep 0 = .ok (.aload_n 0, 1) := by decide +kernel
theorem dX12_keep_1 : decode cX12_keep 1 = .ok (.iconst 0, 1) := by decide +kernel
theorem dX12_keep_2 : decode cX12_keep 2 = .ok (.putfield 103, 3) := by decide +kernel
theorem dX12_keep_5 : decode cX12_keep 5 = .ok (.iload_n 1, 1) := by decide +kernel
theorem dX12_keep_6 : decode cX12_keep 6 = .ok (.iconst 0, 1) := by decide +kernel
theorem dX12_keep_7 : decode cX12_keep 7 = .ok (.iconst 1, 1) := by decide +kernel
theorem dX12_keep_8 : decode cX12_keep 8 = .ok (.invokestatic 113, 3) := by decide +kernel
theorem dX12_keep_11 : decode cX12_keep 11 = .ok (.ifCond .ne 5, 3) := by decide +kernel
theorem dX12_keep_14 : decode cX12_keep 14 = .ok (.iconst 0, 1) := by decide +kernel
theorem dX12_keep_15 : decode cX12_keep 15 = .ok (.ireturn, 1) := by decide +kernel
theorem dX12_keep_16 : decode cX12_keep 16 = .ok (.aload_n 0, 1) := by decide +kernel
theorem dX12_keep_17 : decode cX12_keep 17 = .ok (.getfield 97, 3) := by decide +kernel
theorem dX12_keep_20 : decode cX12_keep 20 = .ok (.iload_n 1, 1) := by decide +kernel
theorem dX12_keep_21 : decode cX12_keep 21 = .ok (.iconst 1, 1) := by decide +kernel
theorem dX12_keep_22 : decode cX12_keep 22 = .ok (.bastore, 1) := by decide +kernel
theorem dX12_keep_23 : decode cX12_keep 23 = .ok (.aload_n 0, 1) := by decide +kernel
theorem dX12_keep_24 : decode cX12_keep 24 = .ok (.getfield 100, 3) := by decide +kernel
theorem dX12_keep_27 : decode cX12_keep 27 = .ok (.iload_n 1, 1) := by decide +kernel
theorem dX12_keep_28 : decode cX12_keep 28 = .ok (.aload_n 0, 1) := by decide +kernel
theorem dX12_keep_29 : decode cX12_keep 29 = .ok (.getfield 177, 3) := by decide +kernel
theorem dX12_keep_32 : decode cX12_keep 32 = .ok (.iastore, 1) := by decide +kernel
theorem dX12_keep_33 : decode cX12_keep 33 = .ok (.aload_n 0, 1) := by decide +kernel
theorem dX12_keep_34 : decode cX12_keep 34 = .ok (.getfield 9, 3) := by decide +kernel
theorem dX12_keep_37 : decode cX12_keep 37 = .ok (.aload_n 0, 1) := by decide +kernel
theorem dX12_keep_38 : decode cX12_keep 38 = .ok (.getfield 94, 3) := by decide +kernel
theorem dX12_keep_41 : decode cX12_keep 41 = .ok (.bipush 51, 2) := by decide +kernel
theorem dX12_keep_43 : decode cX12_keep 43 = .ok (.iload_n 1, 1) := by decide +kernel
theorem dX12_keep_44 : decode cX12_keep 44 = .ok (.imul, 1) := by decide +kernel
theorem dX12_keep_45 : decode cX12_keep 45 = .ok (.invokestatic 268, 3) := by decide +kernel
theorem dX12_keep_48 : decode cX12_keep 48 = .ok (.iconst 1, 1) := by decide +kernel
theorem dX12_keep_49 : decode cX12_keep 49 = .ok (.ireturn, 1) := by decide +kernel
abbrev YX12_keep : li_Y := (yX12_keep, cX12_keep, 2, (some .boolean))
theorem dX12_again_0 : decode cX12_again 0 = .ok (.aload_n 0, 1) := by decide +kernel
theorem dX12_again_1 : decode cX12_again 1 = .ok (.iconst 0, 1) := by decide +kernel
theorem dX12_again_2 : decode cX12_again 2 = .ok (.putfield 103, 3) := by decide +kernel
theorem dX12_again_5 : decode cX12_again 5 = .ok (.iload_n 1, 1) := by decide +kernel
theorem dX12_again_6 : decode cX12_again 6 = .ok (.iconst 0, 1) := by decide +kernel
theorem dX12_again_7 : decode cX12_again 7 = .ok (.iconst 1, 1) := by decide +kernel
theorem dX12_again_8 : decode cX12_again 8 = .ok (.invokestatic 113, 3) := by decide +kernel
theorem dX12_again_11 : decode cX12_again 11 = .ok (.ifCond .eq 25, 3) := by decide +kernel
theorem dX12_again_14 : decode cX12_again 14 = .ok (.aload_n 0, 1) := by decide +kernel
theorem dX12_again_15 : decode cX12_again 15 = .ok (.getfield 97, 3) := by decide +kernel
theorem dX12_again_18 : decode cX12_again 18 = .ok (.iload_n 1, 1) := by decide +kernel
theorem dX12_again_19 : decode cX12_again 19 = .ok (.baload, 1) := by decide +kernel
theorem dX12_again_20 : decode cX12_again 20 = .ok (.ifCond .eq 16, 3) := by decide +kernel
theorem dX12_again_23 : decode cX12_again 23 = .ok (.aload_n 0, 1) := by decide +kernel
theorem dX12_again_24 : decode cX12_again 24 = .ok (.getfield 100, 3) := by decide +kernel
theorem dX12_again_27 : decode cX12_again 27 = .ok (.iload_n 1, 1) := by decide +kernel
theorem dX12_again_28 : decode cX12_again 28 = .ok (.iaload, 1) := by decide +kernel
theorem dX12_again_29 : decode cX12_again 29 = .ok (.aload_n 0, 1) := by decide +kernel
theorem dX12_again_30 : decode cX12_again 30 = .ok (.getfield 177, 3) := by decide +kernel
theorem dX12_again_33 : decode cX12_again 33 = .ok (.if_icmp .eq 5, 3) := by decide +kernel
theorem dX12_again_36 : decode cX12_again 36 = .ok (.iconst 0, 1) := by decide +kernel
theorem dX12_again_37 : decode cX12_again 37 = .ok (.ireturn, 1) := by decide +kernel
theorem dX12_again_38 : decode cX12_again 38 = .ok (.iconst 0, 1) := by decide +kernel
theorem dX12_again_39 : decode cX12_again 39 = .ok (.istore_n 2, 1) := by decide +kernel
theorem dX12_again_40 : decode cX12_again 40 = .ok (.iload_n 2, 1) := by decide +kernel
theorem dX12_again_41 : decode cX12_again 41 = .ok (.bipush 51, 2) := by decide +kernel
theorem dX12_again_43 : decode cX12_again 43 = .ok (.if_icmp .ge 26, 3) := by decide +kernel
theorem dX12_again_46 : decode cX12_again 46 = .ok (.aload_n 0, 1) := by decide +kernel
theorem dX12_again_47 : decode cX12_again 47 = .ok (.getfield 9, 3) := by decide +kernel
theorem dX12_again_50 : decode cX12_again 50 = .ok (.iload_n 2, 1) := by decide +kernel
theorem dX12_again_51 : decode cX12_again 51 = .ok (.aload_n 0, 1) := by decide +kernel
theorem dX12_again_52 : decode cX12_again 52 = .ok (.getfield 94, 3) := by decide +kernel
theorem dX12_again_55 : decode cX12_again 55 = .ok (.bipush 51, 2) := by decide +kernel
theorem dX12_again_57 : decode cX12_again 57 = .ok (.iload_n 1, 1) := by decide +kernel
theorem dX12_again_58 : decode cX12_again 58 = .ok (.imul, 1) := by decide +kernel
theorem dX12_again_59 : decode cX12_again 59 = .ok (.iload_n 2, 1) := by decide +kernel
theorem dX12_again_60 : decode cX12_again 60 = .ok (.iadd, 1) := by decide +kernel
theorem dX12_again_61 : decode cX12_again 61 = .ok (.iaload, 1) := by decide +kernel
theorem dX12_again_62 : decode cX12_again 62 = .ok (.iastore, 1) := by decide +kernel
theorem dX12_again_63 : decode cX12_again 63 = .ok (.iinc 2 1, 3) := by decide +kernel
theorem dX12_again_66 : decode cX12_again 66 = .ok (.goto (-26), 3) := by decide +kernel
theorem dX12_again_69 : decode cX12_again 69 = .ok (.aload_n 0, 1) := by decide +kernel
theorem dX12_again_70 : decode cX12_again 70 = .ok (.iconst 0, 1) := by decide +kernel
theorem dX12_again_71 : decode cX12_again 71 = .ok (.putfield 174, 3) := by decide +kernel
theorem dX12_again_74 : decode cX12_again 74 = .ok (.iconst 1, 1) := by decide +kernel
theorem dX12_again_75 : decode cX12_again 75 = .ok (.ireturn, 1) := by decide +kernel
abbrev YX12_again : li_Y := (yX12_again, cX12_again, 3, (some .boolean))
theorem dX12_count_0 : decode cX12_count 0 = .ok (.aload_n 0, 1) := by decide +kernel
theorem dX12_count_1 : decode cX12_count 1 = .ok (.iconst 0, 1) := by decide +kernel
theorem dX12_count_2 : decode cX12_count 2 = .ok (.putfield 103, 3) := by decide +kernel
theorem dX12_count_5 : decode cX12_count 5 = .ok (.iload_n 1, 1) := by decide +kernel
theorem dX12_count_6 : decode cX12_count 6 = .ok (.tableswitch 131 0 11 #[62, 67, 72, 80, 88, 96, 101, 106, 111, 116, 121, 126], 62) := by decide +kernel
theorem dX12_count_68 : decode cX12_count 68 = .ok (.aload_n 0, 1) := by decide +kernel
theorem dX12_count_69 : decode cX12_count 69 = .ok (.getfield 110, 3) := by decide +kernel
theorem dX12_count_72 : decode cX12_count 72 = .ok (.ireturn, 1) := by decide +kernel
theorem dX12_count_73 : decode cX12_count 73 = .ok (.aload_n 0, 1) := by decide +kernel
theorem dX12_count_74 : decode cX12_count 74 = .ok (.getfield 121, 3) := by decide +kernel
theorem dX12_count_77 : decode cX12_count 77 = .ok (.ireturn, 1) := by decide +kernel
theorem dX12_count_78 : decode cX12_count 78 = .ok (.aload_n 0, 1) := by decide +kernel
theorem dX12_count_79 : decode cX12_count 79 = .ok (.getfield 9, 3) := by decide +kernel
theorem dX12_count_82 : decode cX12_count 82 = .ok (.bipush 19, 2) := by decide +kernel
theorem dX12_count_84 : decode cX12_count 84 = .ok (.iaload, 1) := by decide +kernel
theorem dX12_count_85 : decode cX12_count 85 = .ok (.ireturn, 1) := by decide +kernel
theorem dX12_count_86 : decode cX12_count 86 = .ok (.aload_n 0, 1) := by decide +kernel
theorem dX12_count_87 : decode cX12_count 87 = .ok (.getfield 9, 3) := by decide +kernel
theorem dX12_count_90 : decode cX12_count 90 = .ok (.bipush 20, 2) := by decide +kernel
theorem dX12_count_92 : decode cX12_count 92 = .ok (.iaload, 1) := by decide +kernel
theorem dX12_count_93 : decode cX12_count 93 = .ok (.ireturn, 1) := by decide +kernel
theorem dX12_count_94 : decode cX12_count 94 = .ok (.aload_n 0, 1) := by decide +kernel
theorem dX12_count_95 : decode cX12_count 95 = .ok (.getfield 9, 3) := by decide +kernel
theorem dX12_count_98 : decode cX12_count 98 = .ok (.bipush 18, 2) := by decide +kernel
theorem dX12_count_100 : decode cX12_count 100 = .ok (.iaload, 1) := by decide +kernel
theorem dX12_count_101 : decode cX12_count 101 = .ok (.ireturn, 1) := by decide +kernel
theorem dX12_count_102 : decode cX12_count 102 = .ok (.aload_n 0, 1) := by decide +kernel
theorem dX12_count_103 : decode cX12_count 103 = .ok (.invokevirtual 336, 3) := by decide +kernel
theorem dX12_count_106 : decode cX12_count 106 = .ok (.ireturn, 1) := by decide +kernel
theorem dX12_count_107 : decode cX12_count 107 = .ok (.aload_n 0, 1) := by decide +kernel
theorem dX12_count_108 : decode cX12_count 108 = .ok (.invokevirtual 342, 3) := by decide +kernel
theorem dX12_count_111 : decode cX12_count 111 = .ok (.ireturn, 1) := by decide +kernel
theorem dX12_count_112 : decode cX12_count 112 = .ok (.aload_n 0, 1) := by decide +kernel
theorem dX12_count_113 : decode cX12_count 113 = .ok (.getfield 377, 3) := by decide +kernel
theorem dX12_count_116 : decode cX12_count 116 = .ok (.ireturn, 1) := by decide +kernel
theorem dX12_count_117 : decode cX12_count 117 = .ok (.aload_n 0, 1) := by decide +kernel
theorem dX12_count_118 : decode cX12_count 118 = .ok (.getfield 392, 3) := by decide +kernel
theorem dX12_count_121 : decode cX12_count 121 = .ok (.ireturn, 1) := by decide +kernel
theorem dX12_count_122 : decode cX12_count 122 = .ok (.aload_n 0, 1) := by decide +kernel
theorem dX12_count_123 : decode cX12_count 123 = .ok (.getfield 174, 3) := by decide +kernel
theorem dX12_count_126 : decode cX12_count 126 = .ok (.ireturn, 1) := by decide +kernel
theorem dX12_count_127 : decode cX12_count 127 = .ok (.aload_n 0, 1) := by decide +kernel
theorem dX12_count_128 : decode cX12_count 128 = .ok (.getfield 107, 3) := by decide +kernel
theorem dX12_count_131 : decode cX12_count 131 = .ok (.ireturn, 1) := by decide +kernel
theorem dX12_count_132 : decode cX12_count 132 = .ok (.aload_n 0, 1) := by decide +kernel
theorem dX12_count_133 : decode cX12_count 133 = .ok (.getfield 124, 3) := by decide +kernel
theorem dX12_count_136 : decode cX12_count 136 = .ok (.ireturn, 1) := by decide +kernel
theorem dX12_count_137 : decode cX12_count 137 = .ok (.iconst (-1), 1) := by decide +kernel
theorem dX12_count_138 : decode cX12_count 138 = .ok (.ireturn, 1) := by decide +kernel
abbrev YX12_count : li_Y := (yX12_count, cX12_count, 2, (some .int))
theorem dX12_row_0 : decode cX12_row 0 = .ok (.aload_n 0, 1) := by decide +kernel
theorem dX12_row_1 : decode cX12_row 1 = .ok (.iconst 0, 1) := by decide +kernel
theorem dX12_row_2 : decode cX12_row 2 = .ok (.putfield 103, 3) := by decide +kernel
theorem dX12_row_5 : decode cX12_row 5 = .ok (.iload_n 1, 1) := by decide +kernel
theorem dX12_row_6 : decode cX12_row 6 = .ok (.iconst 0, 1) := by decide +kernel
theorem dX12_row_7 : decode cX12_row 7 = .ok (.aload_n 0, 1) := by decide +kernel
theorem dX12_row_8 : decode cX12_row 8 = .ok (.getfield 107, 3) := by decide +kernel
theorem dX12_row_11 : decode cX12_row 11 = .ok (.iconst 1, 1) := by decide +kernel
theorem dX12_row_12 : decode cX12_row 12 = .ok (.isub, 1) := by decide +kernel
theorem dX12_row_13 : decode cX12_row 13 = .ok (.invokestatic 113, 3) := by decide +kernel
theorem dX12_row_16 : decode cX12_row 16 = .ok (.ifCond .eq 12, 3) := by decide +kernel
theorem dX12_row_19 : decode cX12_row 19 = .ok (.aload_n 0, 1) := by decide +kernel
theorem dX12_row_20 : decode cX12_row 20 = .ok (.getfield 26, 3) := by decide +kernel
theorem dX12_row_23 : decode cX12_row 23 = .ok (.iload_n 1, 1) := by decide +kernel
theorem dX12_row_24 : decode cX12_row 24 = .ok (.iaload, 1) := by decide +kernel
theorem dX12_row_25 : decode cX12_row 25 = .ok (.goto 7, 3) := by decide +kernel
theorem dX12_row_28 : decode cX12_row 28 = .ok (.aload_n 0, 1) := by decide +kernel
theorem dX12_row_29 : decode cX12_row 29 = .ok (.invokevirtual 259, 3) := by decide +kernel
theorem dX12_row_32 : decode cX12_row 32 = .ok (.ireturn, 1) := by decide +kernel
abbrev YX12_row : li_Y := (yX12_row, cX12_row, 2, (some .int))
theorem dX12_undo_0 : decode cX12_undo 0 = .ok (.aload_n 0, 1) := by decide +kernel
theorem dX12_undo_1 : decode cX12_undo 1 = .ok (.iconst 0, 1) := by decide +kernel
theorem dX12_undo_2 : decode cX12_undo 2 = .ok (.putfield 103, 3) := by decide +kernel
theorem dX12_undo_5 : decode cX12_undo 5 = .ok (.aload_n 0, 1) := by decide +kernel
theorem dX12_undo_6 : decode cX12_undo 6 = .ok (.getfield 174, 3) := by decide +kernel
theorem dX12_undo_9 : decode cX12_undo 9 = .ok (.ifCond .ne 5, 3) := by decide +kernel
theorem dX12_undo_12 : decode cX12_undo 12 = .ok (.iconst (-1), 1) := by decide +kernel
theorem dX12_undo_13 : decode cX12_undo 13 = .ok (.ireturn, 1) := by decide +kernel
theorem dX12_undo_14 : decode cX12_undo 14 = .ok (.aload_n 0, 1) := by decide +kernel
theorem dX12_undo_15 : decode cX12_undo 15 = .ok (.dup, 1) := by decide +kernel
theorem dX12_undo_16 : decode cX12_undo 16 = .ok (.getfield 174, 3) := by decide +kernel
theorem dX12_undo_19 : decode cX12_undo 19 = .ok (.iconst 1, 1) := by decide +kernel
theorem dX12_undo_20 : decode cX12_undo 20 = .ok (.isub, 1) := by decide +kernel
theorem dX12_undo_21 : decode cX12_undo 21 = .ok (.putfield 174, 3) := by decide +kernel
theorem dX12_undo_24 : decode cX12_undo 24 = .ok (.iconst 0, 1) := by decide +kernel
theorem dX12_undo_25 : decode cX12_undo 25 = .ok (.istore_n 1, 1) := by decide +kernel
theorem dX12_undo_26 : decode cX12_undo 26 = .ok (.iload_n 1, 1) := by decide +kernel
theorem dX12_undo_27 : decode cX12_undo 27 = .ok (.bipush 51, 2) := by decide +kernel
theorem dX12_undo_29 : decode cX12_undo 29 = .ok (.if_icmp .ge 29, 3) := by decide +kernel
theorem dX12_undo_32 : decode cX12_undo 32 = .ok (.aload_n 0, 1) := by decide +kernel
theorem dX12_undo_33 : decode cX12_undo 33 = .ok (.getfield 9, 3) := by decide +kernel
theorem dX12_undo_36 : decode cX12_undo 36 = .ok (.iload_n 1, 1) := by decide +kernel
theorem dX12_undo_37 : decode cX12_undo 37 = .ok (.aload_n 0, 1) := by decide +kernel
theorem dX12_undo_38 : decode cX12_undo 38 = .ok (.getfield 41, 3) := by decide +kernel
theorem dX12_undo_41 : decode cX12_undo 41 = .ok (.bipush 51, 2) := by decide +kernel
theorem dX12_undo_43 : decode cX12_undo 43 = .ok (.aload_n 0, 1) := by decide +kernel
theorem dX12_undo_44 : decode cX12_undo 44 = .ok (.getfield 174, 3) := by decide +kernel
theorem dX12_undo_47 : decode cX12_undo 47 = .ok (.imul, 1) := by decide +kernel
theorem dX12_undo_48 : decode cX12_undo 48 = .ok (.iload_n 1, 1) := by decide +kernel
theorem dX12_undo_49 : decode cX12_undo 49 = .ok (.iadd, 1) := by decide +kernel
theorem dX12_undo_50 : decode cX12_undo 50 = .ok (.iaload, 1) := by decide +kernel
theorem dX12_undo_51 : decode cX12_undo 51 = .ok (.iastore, 1) := by decide +kernel
theorem dX12_undo_52 : decode cX12_undo 52 = .ok (.iinc 1 1, 3) := by decide +kernel
theorem dX12_undo_55 : decode cX12_undo 55 = .ok (.goto (-29), 3) := by decide +kernel
theorem dX12_undo_58 : decode cX12_undo 58 = .ok (.aload_n 0, 1) := by decide +kernel
theorem dX12_undo_59 : decode cX12_undo 59 = .ok (.getfield 174, 3) := by decide +kernel
theorem dX12_undo_62 : decode cX12_undo 62 = .ok (.ireturn, 1) := by decide +kernel
abbrev YX12_undo : li_Y := (yX12_undo, cX12_undo, 2, (some .int))
set_option maxRecDepth 100000 in
set_option maxHeartbeats 4000000 in
theorem k_X12_isStruck {l : Launch} {Z : li_Z} (d : Nat) (hd : 2 ≤ d) (p1 p2 : Int32) (M0 : li_M) (hJ : li_J M0) (h1 : 0 ≤ p1.toInt ∧ p1.toInt ≤ 5) : li_Met l Z YX12_isStruck d [.ref (Z.2.2 175), .int p1, .int p2] M0 (fun r M' => ((r = some (.int 1) ∧ True) ∨ (r = some (.int 0) ∧ True)) ∧ li_fs (fun i k => False) M0 M' ∧ li_J M') := by
  refine li_enter (by decide +kernel) (Nat.le_of_ble_eq_true rfl) ?_
  show li_T l Z YX12_isStruck d 0 [(0, .ref (Z.2.2 175)), (1, .int p1), (2, .int p2)] [] M0 _
  have hf : li_fs (fun i k => False) M0 M0 := li_fs_refl
  have gp1 := tl_rg p1
  have gp2 := tl_rg p2
  refine li_iconst 0 dX12_isStruck_0 (by decide) ?_
  refine li_istore_n [(3, .int 0), (0, .ref (Z.2.2 175)), (1, .int p1), (2, .int p2)] dX12_isStruck_1 (by decide) rfl ?_
  refine li_aload_n 1 dX12_isStruck_2 rfl ?_
  refine li_getr (k := 0) (N := 52) (T := TX12) (C0 := RX12) dX12_isStruck_3 (by decide) sh_175 rfl rfl (by decide) (by decide) li_in12 w_1404 ?_
  refine li_iload_n 2 dX12_isStruck_6 rfl ?_
  refine li_iald dX12_isStruck_7 (by decide) sh_176 (tl_in (by omega)) ?_
  refine li_top (fun x1 ex1 => ?_)
  have gx1 := tl_rg x1
  try (have ox1 : (p1 : Int32).toInt % 51 = (p1 : Int32).toInt := by omega)
  have lx1 : ((p1 : Int32).toInt % 51 = 20 → 0 ≤ x1.toInt ∧ x1.toInt ≤ 6) ∧ (21 ≤ (p1 : Int32).toInt % 51 → ((p1 : Int32).toInt % 51 - 21) % 5 < 2 → 0 ≤ x1.toInt ∧ x1.toInt ≤ 5) := hJ.ldLed (by unfold li_led; omega) ex1 (by omega)
  refine li_istore [(4, .int x1), (3, .int 0), (0, .ref (Z.2.2 175)), (1, .int p1), (2, .int p2)] dX12_isStruck_8 (by decide) rfl ?_
  refine li_iconst 0 dX12_isStruck_10 (by decide) ?_
  refine li_istore [(5, .int 0), (4, .int x1), (3, .int 0), (0, .ref (Z.2.2 175)), (1, .int p1), (2, .int p2)] dX12_isStruck_11 (by decide) rfl ?_
  have L13 : ∀ (n : Nat) (x2 : Int32) (x3 : Int32) (x4 : Int32) (M5 : li_M), (6 - (x2 : Int32).toInt).toNat < n → li_fs (fun i k => False) M0 M5 → li_J M5 → 0 ≤ (x2 : Int32).toInt → li_T l Z YX12_isStruck d 13 [(5, .int x2), (4, .int x3), (3, .int x4), (0, .ref (Z.2.2 175)), (1, .int p1), (2, .int p2)] [] M5 (fun r M' => ((r = some (.int 1) ∧ True) ∨ (r = some (.int 0) ∧ True)) ∧ li_fs (fun i k => False) M0 M' ∧ li_J M') := by
    intro n
    induction n with
    | zero => intro x2 x3 x4 M5 hn; exact absurd hn (Nat.not_lt_zero _)
    | succ n ih13 =>
      intro x2 x3 x4 M5 hn hf hJ hi
      have gx2 := tl_rg x2
      have gx3 := tl_rg x3
      have gx4 := tl_rg x4
      refine li_iload 0 dX12_isStruck_13 rfl ?_
      refine li_aload_n 3 dX12_isStruck_15 rfl ?_
      refine li_getr (k := 0) (N := 52) (T := TX12) (C0 := RX12) dX12_isStruck_16 (by decide) sh_175 rfl rfl (by decide) (by decide) li_in12 w_1404 ?_
      refine li_bipush 20 dX12_isStruck_19 (by decide) ?_
      have z20 : (20 : Int32).toInt = 20 := rfl
      refine li_iald dX12_isStruck_21 (by decide) sh_176 (tl_in (by omega)) ?_
      refine li_top (fun x6 ex6 => ?_)
      have gx6 := tl_rg x6
      have lx6 : ((20 : Int32).toInt % 51 = 20 → 0 ≤ x6.toInt ∧ x6.toInt ≤ 6) ∧ (21 ≤ (20 : Int32).toInt % 51 → ((20 : Int32).toInt % 51 - 21) % 5 < 2 → 0 ≤ x6.toInt ∧ x6.toInt ≤ 5) := hJ.ldLed (by unfold li_led; omega) ex6 (by omega)
      refine li_icmp_ge 102 dX12_isStruck_22 (by decide) (fun c7 => ?_) (fun c7 => ?_)
      · have tc7 : x6.toInt ≤ x2.toInt := tl_le c7
        refine li_iload_n 2 dX12_isStruck_102 rfl ?_
        refine li_if_eq 121 dX12_isStruck_103 (by decide) (fun c8 => ?_) (fun c8 => ?_)
        · have tc8 : x4.toInt = 0 := tl_eq c8
          refine li_iconst 0 dX12_isStruck_121 (by decide) ?_
          have z0 : (0 : Int32).toInt = 0 := rfl
          exact li_iret dX12_isStruck_122 rfl (li_nz (Or.inl rfl)) ⟨Or.inr ⟨rfl, trivial⟩, hf, hJ⟩
        · have tc8 : ¬ x4.toInt = 0 := tl_ne c8
          refine li_iload 1 dX12_isStruck_106 rfl ?_
          refine li_aload_n 3 dX12_isStruck_108 rfl ?_
          refine li_iload_n 4 dX12_isStruck_109 rfl ?_
          refine li_iconst 1 dX12_isStruck_110 (by decide) ?_
          have z1 : (1 : Int32).toInt = 1 := rfl
          refine li_callV (n := 2) (As := [.int p1, .int 1]) dX12_isStruck_111 (k_X12_owedBy (d - 1) (by omega) p1 1 M5 hJ (by omega)) (by omega) (Nat.le_of_ble_eq_true rfl) w_1656 w_1658 w_58 w_112 w_1659 (by decide +kernel) rfl (by decide) sh_175 rfl rfl (Nat.le_of_ble_eq_true rfl) (fun r M10 h11 => ?_)
          obtain ⟨⟨x9, rfl⟩, h11, jM10⟩ := h11
          have gx9 := tl_rg x9
          have hf := li_fs_trans hf h11 (fun i k h => False.elim h)
          have hJ := jM10
          refine li_icmp_ge 121 dX12_isStruck_114 (by decide) (fun c12 => ?_) (fun c12 => ?_)
          · have tc12 : x9.toInt ≤ x3.toInt := tl_le c12
            refine li_iconst 0 dX12_isStruck_121 (by decide) ?_
            have z0 : (0 : Int32).toInt = 0 := rfl
            exact li_iret dX12_isStruck_122 rfl (li_nz (Or.inl rfl)) ⟨Or.inr ⟨rfl, trivial⟩, hf, hJ⟩
          · have tc12 : x3.toInt < x9.toInt := tl_nle c12
            refine li_iconst 1 dX12_isStruck_117 (by decide) ?_
            refine li_goto 122 dX12_isStruck_118 (by decide) ?_
            have z1 : (1 : Int32).toInt = 1 := rfl
            exact li_iret dX12_isStruck_122 rfl (li_nz (Or.inr rfl)) ⟨Or.inl ⟨rfl, trivial⟩, hf, hJ⟩
      · have tc7 : x2.toInt < x6.toInt := tl_nle c7
        refine li_bipush 21 dX12_isStruck_25 (by decide) ?_
        refine li_iconst 5 dX12_isStruck_27 (by decide) ?_
        refine li_iload 0 dX12_isStruck_28 rfl ?_
        refine li_imul dX12_isStruck_30 ?_
        refine li_top (fun x13 ex13 => ?_)
        have z5 : (5 : Int32).toInt = 5 := rfl
        try (have tx13 : x13.toInt = 5 * (x2 : Int32).toInt := tl_mul ex13 (show -2147483648 ≤ 5 * (x2 : Int32).toInt ∧ 5 * (x2 : Int32).toInt ≤ 2147483647 by omega))
        refine li_iadd dX12_isStruck_31 ?_
        refine li_top (fun x14 ex14 => ?_)
        have z21 : (21 : Int32).toInt = 21 := rfl
        try (have tx14 : x14.toInt = (21 : Int32).toInt + (x13 : Int32).toInt := tl_add ex14 (by omega))
        refine li_istore [(6, .int x14), (5, .int x2), (4, .int x3), (3, .int x4), (0, .ref (Z.2.2 175)), (1, .int p1), (2, .int p2)] dX12_isStruck_32 (by decide) rfl ?_
        refine li_aload_n 4 dX12_isStruck_34 rfl ?_
        refine li_getr (k := 0) (N := 52) (T := TX12) (C0 := RX12) dX12_isStruck_35 (by decide) sh_175 rfl rfl (by decide) (by decide) li_in12 w_1404 ?_
        refine li_iload 0 dX12_isStruck_38 rfl ?_
        refine li_iconst 4 dX12_isStruck_40 (by decide) ?_
        refine li_iadd dX12_isStruck_41 ?_
        refine li_top (fun x15 ex15 => ?_)
        have z4 : (4 : Int32).toInt = 4 := rfl
        try (have tx15 : x15.toInt = (x14 : Int32).toInt + (4 : Int32).toInt := tl_add ex15 (by omega))
        refine li_iald dX12_isStruck_42 (by decide) sh_176 (tl_in (by omega)) ?_
        refine li_top (fun x16 ex16 => ?_)
        have gx16 := tl_rg x16
        try (have ox16 : (x15 : Int32).toInt % 51 = (x15 : Int32).toInt := by omega)
        have lx16 : ((x15 : Int32).toInt % 51 = 20 → 0 ≤ x16.toInt ∧ x16.toInt ≤ 6) ∧ (21 ≤ (x15 : Int32).toInt % 51 → ((x15 : Int32).toInt % 51 - 21) % 5 < 2 → 0 ≤ x16.toInt ∧ x16.toInt ≤ 5) := hJ.ldLed (by unfold li_led; omega) ex16 (by omega)
        refine li_iconst 1 dX12_isStruck_43 (by decide) ?_
        have J96 : ∀ (x18 : Int32) (x19 : Int32) (M20 : li_M), li_fs (fun i k => False) M0 M20 → li_J M20 → li_T l Z YX12_isStruck d 96 [(6, .int x14), (5, .int x2), (4, .int x18), (3, .int x19), (0, .ref (Z.2.2 175)), (1, .int p1), (2, .int p2)] [] M20 (fun r M' => ((r = some (.int 1) ∧ True) ∨ (r = some (.int 0) ∧ True)) ∧ li_fs (fun i k => False) M0 M' ∧ li_J M') := by
          intro x18 x19 M20 hf hJ
          have gx18 := tl_rg x18
          have gx19 := tl_rg x19
          obtain ⟨x21, ex21⟩ : ∃ y : Int32, y = x2 + 1 := ⟨_, rfl⟩
          have z1 : (1 : Int32).toInt = 1 := rfl
          try (have tx21 : x21.toInt = (x2 : Int32).toInt + (1 : Int32).toInt := tl_add ex21 (by omega))
          refine li_iinc 1 [(5, .int x21), (6, .int x14), (4, .int x18), (3, .int x19), (0, .ref (Z.2.2 175)), (1, .int p1), (2, .int p2)] x21 dX12_isStruck_96 rfl (by rw [ex21]; rfl) (by decide) rfl ?_
          refine li_goto 13 dX12_isStruck_99 (by decide) ?_
          refine li_pick [0, 2, 3, 4, 5, 6] [(5, .int x21), (4, .int x18), (3, .int x19), (0, .ref (Z.2.2 175)), (1, .int p1), (2, .int p2)] rfl ?_
          exact ih13 x21 x18 x19 M20 (by omega) hf hJ (by omega)
        refine li_icmp_eq 96 dX12_isStruck_44 (by decide) (fun c17 => ?_) (fun c17 => ?_)
        · have tc17 : x16.toInt = 1 := tl_eq c17
          refine li_pick [0, 1, 2, 3, 4, 5, 6] [(6, .int x14), (5, .int x2), (4, .int x3), (3, .int x4), (0, .ref (Z.2.2 175)), (1, .int p1), (2, .int p2)] rfl ?_
          exact J96 x3 x4 M5 hf hJ
        · have tc17 : ¬ x16.toInt = 1 := tl_ne c17
          refine li_aload_n 4 dX12_isStruck_47 rfl ?_
          refine li_getr (k := 0) (N := 52) (T := TX12) (C0 := RX12) dX12_isStruck_48 (by decide) sh_175 rfl rfl (by decide) (by decide) li_in12 w_1404 ?_
          refine li_iload 0 dX12_isStruck_51 rfl ?_
          refine li_iald dX12_isStruck_53 (by decide) sh_176 (tl_in (by omega)) ?_
          refine li_top (fun x22 ex22 => ?_)
          have gx22 := tl_rg x22
          try (have ox22 : (x14 : Int32).toInt % 51 = (x14 : Int32).toInt := by omega)
          have lx22 : ((x14 : Int32).toInt % 51 = 20 → 0 ≤ x22.toInt ∧ x22.toInt ≤ 6) ∧ (21 ≤ (x14 : Int32).toInt % 51 → ((x14 : Int32).toInt % 51 - 21) % 5 < 2 → 0 ≤ x22.toInt ∧ x22.toInt ≤ 5) := hJ.ldLed (by unfold li_led; omega) ex22 (by omega)
          refine li_iload_n 5 dX12_isStruck_54 rfl ?_
          refine li_icmp_eq 61 dX12_isStruck_55 (by decide) (fun c23 => ?_) (fun c23 => ?_)
          · have tc23 : x22.toInt = p1.toInt := tl_eq c23
            refine li_iload_n 6 dX12_isStruck_61 rfl ?_
            refine li_aload_n 4 dX12_isStruck_62 rfl ?_
            refine li_getr (k := 0) (N := 52) (T := TX12) (C0 := RX12) dX12_isStruck_63 (by decide) sh_175 rfl rfl (by decide) (by decide) li_in12 w_1404 ?_
            refine li_iload 0 dX12_isStruck_66 rfl ?_
            refine li_iconst 1 dX12_isStruck_68 (by decide) ?_
            refine li_iadd dX12_isStruck_69 ?_
            refine li_top (fun x24 ex24 => ?_)
            have z1 : (1 : Int32).toInt = 1 := rfl
            try (have tx24 : x24.toInt = (x14 : Int32).toInt + (1 : Int32).toInt := tl_add ex24 (by omega))
            refine li_iald dX12_isStruck_70 (by decide) sh_176 (tl_in (by omega)) ?_
            refine li_top (fun x25 ex25 => ?_)
            have gx25 := tl_rg x25
            try (have ox25 : (x24 : Int32).toInt % 51 = (x24 : Int32).toInt := by omega)
            have lx25 : ((x24 : Int32).toInt % 51 = 20 → 0 ≤ x25.toInt ∧ x25.toInt ≤ 6) ∧ (21 ≤ (x24 : Int32).toInt % 51 → ((x24 : Int32).toInt % 51 - 21) % 5 < 2 → 0 ≤ x25.toInt ∧ x25.toInt ≤ 5) := hJ.ldLed (by unfold li_led; omega) ex25 (by omega)
            refine li_callS (n := 2) (As := [.int p2, .int x25]) dX12_isStruck_71 (k_X12_has (d - 1) (by omega) p2 x25 M5 hJ ) (by omega) (Nat.le_of_ble_eq_true rfl) w_1734 w_1735 w_112 w_1736 (by decide +kernel) rfl rfl (Nat.le_of_ble_eq_true rfl) (fun r M27 h28 => ?_)
            obtain ⟨qx26, h28, jM27⟩ := h28
            have hf := li_fs_trans hf h28 (fun i k h => False.elim h)
            have hJ := jM27
            rcases qx26 with ⟨rfl, qx26⟩ | ⟨rfl, qx26⟩
            · skip
              refine li_if_eq 82 dX12_isStruck_74 (by decide) (fun c => absurd c (by decide)) (fun c => ?_)
              refine li_iconst 1 dX12_isStruck_77 (by decide) ?_
              refine li_istore_n [(3, .int 1), (6, .int x14), (5, .int x2), (4, .int x3), (0, .ref (Z.2.2 175)), (1, .int p1), (2, .int p2)] dX12_isStruck_78 (by decide) rfl ?_
              refine li_goto 96 dX12_isStruck_79 (by decide) ?_
              refine li_pick [1, 2, 3, 0, 4, 5, 6] [(6, .int x14), (5, .int x2), (4, .int x3), (3, .int 1), (0, .ref (Z.2.2 175)), (1, .int p1), (2, .int p2)] rfl ?_
              have z1 : (1 : Int32).toInt = 1 := rfl
              exact J96 x3 1 M27 hf hJ
            · skip
              refine li_if_eq 82 dX12_isStruck_74 (by decide) (fun c => ?_) (fun c => absurd rfl c)
              refine li_iload 2 dX12_isStruck_82 rfl ?_
              refine li_aload_n 4 dX12_isStruck_84 rfl ?_
              refine li_getr (k := 0) (N := 52) (T := TX12) (C0 := RX12) dX12_isStruck_85 (by decide) sh_175 rfl rfl (by decide) (by decide) li_in12 w_1404 ?_
              refine li_iload 0 dX12_isStruck_88 rfl ?_
              refine li_iconst 2 dX12_isStruck_90 (by decide) ?_
              refine li_iadd dX12_isStruck_91 ?_
              refine li_top (fun x31 ex31 => ?_)
              have z2 : (2 : Int32).toInt = 2 := rfl
              try (have tx31 : x31.toInt = (x14 : Int32).toInt + (2 : Int32).toInt := tl_add ex31 (by omega))
              refine li_iald dX12_isStruck_92 (by decide) sh_176 (tl_in (by omega)) ?_
              refine li_top (fun x32 ex32 => ?_)
              have gx32 := tl_rg x32
              try (have ox32 : (x31 : Int32).toInt % 51 = (x31 : Int32).toInt := by omega)
              have lx32 : ((x31 : Int32).toInt % 51 = 20 → 0 ≤ x32.toInt ∧ x32.toInt ≤ 6) ∧ (21 ≤ (x31 : Int32).toInt % 51 → ((x31 : Int32).toInt % 51 - 21) % 5 < 2 → 0 ≤ x32.toInt ∧ x32.toInt ≤ 5) := hJ.ldLed (by unfold li_led; omega) ex32 (by omega)
              refine li_iadd dX12_isStruck_93 ?_
              refine li_top (fun x33 ex33 => ?_)
              try (have tx33 : x33.toInt = (x3 : Int32).toInt + (x32 : Int32).toInt := tl_add ex33 (by omega))
              refine li_istore [(4, .int x33), (6, .int x14), (5, .int x2), (3, .int x4), (0, .ref (Z.2.2 175)), (1, .int p1), (2, .int p2)] dX12_isStruck_94 (by decide) rfl ?_
              refine li_pick [1, 2, 0, 3, 4, 5, 6] [(6, .int x14), (5, .int x2), (4, .int x33), (3, .int x4), (0, .ref (Z.2.2 175)), (1, .int p1), (2, .int p2)] rfl ?_
              exact J96 x33 x4 M27 hf hJ
          · have tc23 : ¬ x22.toInt = p1.toInt := tl_ne c23
            refine li_goto 96 dX12_isStruck_58 (by decide) ?_
            refine li_pick [0, 1, 2, 3, 4, 5, 6] [(6, .int x14), (5, .int x2), (4, .int x3), (3, .int x4), (0, .ref (Z.2.2 175)), (1, .int p1), (2, .int p2)] rfl ?_
            exact J96 x3 x4 M5 hf hJ
  have z0 : (0 : Int32).toInt = 0 := rfl
  have z0 : (0 : Int32).toInt = 0 := rfl
  exact L13 _ 0 x1 0 M0 (Nat.lt_succ_self _) hf hJ (by omega)
set_option maxRecDepth 100000 in
set_option maxHeartbeats 4000000 in
theorem k_X12_run {l : Launch} {Z : li_Z} (d : Nat) (hd : 3 ≤ d) (p1 : Int32) (M0 : li_M) (hJ : li_J M0) : li_Met l Z YX12_run d [.ref (Z.2.2 175), .int p1] M0 (fun r M' => (∃ x : Int32, r = some (.int x)) ∧ li_fs (fun i k => i = 181 ∨ (i = 175 ∧ k = 10) ∨ (i = 175 ∧ k = 9)) M0 M' ∧ li_J M') := by
  refine li_enter (by decide +kernel) (Nat.le_of_ble_eq_true rfl) ?_
  show li_T l Z YX12_run d 0 [(0, .ref (Z.2.2 175)), (1, .int p1)] [] M0 _
  have hf : li_fs (fun i k => i = 181 ∨ (i = 175 ∧ k = 10) ∨ (i = 175 ∧ k = 9)) M0 M0 := li_fs_refl
  have gp1 := tl_rg p1
  have rM0_1 := J_sl1 (M := M0) hJ
  have rM0_9 := J_sl9 (M := M0) hJ
  refine li_aload_n 0 dX12_run_0 rfl ?_
  refine li_iconst 0 dX12_run_1 (by decide) ?_
  refine li_puti (k := 10) (N := 52) (T := TX12) (C0 := RX12) dX12_run_2 (by decide) sh_175 rfl rfl (by decide) li_in12 tyX12_ok nmX12 rfl rfl rfl rfl w_1414 ?_
  refine li_nm (fun M1 eM1 => ?_)
  have hf := li_fs_ui hf (Or.inr (Or.inl ⟨rfl, rfl⟩)) eM1
  have z0 : (0 : Int32).toInt = 0 := rfl
  have hJ := hJ.put (k := 10) (by decide) (rg_free rfl) eM1
  have rM1_1 := J_sl1 (M := M1) hJ
  have rM1_9 := J_sl9 (M := M1) hJ
  have mM1_1 : (M1.1 175 1).toInt = (M0.1 175 1).toInt := by rw [eM1, li_ui_at, if_pos rfl, if_neg (by decide)]
  have mM1_9 : (M1.1 175 9).toInt = (M0.1 175 9).toInt := by rw [eM1, li_ui_at, if_pos rfl, if_neg (by decide)]
  refine li_aload_n 0 dX12_run_5 rfl ?_
  refine li_iload_n 1 dX12_run_6 rfl ?_
  refine li_callV (n := 1) (As := [.int p1]) dX12_run_7 (k_X12_isOne (d - 1) (by omega) p1 M1 hJ ) (by omega) (Nat.le_of_ble_eq_true rfl) w_1648 w_1650 w_56 w_112 w_1651 (by decide +kernel) rfl (by decide) sh_175 rfl rfl (Nat.le_of_ble_eq_true rfl) (fun r M3 h4 => ?_)
  obtain ⟨qx2, h4, jM3⟩ := h4
  have hf := li_fs_trans hf h4 (fun i k h => False.elim h)
  have hJ := jM3
  have rM3_1 := J_sl1 (M := M3) hJ
  have rM3_9 := J_sl9 (M := M3) hJ
  have mM3_1 : (M3.1 175 1).toInt = (M1.1 175 1).toInt := tl_slot (h4.1 175 1 id)
  have mM3_9 : (M3.1 175 9).toInt = (M1.1 175 9).toInt := tl_slot (h4.1 175 9 id)
  rcases qx2 with ⟨rfl, qx2⟩ | ⟨rfl, qx2⟩
  · skip
    refine li_if_ne 15 dX12_run_10 (by decide) (fun c => ?_) (fun c => absurd c (by decide))
    refine li_aload_n 0 dX12_run_15 rfl ?_
    refine li_iload_n 1 dX12_run_16 rfl ?_
    refine li_iconst 1 dX12_run_17 (by decide) ?_
    have z1 : (1 : Int32).toInt = 1 := rfl
    refine li_callV (n := 2) (As := [.int p1, .int 1]) dX12_run_18 (k_X12_owedBy (d - 1) (by omega) p1 1 M3 hJ (by omega)) (by omega) (Nat.le_of_ble_eq_true rfl) w_1656 w_1658 w_58 w_112 w_1659 (by decide +kernel) rfl (by decide) sh_175 rfl rfl (Nat.le_of_ble_eq_true rfl) (fun r M7 h8 => ?_)
    obtain ⟨⟨x6, rfl⟩, h8, jM7⟩ := h8
    have gx6 := tl_rg x6
    have hf := li_fs_trans hf h8 (fun i k h => False.elim h)
    have hJ := jM7
    have rM7_1 := J_sl1 (M := M7) hJ
    have rM7_9 := J_sl9 (M := M7) hJ
    have mM7_1 : (M7.1 175 1).toInt = (M3.1 175 1).toInt := tl_slot (h8.1 175 1 id)
    have mM7_9 : (M7.1 175 9).toInt = (M3.1 175 9).toInt := tl_slot (h8.1 175 9 id)
    have J31 : ∀ (x10 : Int32) (M11 : li_M), li_fs (fun i k => i = 181 ∨ (i = 175 ∧ k = 10) ∨ (i = 175 ∧ k = 9)) M0 M11 → li_J M11 → li_T l Z YX12_run d 31 [(0, .ref (Z.2.2 175)), (1, .int p1)] [.int x10] M11 (fun r M' => (∃ x : Int32, r = some (.int x)) ∧ li_fs (fun i k => i = 181 ∨ (i = 175 ∧ k = 10) ∨ (i = 175 ∧ k = 9)) M0 M' ∧ li_J M') := by
      intro x10 M11 hf hJ
      have gx10 := tl_rg x10
      have rM11_1 := J_sl1 (M := M11) hJ
      have rM11_9 := J_sl9 (M := M11) hJ
      have mM11_1 : (M11.1 175 1).toInt = (M0.1 175 1).toInt := tl_slot (hf.1 175 1 (show ¬ (175 = 181 ∨ (175 = 175 ∧ 1 = 10) ∨ (175 = 175 ∧ 1 = 9)) by decide))
      refine li_istore_n [(2, .int x10), (0, .ref (Z.2.2 175)), (1, .int p1)] dX12_run_31 (by decide) rfl ?_
      refine li_iconst 0 dX12_run_32 (by decide) ?_
      refine li_istore_n [(3, .int 0), (2, .int x10), (0, .ref (Z.2.2 175)), (1, .int p1)] dX12_run_33 (by decide) rfl ?_
      have L34 : ∀ (n : Nat) (x12 : Int32) (x13 : Int32) (M14 : li_M), (6 - (x12 : Int32).toInt).toNat < n → li_fs (fun i k => i = 181 ∨ (i = 175 ∧ k = 10) ∨ (i = 175 ∧ k = 9)) M0 M14 → li_J M14 → 0 ≤ (x12 : Int32).toInt → li_T l Z YX12_run d 34 [(3, .int x12), (2, .int x13), (0, .ref (Z.2.2 175)), (1, .int p1)] [] M14 (fun r M' => (∃ x : Int32, r = some (.int x)) ∧ li_fs (fun i k => i = 181 ∨ (i = 175 ∧ k = 10) ∨ (i = 175 ∧ k = 9)) M0 M' ∧ li_J M') := by
        intro n
        induction n with
        | zero => intro x12 x13 M14 hn; exact absurd hn (Nat.not_lt_zero _)
        | succ n ih34 =>
          intro x12 x13 M14 hn hf hJ hi
          have gx12 := tl_rg x12
          have gx13 := tl_rg x13
          have rM14_1 := J_sl1 (M := M14) hJ
          have rM14_9 := J_sl9 (M := M14) hJ
          have mM14_1 : (M14.1 175 1).toInt = (M0.1 175 1).toInt := tl_slot (hf.1 175 1 (show ¬ (175 = 181 ∨ (175 = 175 ∧ 1 = 10) ∨ (175 = 175 ∧ 1 = 9)) by decide))
          refine li_iload_n 0 dX12_run_34 rfl ?_
          refine li_aload_n 2 dX12_run_35 rfl ?_
          refine li_geti (k := 1) (N := 52) (T := TX12) (C0 := RX12) dX12_run_36 (by decide) sh_175 rfl rfl (by decide) li_in12 w_1405 ?_
          refine li_top (fun x15 ex15 => ?_)
          have gx15 : 0 ≤ x15.toInt ∧ x15.toInt ≤ 6 := by rw [ex15]; exact J_sl1 hJ
          have mx15 : x15.toInt = (M14.1 175 1).toInt := tl_slot ex15
          have sx15 : x15.toInt = (M0.1 175 1).toInt := tl_slot (ex15.trans (hf.1 175 1 (show ¬ (175 = 181 ∨ (175 = 175 ∧ 1 = 10) ∨ (175 = 175 ∧ 1 = 9)) by decide)))
          refine li_icmp_ge 96 dX12_run_39 (by decide) (fun c16 => ?_) (fun c16 => ?_)
          · have tc16 : x15.toInt ≤ x12.toInt := tl_le c16
            refine li_iconst 0 dX12_run_96 (by decide) ?_
            refine li_istore_n [(3, .int 0), (2, .int x13), (0, .ref (Z.2.2 175)), (1, .int p1)] dX12_run_97 (by decide) rfl ?_
            refine li_iconst 0 dX12_run_98 (by decide) ?_
            refine li_istore [(4, .int 0), (3, .int 0), (2, .int x13), (0, .ref (Z.2.2 175)), (1, .int p1)] dX12_run_99 (by decide) rfl ?_
            have L101 : ∀ (n : Nat) (x17 : Int32) (x18 : Int32) (M19 : li_M), (6 - (x17 : Int32).toInt).toNat < n → li_fs (fun i k => i = 181 ∨ (i = 175 ∧ k = 10) ∨ (i = 175 ∧ k = 9)) M0 M19 → li_J M19 → 0 ≤ (x17 : Int32).toInt → li_T l Z YX12_run d 101 [(4, .int x17), (3, .int x18), (2, .int x13), (0, .ref (Z.2.2 175)), (1, .int p1)] [] M19 (fun r M' => (∃ x : Int32, r = some (.int x)) ∧ li_fs (fun i k => i = 181 ∨ (i = 175 ∧ k = 10) ∨ (i = 175 ∧ k = 9)) M0 M' ∧ li_J M') := by
              intro n
              induction n with
              | zero => intro x17 x18 M19 hn; exact absurd hn (Nat.not_lt_zero _)
              | succ n ih101 =>
                intro x17 x18 M19 hn hf hJ hi
                have gx17 := tl_rg x17
                have gx18 := tl_rg x18
                have rM19_1 := J_sl1 (M := M19) hJ
                have rM19_9 := J_sl9 (M := M19) hJ
                have mM19_1 : (M19.1 175 1).toInt = (M0.1 175 1).toInt := tl_slot (hf.1 175 1 (show ¬ (175 = 181 ∨ (175 = 175 ∧ 1 = 10) ∨ (175 = 175 ∧ 1 = 9)) by decide))
                refine li_iload 0 dX12_run_101 rfl ?_
                refine li_aload_n 3 dX12_run_103 rfl ?_
                refine li_geti (k := 1) (N := 52) (T := TX12) (C0 := RX12) dX12_run_104 (by decide) sh_175 rfl rfl (by decide) li_in12 w_1405 ?_
                refine li_top (fun x20 ex20 => ?_)
                have gx20 : 0 ≤ x20.toInt ∧ x20.toInt ≤ 6 := by rw [ex20]; exact J_sl1 hJ
                have mx20 : x20.toInt = (M19.1 175 1).toInt := tl_slot ex20
                have sx20 : x20.toInt = (M0.1 175 1).toInt := tl_slot (ex20.trans (hf.1 175 1 (show ¬ (175 = 181 ∨ (175 = 175 ∧ 1 = 10) ∨ (175 = 175 ∧ 1 = 9)) by decide)))
                refine li_icmp_ge 139 dX12_run_107 (by decide) (fun c21 => ?_) (fun c21 => ?_)
                · have tc21 : x20.toInt ≤ x17.toInt := tl_le c21
                  refine li_aload_n 3 dX12_run_139 rfl ?_
                  refine li_iconst 0 dX12_run_140 (by decide) ?_
                  refine li_puti (k := 9) (N := 52) (T := TX12) (C0 := RX12) dX12_run_141 (by decide) sh_175 rfl rfl (by decide) li_in12 tyX12_ok nmX12 rfl rfl rfl rfl w_1413 ?_
                  refine li_nm (fun M22 eM22 => ?_)
                  have hf := li_fs_ui hf (Or.inr (Or.inr (⟨rfl, rfl⟩))) eM22
                  have z0 : (0 : Int32).toInt = 0 := rfl
                  have hJ := J_pt9 hJ (show 0 ≤ (0 : Int32).toInt ∧ (0 : Int32).toInt ≤ 20 by omega) eM22
                  have rM22_1 := J_sl1 (M := M22) hJ
                  have rM22_9 := J_sl9 (M := M22) hJ
                  have mM22_1 : (M22.1 175 1).toInt = (M19.1 175 1).toInt := by rw [eM22, li_ui_at, if_pos rfl, if_neg (by decide)]
                  have mM22_9 : (M22.1 175 9).toInt = 0 := by rw [eM22, li_ui_at, if_pos rfl, if_pos rfl]; rfl
                  refine li_aload_n 3 dX12_run_144 rfl ?_
                  refine li_iload_n 2 dX12_run_145 rfl ?_
                  refine li_callS (n := 1) (As := [.int x13]) dX12_run_146 (k_J6_bitCount_0f7a4 (d - 1) (by omega) x13 M22) (by omega) (Nat.le_of_ble_eq_true rfl) w_1696 w_822 w_123 w_823 (by decide +kernel) rfl rfl (Nat.le_of_ble_eq_true rfl) (fun r M24 h25 => ?_)
                  obtain ⟨⟨x23, rfl⟩, h25⟩ := h25
                  have eM24 : M24 = M22 := li_fr_none h25
                  have hf : li_fs (fun i k => i = 181 ∨ (i = 175 ∧ k = 10) ∨ (i = 175 ∧ k = 9)) M0 M24 := by rw [eM24]; exact hf
                  have hJ : li_J M24 := by rw [eM24]; exact hJ
                  have rM24_1 := J_sl1 (M := M24) hJ
                  have rM24_9 := J_sl9 (M := M24) hJ
                  have mM24_1 : (M24.1 175 1).toInt = (M22.1 175 1).toInt := by rw [eM24]
                  have mM24_9 : (M24.1 175 9).toInt = (M22.1 175 9).toInt := by rw [eM24]
                  have gx23 := tl_rg x23
                  refine li_callV (n := 1) (As := [.int x23]) dX12_run_149 (k_X12_tell (d - 1) (by omega) x23 M24 hJ (by omega)) (by omega) (Nat.le_of_ble_eq_true rfl) w_1783 w_1785 w_77 w_112 w_1786 (by decide +kernel) rfl (by decide) sh_175 rfl rfl (Nat.le_of_ble_eq_true rfl) (fun r M27 h28 => ?_)
                  obtain ⟨rfl, h28, jM27, nM27⟩ := h28
                  have hf := li_fs_trans hf h28 (fun i k => fun h => Or.elim h (fun h => Or.inl h) (fun h => Or.inr (Or.inr h)))
                  have hJ := jM27
                  have rM27_1 := J_sl1 (M := M27) hJ
                  have rM27_9 := J_sl9 (M := M27) hJ
                  have mM27_1 : (M27.1 175 1).toInt = (M24.1 175 1).toInt := tl_slot (h28.1 175 1 (show ¬ (175 = 181 ∨ (175 = 175 ∧ 1 = 9)) by decide))
                  refine li_aload_n 3 dX12_run_152 rfl ?_
                  refine li_iload_n 1 dX12_run_153 rfl ?_
                  refine li_callV (n := 1) (As := [.int x18]) dX12_run_154 (k_X12_tell (d - 1) (by omega) x18 M27 hJ (by omega)) (by omega) (Nat.le_of_ble_eq_true rfl) w_1783 w_1785 w_77 w_112 w_1786 (by decide +kernel) rfl (by decide) sh_175 rfl rfl (Nat.le_of_ble_eq_true rfl) (fun r M30 h31 => ?_)
                  obtain ⟨rfl, h31, jM30, nM30⟩ := h31
                  have hf := li_fs_trans hf h31 (fun i k => fun h => Or.elim h (fun h => Or.inl h) (fun h => Or.inr (Or.inr h)))
                  have hJ := jM30
                  have rM30_1 := J_sl1 (M := M30) hJ
                  have rM30_9 := J_sl9 (M := M30) hJ
                  have mM30_1 : (M30.1 175 1).toInt = (M27.1 175 1).toInt := tl_slot (h31.1 175 1 (show ¬ (175 = 181 ∨ (175 = 175 ∧ 1 = 9)) by decide))
                  refine li_iload_n 2 dX12_run_157 rfl ?_
                  exact li_iret dX12_run_158 rfl rfl ⟨⟨_, rfl⟩, hf, hJ⟩
                · have tc21 : x17.toInt < x20.toInt := tl_nle c21
                  refine li_iload_n 1 dX12_run_110 rfl ?_
                  refine li_iload_n 2 dX12_run_111 rfl ?_
                  refine li_iload 0 dX12_run_112 rfl ?_
                  refine li_callS (n := 2) (As := [.int x13, .int x17]) dX12_run_114 (k_X12_has (d - 1) (by omega) x13 x17 M19 hJ ) (by omega) (Nat.le_of_ble_eq_true rfl) w_1734 w_1735 w_112 w_1736 (by decide +kernel) rfl rfl (Nat.le_of_ble_eq_true rfl) (fun r M33 h34 => ?_)
                  obtain ⟨qx32, h34, jM33⟩ := h34
                  have hf := li_fs_trans hf h34 (fun i k h => False.elim h)
                  have hJ := jM33
                  have rM33_1 := J_sl1 (M := M33) hJ
                  have rM33_9 := J_sl9 (M := M33) hJ
                  have mM33_1 : (M33.1 175 1).toInt = (M19.1 175 1).toInt := tl_slot (h34.1 175 1 id)
                  have mM33_9 : (M33.1 175 9).toInt = (M19.1 175 9).toInt := tl_slot (h34.1 175 9 id)
                  rcases qx32 with ⟨rfl, qx32⟩ | ⟨rfl, qx32⟩
                  · skip
                    refine li_if_eq 130 dX12_run_117 (by decide) (fun c => absurd c (by decide)) (fun c => ?_)
                    refine li_aload_n 3 dX12_run_120 rfl ?_
                    refine li_iload 0 dX12_run_121 rfl ?_
                    refine li_iconst 1 dX12_run_123 (by decide) ?_
                    have z1 : (1 : Int32).toInt = 1 := rfl
                    refine li_callV (n := 2) (As := [.int x17, .int 1]) dX12_run_124 (k_X12_owedBy (d - 1) (by omega) x17 1 M33 hJ (by omega)) (by omega) (Nat.le_of_ble_eq_true rfl) w_1656 w_1658 w_58 w_112 w_1659 (by decide +kernel) rfl (by decide) sh_175 rfl rfl (Nat.le_of_ble_eq_true rfl) (fun r M37 h38 => ?_)
                    obtain ⟨⟨x36, rfl⟩, h38, jM37⟩ := h38
                    have gx36 := tl_rg x36
                    have hf := li_fs_trans hf h38 (fun i k h => False.elim h)
                    have hJ := jM37
                    have rM37_1 := J_sl1 (M := M37) hJ
                    have rM37_9 := J_sl9 (M := M37) hJ
                    have mM37_1 : (M37.1 175 1).toInt = (M33.1 175 1).toInt := tl_slot (h38.1 175 1 id)
                    have mM37_9 : (M37.1 175 9).toInt = (M33.1 175 9).toInt := tl_slot (h38.1 175 9 id)
                    refine li_goto 131 dX12_run_127 (by decide) ?_
                    refine li_iadd dX12_run_131 ?_
                    refine li_top (fun x39 ex39 => ?_)
                    try (have tx39 : x39.toInt = (x18 : Int32).toInt + (x36 : Int32).toInt := tl_add ex39 (by omega))
                    refine li_istore_n [(3, .int x39), (4, .int x17), (2, .int x13), (0, .ref (Z.2.2 175)), (1, .int p1)] dX12_run_132 (by decide) rfl ?_
                    obtain ⟨x40, ex40⟩ : ∃ y : Int32, y = x17 + 1 := ⟨_, rfl⟩
                    have z1 : (1 : Int32).toInt = 1 := rfl
                    try (have tx40 : x40.toInt = (x17 : Int32).toInt + (1 : Int32).toInt := tl_add ex40 (by omega))
                    refine li_iinc 1 [(4, .int x40), (3, .int x39), (2, .int x13), (0, .ref (Z.2.2 175)), (1, .int p1)] x40 dX12_run_133 rfl (by rw [ex40]; rfl) (by decide) rfl ?_
                    refine li_goto 101 dX12_run_136 (by decide) ?_
                    refine li_pick [0, 1, 2, 3, 4] [(4, .int x40), (3, .int x39), (2, .int x13), (0, .ref (Z.2.2 175)), (1, .int p1)] rfl ?_
                    exact ih101 x40 x39 M37 (by omega) hf hJ (by omega)
                  · skip
                    refine li_if_eq 130 dX12_run_117 (by decide) (fun c => ?_) (fun c => absurd rfl c)
                    refine li_iconst 0 dX12_run_130 (by decide) ?_
                    refine li_iadd dX12_run_131 ?_
                    refine li_top (fun x42 ex42 => ?_)
                    have z0 : (0 : Int32).toInt = 0 := rfl
                    try (have tx42 : x42.toInt = (x18 : Int32).toInt + (0 : Int32).toInt := tl_add ex42 (by omega))
                    refine li_istore_n [(3, .int x42), (4, .int x17), (2, .int x13), (0, .ref (Z.2.2 175)), (1, .int p1)] dX12_run_132 (by decide) rfl ?_
                    obtain ⟨x43, ex43⟩ : ∃ y : Int32, y = x17 + 1 := ⟨_, rfl⟩
                    have z1 : (1 : Int32).toInt = 1 := rfl
                    try (have tx43 : x43.toInt = (x17 : Int32).toInt + (1 : Int32).toInt := tl_add ex43 (by omega))
                    refine li_iinc 1 [(4, .int x43), (3, .int x42), (2, .int x13), (0, .ref (Z.2.2 175)), (1, .int p1)] x43 dX12_run_133 rfl (by rw [ex43]; rfl) (by decide) rfl ?_
                    refine li_goto 101 dX12_run_136 (by decide) ?_
                    refine li_pick [0, 1, 2, 3, 4] [(4, .int x43), (3, .int x42), (2, .int x13), (0, .ref (Z.2.2 175)), (1, .int p1)] rfl ?_
                    exact ih101 x43 x42 M33 (by omega) hf hJ (by omega)
            have z0 : (0 : Int32).toInt = 0 := rfl
            have z0 : (0 : Int32).toInt = 0 := rfl
            exact L101 _ 0 0 M14 (Nat.lt_succ_self _) hf hJ (by omega)
          · have tc16 : x12.toInt < x15.toInt := tl_nle c16
            refine li_iload_n 1 dX12_run_42 rfl ?_
            refine li_if_eq 96 dX12_run_43 (by decide) (fun c44 => ?_) (fun c44 => ?_)
            · have tc44 : x13.toInt = 0 := tl_eq c44
              refine li_iconst 0 dX12_run_96 (by decide) ?_
              refine li_istore_n [(3, .int 0), (2, .int x13), (0, .ref (Z.2.2 175)), (1, .int p1)] dX12_run_97 (by decide) rfl ?_
              refine li_iconst 0 dX12_run_98 (by decide) ?_
              refine li_istore [(4, .int 0), (3, .int 0), (2, .int x13), (0, .ref (Z.2.2 175)), (1, .int p1)] dX12_run_99 (by decide) rfl ?_
              have L101 : ∀ (n : Nat) (x45 : Int32) (x46 : Int32) (M47 : li_M), (6 - (x45 : Int32).toInt).toNat < n → li_fs (fun i k => i = 181 ∨ (i = 175 ∧ k = 10) ∨ (i = 175 ∧ k = 9)) M0 M47 → li_J M47 → 0 ≤ (x45 : Int32).toInt → li_T l Z YX12_run d 101 [(4, .int x45), (3, .int x46), (2, .int x13), (0, .ref (Z.2.2 175)), (1, .int p1)] [] M47 (fun r M' => (∃ x : Int32, r = some (.int x)) ∧ li_fs (fun i k => i = 181 ∨ (i = 175 ∧ k = 10) ∨ (i = 175 ∧ k = 9)) M0 M' ∧ li_J M') := by
                intro n
                induction n with
                | zero => intro x45 x46 M47 hn; exact absurd hn (Nat.not_lt_zero _)
                | succ n ih101 =>
                  intro x45 x46 M47 hn hf hJ hi
                  have gx45 := tl_rg x45
                  have gx46 := tl_rg x46
                  have rM47_1 := J_sl1 (M := M47) hJ
                  have rM47_9 := J_sl9 (M := M47) hJ
                  have mM47_1 : (M47.1 175 1).toInt = (M0.1 175 1).toInt := tl_slot (hf.1 175 1 (show ¬ (175 = 181 ∨ (175 = 175 ∧ 1 = 10) ∨ (175 = 175 ∧ 1 = 9)) by decide))
                  refine li_iload 0 dX12_run_101 rfl ?_
                  refine li_aload_n 3 dX12_run_103 rfl ?_
                  refine li_geti (k := 1) (N := 52) (T := TX12) (C0 := RX12) dX12_run_104 (by decide) sh_175 rfl rfl (by decide) li_in12 w_1405 ?_
                  refine li_top (fun x48 ex48 => ?_)
                  have gx48 : 0 ≤ x48.toInt ∧ x48.toInt ≤ 6 := by rw [ex48]; exact J_sl1 hJ
                  have mx48 : x48.toInt = (M47.1 175 1).toInt := tl_slot ex48
                  have sx48 : x48.toInt = (M0.1 175 1).toInt := tl_slot (ex48.trans (hf.1 175 1 (show ¬ (175 = 181 ∨ (175 = 175 ∧ 1 = 10) ∨ (175 = 175 ∧ 1 = 9)) by decide)))
                  refine li_icmp_ge 139 dX12_run_107 (by decide) (fun c49 => ?_) (fun c49 => ?_)
                  · have tc49 : x48.toInt ≤ x45.toInt := tl_le c49
                    refine li_aload_n 3 dX12_run_139 rfl ?_
                    refine li_iconst 0 dX12_run_140 (by decide) ?_
                    refine li_puti (k := 9) (N := 52) (T := TX12) (C0 := RX12) dX12_run_141 (by decide) sh_175 rfl rfl (by decide) li_in12 tyX12_ok nmX12 rfl rfl rfl rfl w_1413 ?_
                    refine li_nm (fun M50 eM50 => ?_)
                    have hf := li_fs_ui hf (Or.inr (Or.inr (⟨rfl, rfl⟩))) eM50
                    have z0 : (0 : Int32).toInt = 0 := rfl
                    have hJ := J_pt9 hJ (show 0 ≤ (0 : Int32).toInt ∧ (0 : Int32).toInt ≤ 20 by omega) eM50
                    have rM50_1 := J_sl1 (M := M50) hJ
                    have rM50_9 := J_sl9 (M := M50) hJ
                    have mM50_1 : (M50.1 175 1).toInt = (M47.1 175 1).toInt := by rw [eM50, li_ui_at, if_pos rfl, if_neg (by decide)]
                    have mM50_9 : (M50.1 175 9).toInt = 0 := by rw [eM50, li_ui_at, if_pos rfl, if_pos rfl]; rfl
                    refine li_aload_n 3 dX12_run_144 rfl ?_
                    refine li_iload_n 2 dX12_run_145 rfl ?_
                    refine li_callS (n := 1) (As := [.int x13]) dX12_run_146 (k_J6_bitCount_0f7a4 (d - 1) (by omega) x13 M50) (by omega) (Nat.le_of_ble_eq_true rfl) w_1696 w_822 w_123 w_823 (by decide +kernel) rfl rfl (Nat.le_of_ble_eq_true rfl) (fun r M52 h53 => ?_)
                    obtain ⟨⟨x51, rfl⟩, h53⟩ := h53
                    have eM52 : M52 = M50 := li_fr_none h53
                    have hf : li_fs (fun i k => i = 181 ∨ (i = 175 ∧ k = 10) ∨ (i = 175 ∧ k = 9)) M0 M52 := by rw [eM52]; exact hf
                    have hJ : li_J M52 := by rw [eM52]; exact hJ
                    have rM52_1 := J_sl1 (M := M52) hJ
                    have rM52_9 := J_sl9 (M := M52) hJ
                    have mM52_1 : (M52.1 175 1).toInt = (M50.1 175 1).toInt := by rw [eM52]
                    have mM52_9 : (M52.1 175 9).toInt = (M50.1 175 9).toInt := by rw [eM52]
                    have gx51 := tl_rg x51
                    refine li_callV (n := 1) (As := [.int x51]) dX12_run_149 (k_X12_tell (d - 1) (by omega) x51 M52 hJ (by omega)) (by omega) (Nat.le_of_ble_eq_true rfl) w_1783 w_1785 w_77 w_112 w_1786 (by decide +kernel) rfl (by decide) sh_175 rfl rfl (Nat.le_of_ble_eq_true rfl) (fun r M55 h56 => ?_)
                    obtain ⟨rfl, h56, jM55, nM55⟩ := h56
                    have hf := li_fs_trans hf h56 (fun i k => fun h => Or.elim h (fun h => Or.inl h) (fun h => Or.inr (Or.inr h)))
                    have hJ := jM55
                    have rM55_1 := J_sl1 (M := M55) hJ
                    have rM55_9 := J_sl9 (M := M55) hJ
                    have mM55_1 : (M55.1 175 1).toInt = (M52.1 175 1).toInt := tl_slot (h56.1 175 1 (show ¬ (175 = 181 ∨ (175 = 175 ∧ 1 = 9)) by decide))
                    refine li_aload_n 3 dX12_run_152 rfl ?_
                    refine li_iload_n 1 dX12_run_153 rfl ?_
                    refine li_callV (n := 1) (As := [.int x46]) dX12_run_154 (k_X12_tell (d - 1) (by omega) x46 M55 hJ (by omega)) (by omega) (Nat.le_of_ble_eq_true rfl) w_1783 w_1785 w_77 w_112 w_1786 (by decide +kernel) rfl (by decide) sh_175 rfl rfl (Nat.le_of_ble_eq_true rfl) (fun r M58 h59 => ?_)
                    obtain ⟨rfl, h59, jM58, nM58⟩ := h59
                    have hf := li_fs_trans hf h59 (fun i k => fun h => Or.elim h (fun h => Or.inl h) (fun h => Or.inr (Or.inr h)))
                    have hJ := jM58
                    have rM58_1 := J_sl1 (M := M58) hJ
                    have rM58_9 := J_sl9 (M := M58) hJ
                    have mM58_1 : (M58.1 175 1).toInt = (M55.1 175 1).toInt := tl_slot (h59.1 175 1 (show ¬ (175 = 181 ∨ (175 = 175 ∧ 1 = 9)) by decide))
                    refine li_iload_n 2 dX12_run_157 rfl ?_
                    exact li_iret dX12_run_158 rfl rfl ⟨⟨_, rfl⟩, hf, hJ⟩
                  · have tc49 : x45.toInt < x48.toInt := tl_nle c49
                    refine li_iload_n 1 dX12_run_110 rfl ?_
                    refine li_iload_n 2 dX12_run_111 rfl ?_
                    refine li_iload 0 dX12_run_112 rfl ?_
                    refine li_callS (n := 2) (As := [.int x13, .int x45]) dX12_run_114 (k_X12_has (d - 1) (by omega) x13 x45 M47 hJ ) (by omega) (Nat.le_of_ble_eq_true rfl) w_1734 w_1735 w_112 w_1736 (by decide +kernel) rfl rfl (Nat.le_of_ble_eq_true rfl) (fun r M61 h62 => ?_)
                    obtain ⟨qx60, h62, jM61⟩ := h62
                    have hf := li_fs_trans hf h62 (fun i k h => False.elim h)
                    have hJ := jM61
                    have rM61_1 := J_sl1 (M := M61) hJ
                    have rM61_9 := J_sl9 (M := M61) hJ
                    have mM61_1 : (M61.1 175 1).toInt = (M47.1 175 1).toInt := tl_slot (h62.1 175 1 id)
                    have mM61_9 : (M61.1 175 9).toInt = (M47.1 175 9).toInt := tl_slot (h62.1 175 9 id)
                    rcases qx60 with ⟨rfl, qx60⟩ | ⟨rfl, qx60⟩
                    · skip
                      refine li_if_eq 130 dX12_run_117 (by decide) (fun c => absurd c (by decide)) (fun c => ?_)
                      refine li_aload_n 3 dX12_run_120 rfl ?_
                      refine li_iload 0 dX12_run_121 rfl ?_
                      refine li_iconst 1 dX12_run_123 (by decide) ?_
                      have z1 : (1 : Int32).toInt = 1 := rfl
                      refine li_callV (n := 2) (As := [.int x45, .int 1]) dX12_run_124 (k_X12_owedBy (d - 1) (by omega) x45 1 M61 hJ (by omega)) (by omega) (Nat.le_of_ble_eq_true rfl) w_1656 w_1658 w_58 w_112 w_1659 (by decide +kernel) rfl (by decide) sh_175 rfl rfl (Nat.le_of_ble_eq_true rfl) (fun r M65 h66 => ?_)
                      obtain ⟨⟨x64, rfl⟩, h66, jM65⟩ := h66
                      have gx64 := tl_rg x64
                      have hf := li_fs_trans hf h66 (fun i k h => False.elim h)
                      have hJ := jM65
                      have rM65_1 := J_sl1 (M := M65) hJ
                      have rM65_9 := J_sl9 (M := M65) hJ
                      have mM65_1 : (M65.1 175 1).toInt = (M61.1 175 1).toInt := tl_slot (h66.1 175 1 id)
                      have mM65_9 : (M65.1 175 9).toInt = (M61.1 175 9).toInt := tl_slot (h66.1 175 9 id)
                      refine li_goto 131 dX12_run_127 (by decide) ?_
                      refine li_iadd dX12_run_131 ?_
                      refine li_top (fun x67 ex67 => ?_)
                      try (have tx67 : x67.toInt = (x46 : Int32).toInt + (x64 : Int32).toInt := tl_add ex67 (by omega))
                      refine li_istore_n [(3, .int x67), (4, .int x45), (2, .int x13), (0, .ref (Z.2.2 175)), (1, .int p1)] dX12_run_132 (by decide) rfl ?_
                      obtain ⟨x68, ex68⟩ : ∃ y : Int32, y = x45 + 1 := ⟨_, rfl⟩
                      have z1 : (1 : Int32).toInt = 1 := rfl
                      try (have tx68 : x68.toInt = (x45 : Int32).toInt + (1 : Int32).toInt := tl_add ex68 (by omega))
                      refine li_iinc 1 [(4, .int x68), (3, .int x67), (2, .int x13), (0, .ref (Z.2.2 175)), (1, .int p1)] x68 dX12_run_133 rfl (by rw [ex68]; rfl) (by decide) rfl ?_
                      refine li_goto 101 dX12_run_136 (by decide) ?_
                      refine li_pick [0, 1, 2, 3, 4] [(4, .int x68), (3, .int x67), (2, .int x13), (0, .ref (Z.2.2 175)), (1, .int p1)] rfl ?_
                      exact ih101 x68 x67 M65 (by omega) hf hJ (by omega)
                    · skip
                      refine li_if_eq 130 dX12_run_117 (by decide) (fun c => ?_) (fun c => absurd rfl c)
                      refine li_iconst 0 dX12_run_130 (by decide) ?_
                      refine li_iadd dX12_run_131 ?_
                      refine li_top (fun x70 ex70 => ?_)
                      have z0 : (0 : Int32).toInt = 0 := rfl
                      try (have tx70 : x70.toInt = (x46 : Int32).toInt + (0 : Int32).toInt := tl_add ex70 (by omega))
                      refine li_istore_n [(3, .int x70), (4, .int x45), (2, .int x13), (0, .ref (Z.2.2 175)), (1, .int p1)] dX12_run_132 (by decide) rfl ?_
                      obtain ⟨x71, ex71⟩ : ∃ y : Int32, y = x45 + 1 := ⟨_, rfl⟩
                      have z1 : (1 : Int32).toInt = 1 := rfl
                      try (have tx71 : x71.toInt = (x45 : Int32).toInt + (1 : Int32).toInt := tl_add ex71 (by omega))
                      refine li_iinc 1 [(4, .int x71), (3, .int x70), (2, .int x13), (0, .ref (Z.2.2 175)), (1, .int p1)] x71 dX12_run_133 rfl (by rw [ex71]; rfl) (by decide) rfl ?_
                      refine li_goto 101 dX12_run_136 (by decide) ?_
                      refine li_pick [0, 1, 2, 3, 4] [(4, .int x71), (3, .int x70), (2, .int x13), (0, .ref (Z.2.2 175)), (1, .int p1)] rfl ?_
                      exact ih101 x71 x70 M61 (by omega) hf hJ (by omega)
              have z0 : (0 : Int32).toInt = 0 := rfl
              have z0 : (0 : Int32).toInt = 0 := rfl
              exact L101 _ 0 0 M14 (Nat.lt_succ_self _) hf hJ (by omega)
            · have tc44 : ¬ x13.toInt = 0 := tl_ne c44
              refine li_iconst 0 dX12_run_46 (by decide) ?_
              refine li_istore [(4, .int 0), (3, .int x12), (2, .int x13), (0, .ref (Z.2.2 175)), (1, .int p1)] dX12_run_47 (by decide) rfl ?_
              have L49 : ∀ (n : Nat) (x72 : Int32) (x73 : Int32) (M74 : li_M), (6 - (x72 : Int32).toInt).toNat < n → li_fs (fun i k => i = 181 ∨ (i = 175 ∧ k = 10) ∨ (i = 175 ∧ k = 9)) M0 M74 → li_J M74 → 0 ≤ (x72 : Int32).toInt → li_T l Z YX12_run d 49 [(4, .int x72), (3, .int x12), (2, .int x73), (0, .ref (Z.2.2 175)), (1, .int p1)] [] M74 (fun r M' => (∃ x : Int32, r = some (.int x)) ∧ li_fs (fun i k => i = 181 ∨ (i = 175 ∧ k = 10) ∨ (i = 175 ∧ k = 9)) M0 M' ∧ li_J M') := by
                intro n
                induction n with
                | zero => intro x72 x73 M74 hn; exact absurd hn (Nat.not_lt_zero _)
                | succ n ih49 =>
                  intro x72 x73 M74 hn hf hJ hi
                  have gx72 := tl_rg x72
                  have gx73 := tl_rg x73
                  have rM74_1 := J_sl1 (M := M74) hJ
                  have rM74_9 := J_sl9 (M := M74) hJ
                  have mM74_1 : (M74.1 175 1).toInt = (M0.1 175 1).toInt := tl_slot (hf.1 175 1 (show ¬ (175 = 181 ∨ (175 = 175 ∧ 1 = 10) ∨ (175 = 175 ∧ 1 = 9)) by decide))
                  refine li_iload 0 dX12_run_49 rfl ?_
                  refine li_aload_n 3 dX12_run_51 rfl ?_
                  refine li_geti (k := 1) (N := 52) (T := TX12) (C0 := RX12) dX12_run_52 (by decide) sh_175 rfl rfl (by decide) li_in12 w_1405 ?_
                  refine li_top (fun x75 ex75 => ?_)
                  have gx75 : 0 ≤ x75.toInt ∧ x75.toInt ≤ 6 := by rw [ex75]; exact J_sl1 hJ
                  have mx75 : x75.toInt = (M74.1 175 1).toInt := tl_slot ex75
                  have sx75 : x75.toInt = (M0.1 175 1).toInt := tl_slot (ex75.trans (hf.1 175 1 (show ¬ (175 = 181 ∨ (175 = 175 ∧ 1 = 10) ∨ (175 = 175 ∧ 1 = 9)) by decide)))
                  refine li_icmp_ge 90 dX12_run_55 (by decide) (fun c76 => ?_) (fun c76 => ?_)
                  · have tc76 : x75.toInt ≤ x72.toInt := tl_le c76
                    obtain ⟨x77, ex77⟩ : ∃ y : Int32, y = x12 + 1 := ⟨_, rfl⟩
                    have z1 : (1 : Int32).toInt = 1 := rfl
                    try (have tx77 : x77.toInt = (x12 : Int32).toInt + (1 : Int32).toInt := tl_add ex77 (by omega))
                    refine li_iinc 1 [(3, .int x77), (4, .int x72), (2, .int x73), (0, .ref (Z.2.2 175)), (1, .int p1)] x77 dX12_run_90 rfl (by rw [ex77]; rfl) (by decide) rfl ?_
                    refine li_goto 34 dX12_run_93 (by decide) ?_
                    refine li_pick [0, 2, 3, 4] [(3, .int x77), (2, .int x73), (0, .ref (Z.2.2 175)), (1, .int p1)] rfl ?_
                    exact ih34 x77 x73 M74 (by omega) hf hJ (by omega)
                  · have tc76 : x72.toInt < x75.toInt := tl_nle c76
                    refine li_iload_n 2 dX12_run_58 rfl ?_
                    refine li_iload 0 dX12_run_59 rfl ?_
                    refine li_callS (n := 2) (As := [.int x73, .int x72]) dX12_run_61 (k_X12_has (d - 1) (by omega) x73 x72 M74 hJ ) (by omega) (Nat.le_of_ble_eq_true rfl) w_1734 w_1735 w_112 w_1736 (by decide +kernel) rfl rfl (Nat.le_of_ble_eq_true rfl) (fun r M79 h80 => ?_)
                    obtain ⟨qx78, h80, jM79⟩ := h80
                    have hf := li_fs_trans hf h80 (fun i k h => False.elim h)
                    have hJ := jM79
                    have rM79_1 := J_sl1 (M := M79) hJ
                    have rM79_9 := J_sl9 (M := M79) hJ
                    have mM79_1 : (M79.1 175 1).toInt = (M74.1 175 1).toInt := tl_slot (h80.1 175 1 id)
                    have mM79_9 : (M79.1 175 9).toInt = (M74.1 175 9).toInt := tl_slot (h80.1 175 9 id)
                    rcases qx78 with ⟨rfl, qx78⟩ | ⟨rfl, qx78⟩
                    · skip
                      refine li_if_ne 84 dX12_run_64 (by decide) (fun c => ?_) (fun c => absurd c (by decide))
                      obtain ⟨x82, ex82⟩ : ∃ y : Int32, y = x72 + 1 := ⟨_, rfl⟩
                      have z1 : (1 : Int32).toInt = 1 := rfl
                      try (have tx82 : x82.toInt = (x72 : Int32).toInt + (1 : Int32).toInt := tl_add ex82 (by omega))
                      refine li_iinc 0 [(4, .int x82), (3, .int x12), (2, .int x73), (0, .ref (Z.2.2 175)), (1, .int p1)] x82 dX12_run_84 rfl (by rw [ex82]; rfl) (by decide) rfl ?_
                      refine li_goto 49 dX12_run_87 (by decide) ?_
                      refine li_pick [0, 1, 2, 3, 4] [(4, .int x82), (3, .int x12), (2, .int x73), (0, .ref (Z.2.2 175)), (1, .int p1)] rfl ?_
                      exact ih49 x82 x73 M79 (by omega) hf hJ (by omega)
                    · skip
                      refine li_if_ne 84 dX12_run_64 (by decide) (fun c => absurd rfl c) (fun c => ?_)
                      refine li_aload_n 3 dX12_run_67 rfl ?_
                      refine li_iload 0 dX12_run_68 rfl ?_
                      refine li_iload_n 2 dX12_run_70 rfl ?_
                      refine li_callV (n := 2) (As := [.int x72, .int x73]) dX12_run_71 (k_X12_isStruck (d - 1) (by omega) x72 x73 M79 hJ (by omega)) (by omega) (Nat.le_of_ble_eq_true rfl) w_1959 w_1961 w_99 w_112 w_1962 (by decide +kernel) rfl (by decide) sh_175 rfl rfl (Nat.le_of_ble_eq_true rfl) (fun r M85 h86 => ?_)
                      obtain ⟨qx84, h86, jM85⟩ := h86
                      have hf := li_fs_trans hf h86 (fun i k h => False.elim h)
                      have hJ := jM85
                      have rM85_1 := J_sl1 (M := M85) hJ
                      have rM85_9 := J_sl9 (M := M85) hJ
                      have mM85_1 : (M85.1 175 1).toInt = (M79.1 175 1).toInt := tl_slot (h86.1 175 1 id)
                      have mM85_9 : (M85.1 175 9).toInt = (M79.1 175 9).toInt := tl_slot (h86.1 175 9 id)
                      rcases qx84 with ⟨rfl, qx84⟩ | ⟨rfl, qx84⟩
                      · skip
                        refine li_if_eq 84 dX12_run_74 (by decide) (fun c => absurd c (by decide)) (fun c => ?_)
                        refine li_iload_n 2 dX12_run_77 rfl ?_
                        refine li_iconst 1 dX12_run_78 (by decide) ?_
                        refine li_iload 0 dX12_run_79 rfl ?_
                        refine li_ishl dX12_run_81 ?_
                        refine li_top (fun x88 ex88 => ?_)
                        have z1 : (1 : Int32).toInt = 1 := rfl
                        try (have tx88 := tl_shl255 ex88 (by omega))
                        refine li_ior dX12_run_82 ?_
                        refine li_top (fun x89 ex89 => ?_)
                        try (have tx89 := tl_or255 ex89 (by omega) (by omega))
                        refine li_istore_n [(2, .int x89), (4, .int x72), (3, .int x12), (0, .ref (Z.2.2 175)), (1, .int p1)] dX12_run_83 (by decide) rfl ?_
                        obtain ⟨x90, ex90⟩ : ∃ y : Int32, y = x72 + 1 := ⟨_, rfl⟩
                        have z1 : (1 : Int32).toInt = 1 := rfl
                        try (have tx90 : x90.toInt = (x72 : Int32).toInt + (1 : Int32).toInt := tl_add ex90 (by omega))
                        refine li_iinc 1 [(4, .int x90), (2, .int x89), (3, .int x12), (0, .ref (Z.2.2 175)), (1, .int p1)] x90 dX12_run_84 rfl (by rw [ex90]; rfl) (by decide) rfl ?_
                        refine li_goto 49 dX12_run_87 (by decide) ?_
                        refine li_pick [0, 2, 1, 3, 4] [(4, .int x90), (3, .int x12), (2, .int x89), (0, .ref (Z.2.2 175)), (1, .int p1)] rfl ?_
                        exact ih49 x90 x89 M85 (by omega) hf hJ (by omega)
                      · skip
                        refine li_if_eq 84 dX12_run_74 (by decide) (fun c => ?_) (fun c => absurd rfl c)
                        obtain ⟨x92, ex92⟩ : ∃ y : Int32, y = x72 + 1 := ⟨_, rfl⟩
                        have z1 : (1 : Int32).toInt = 1 := rfl
                        try (have tx92 : x92.toInt = (x72 : Int32).toInt + (1 : Int32).toInt := tl_add ex92 (by omega))
                        refine li_iinc 0 [(4, .int x92), (3, .int x12), (2, .int x73), (0, .ref (Z.2.2 175)), (1, .int p1)] x92 dX12_run_84 rfl (by rw [ex92]; rfl) (by decide) rfl ?_
                        refine li_goto 49 dX12_run_87 (by decide) ?_
                        refine li_pick [0, 1, 2, 3, 4] [(4, .int x92), (3, .int x12), (2, .int x73), (0, .ref (Z.2.2 175)), (1, .int p1)] rfl ?_
                        exact ih49 x92 x73 M85 (by omega) hf hJ (by omega)
              have z0 : (0 : Int32).toInt = 0 := rfl
              exact L49 _ 0 x13 M14 (Nat.lt_succ_self _) hf hJ (by omega)
      have z0 : (0 : Int32).toInt = 0 := rfl
      exact L34 _ 0 x10 M11 (Nat.lt_succ_self _) hf hJ (by omega)
    refine li_if_ne 28 dX12_run_21 (by decide) (fun c9 => ?_) (fun c9 => ?_)
    · have tc9 : ¬ x6.toInt = 0 := tl_ne c9
      refine li_iconst 1 dX12_run_28 (by decide) ?_
      refine li_iload_n 1 dX12_run_29 rfl ?_
      refine li_ishl dX12_run_30 ?_
      refine li_top (fun x93 ex93 => ?_)
      have z1 : (1 : Int32).toInt = 1 := rfl
      try (have tx93 := tl_shl255 ex93 (by omega))
      refine li_pick [0, 1] [(0, .ref (Z.2.2 175)), (1, .int p1)] rfl ?_
      exact J31 x93 M7 hf hJ
    · have tc9 : x6.toInt = 0 := tl_eq c9
      refine li_iconst 0 dX12_run_24 (by decide) ?_
      refine li_goto 31 dX12_run_25 (by decide) ?_
      refine li_pick [0, 1] [(0, .ref (Z.2.2 175)), (1, .int p1)] rfl ?_
      have z0 : (0 : Int32).toInt = 0 := rfl
      exact J31 0 M7 hf hJ
  · skip
    refine li_if_ne 15 dX12_run_10 (by decide) (fun c => absurd rfl c) (fun c => ?_)
    refine li_iconst (-1) dX12_run_13 (by decide) ?_
    have zm1 : ((-1) : Int32).toInt = -1 := rfl
    exact li_iret dX12_run_14 rfl rfl ⟨⟨_, rfl⟩, hf, hJ⟩
set_option maxRecDepth 100000 in
set_option maxHeartbeats 4000000 in
theorem k_X12_years {l : Launch} {Z : li_Z} (d : Nat) (hd : 342 ≤ d) (p1 p2 : Int32) (M0 : li_M) (hJ : li_J M0) : li_Met l Z YX12_years d [.ref (Z.2.2 175), .int p1, .int p2] M0 (fun r M' => (∃ x : Int32, r = some (.int x)) ∧ li_fs (fun i k => i = 181 ∨ i = 185 ∨ i = 200 ∨ i = 1000 ∨ (i = 175 ∧ k = 10) ∨ (i = 175 ∧ k = 12) ∨ (i = 175 ∧ k = 13) ∨ (i = 175 ∧ k = 14) ∨ (i = 175 ∧ k = 15) ∨ (i = 175 ∧ k = 20) ∨ (i = 175 ∧ k = 25) ∨ (i = 175 ∧ k = 26) ∨ (i = 175 ∧ k = 9)) M0 M' ∧ li_J M') := by
  refine li_enter (by decide +kernel) (Nat.le_of_ble_eq_true rfl) ?_
  show li_T l Z YX12_years d 0 [(0, .ref (Z.2.2 175)), (1, .int p1), (2, .int p2)] [] M0 _
  have hf : li_fs (fun i k => i = 181 ∨ i = 185 ∨ i = 200 ∨ i = 1000 ∨ (i = 175 ∧ k = 10) ∨ (i = 175 ∧ k = 12) ∨ (i = 175 ∧ k = 13) ∨ (i = 175 ∧ k = 14) ∨ (i = 175 ∧ k = 15) ∨ (i = 175 ∧ k = 20) ∨ (i = 175 ∧ k = 25) ∨ (i = 175 ∧ k = 26) ∨ (i = 175 ∧ k = 9)) M0 M0 := li_fs_refl
  have gp1 := tl_rg p1
  have gp2 := tl_rg p2
  have rM0_4 := J_sl4 (M := M0) hJ
  have rM0_9 := J_sl9 (M := M0) hJ
  refine li_aload_n 0 dX12_years_0 rfl ?_
  refine li_iconst 0 dX12_years_1 (by decide) ?_
  refine li_puti (k := 10) (N := 52) (T := TX12) (C0 := RX12) dX12_years_2 (by decide) sh_175 rfl rfl (by decide) li_in12 tyX12_ok nmX12 rfl rfl rfl rfl w_1414 ?_
  refine li_nm (fun M1 eM1 => ?_)
  have hf := li_fs_ui hf (Or.inr (Or.inr (Or.inr (Or.inr (Or.inl ⟨rfl, rfl⟩))))) eM1
  have z0 : (0 : Int32).toInt = 0 := rfl
  have hJ := hJ.put (k := 10) (by decide) (rg_free rfl) eM1
  have rM1_4 := J_sl4 (M := M1) hJ
  have rM1_9 := J_sl9 (M := M1) hJ
  have mM1_4 : (M1.1 175 4).toInt = (M0.1 175 4).toInt := by rw [eM1, li_ui_at, if_pos rfl, if_neg (by decide)]
  have mM1_9 : (M1.1 175 9).toInt = (M0.1 175 9).toInt := by rw [eM1, li_ui_at, if_pos rfl, if_neg (by decide)]
  refine li_iload_n 2 dX12_years_5 rfl ?_
  refine li_iconst 1 dX12_years_6 (by decide) ?_
  refine li_bipush 60 dX12_years_7 (by decide) ?_
  have z1 : (1 : Int32).toInt = 1 := rfl
  have z60 : (60 : Int32).toInt = 60 := rfl
  refine li_callS (n := 3) (As := [.int p2, .int 1, .int 60]) dX12_years_9 (k_X12_in (d - 1) (by omega) p2 1 60 M1 hJ ) (by omega) (Nat.le_of_ble_eq_true rfl) w_1570 w_1571 w_112 w_1572 (by decide +kernel) rfl rfl (Nat.le_of_ble_eq_true rfl) (fun r M3 h4 => ?_)
  obtain ⟨qx2, h4, jM3⟩ := h4
  have hf := li_fs_trans hf h4 (fun i k h => False.elim h)
  have hJ := jM3
  have rM3_4 := J_sl4 (M := M3) hJ
  have rM3_9 := J_sl9 (M := M3) hJ
  have mM3_4 : (M3.1 175 4).toInt = (M1.1 175 4).toInt := tl_slot (h4.1 175 4 id)
  have mM3_9 : (M3.1 175 9).toInt = (M1.1 175 9).toInt := tl_slot (h4.1 175 9 id)
  rcases qx2 with ⟨rfl, qx2⟩ | ⟨rfl, qx2⟩
  · skip
    refine li_if_ne 17 dX12_years_12 (by decide) (fun c => ?_) (fun c => absurd c (by decide))
    refine li_iload_n 1 dX12_years_17 rfl ?_
    refine li_istore_n [(3, .int p1), (0, .ref (Z.2.2 175)), (1, .int p1), (2, .int p2)] dX12_years_18 (by decide) rfl ?_
    refine li_iconst 0 dX12_years_19 (by decide) ?_
    refine li_istore [(4, .int 0), (3, .int p1), (0, .ref (Z.2.2 175)), (1, .int p1), (2, .int p2)] dX12_years_20 (by decide) rfl ?_
    refine li_iconst 0 dX12_years_22 (by decide) ?_
    refine li_istore [(5, .int 0), (4, .int 0), (3, .int p1), (0, .ref (Z.2.2 175)), (1, .int p1), (2, .int p2)] dX12_years_23 (by decide) rfl ?_
    refine li_iconst 0 dX12_years_25 (by decide) ?_
    refine li_istore [(6, .int 0), (5, .int 0), (4, .int 0), (3, .int p1), (0, .ref (Z.2.2 175)), (1, .int p1), (2, .int p2)] dX12_years_26 (by decide) rfl ?_
    refine li_aload_n 4 dX12_years_28 rfl ?_
    refine li_getr (k := 0) (N := 52) (T := TX12) (C0 := RX12) dX12_years_29 (by decide) sh_175 rfl rfl (by decide) (by decide) li_in12 w_1404 ?_
    refine li_aload_n 4 dX12_years_32 rfl ?_
    refine li_getr (k := 47) (N := 52) (T := TX12) (C0 := RX12) dX12_years_33 (by decide) sh_175 rfl rfl (by decide) (by decide) li_in12 w_1451 ?_
    refine li_iconst 0 dX12_years_36 (by decide) ?_
    have z0 : (0 : Int32).toInt = 0 := rfl
    refine li_callS (n := 3) (As := [.ref (Z.2.2 176), .ref (Z.2.2 200), .int 0]) dX12_years_37 (k_X12_lay_nt (d - 1) (by omega) 0 M3 hJ (by omega)) (by omega) (Nat.le_of_ble_eq_true rfl) w_1745 w_1746 w_112 w_1747 (by decide +kernel) rfl rfl (Nat.le_of_ble_eq_true rfl) (fun r M7 h8 => ?_)
    obtain ⟨rfl, h8, jM7⟩ := h8
    have hf := li_fs_trans hf h8 (fun i k => fun h => Or.inr (Or.inr (Or.inl h)))
    have hJ := jM7
    have rM7_4 := J_sl4 (M := M7) hJ
    have rM7_9 := J_sl9 (M := M7) hJ
    have mM7_4 : (M7.1 175 4).toInt = (M3.1 175 4).toInt := tl_slot (h8.1 175 4 (show ¬ (175 = 200) by decide))
    have mM7_9 : (M7.1 175 9).toInt = (M3.1 175 9).toInt := tl_slot (h8.1 175 9 (show ¬ (175 = 200) by decide))
    refine li_iconst 0 dX12_years_40 (by decide) ?_
    refine li_istore [(7, .int 0), (6, .int 0), (5, .int 0), (4, .int 0), (3, .int p1), (0, .ref (Z.2.2 175)), (1, .int p1), (2, .int p2)] dX12_years_41 (by decide) rfl ?_
    have L43 : ∀ (n : Nat) (x9 : Int32) (x10 : Int32) (x11 : Int32) (x12 : Int32) (x13 : Int32) (M14 : li_M), (60 - (x9 : Int32).toInt).toNat < n → li_fs (fun i k => i = 181 ∨ i = 185 ∨ i = 200 ∨ i = 1000 ∨ (i = 175 ∧ k = 10) ∨ (i = 175 ∧ k = 12) ∨ (i = 175 ∧ k = 13) ∨ (i = 175 ∧ k = 14) ∨ (i = 175 ∧ k = 15) ∨ (i = 175 ∧ k = 20) ∨ (i = 175 ∧ k = 25) ∨ (i = 175 ∧ k = 26) ∨ (i = 175 ∧ k = 9)) M0 M14 → li_J M14 → 0 ≤ (x9 : Int32).toInt → li_T l Z YX12_years d 43 [(7, .int x9), (6, .int x10), (5, .int x11), (4, .int x12), (3, .int x13), (0, .ref (Z.2.2 175)), (1, .int p1), (2, .int p2)] [] M14 (fun r M' => (∃ x : Int32, r = some (.int x)) ∧ li_fs (fun i k => i = 181 ∨ i = 185 ∨ i = 200 ∨ i = 1000 ∨ (i = 175 ∧ k = 10) ∨ (i = 175 ∧ k = 12) ∨ (i = 175 ∧ k = 13) ∨ (i = 175 ∧ k = 14) ∨ (i = 175 ∧ k = 15) ∨ (i = 175 ∧ k = 20) ∨ (i = 175 ∧ k = 25) ∨ (i = 175 ∧ k = 26) ∨ (i = 175 ∧ k = 9)) M0 M' ∧ li_J M') := by
      intro n
      induction n with
      | zero => intro x9 x10 x11 x12 x13 M14 hn; exact absurd hn (Nat.not_lt_zero _)
      | succ n ih43 =>
        intro x9 x10 x11 x12 x13 M14 hn hf hJ hi
        have gx9 := tl_rg x9
        have gx10 := tl_rg x10
        have gx11 := tl_rg x11
        have gx12 := tl_rg x12
        have gx13 := tl_rg x13
        have rM14_4 := J_sl4 (M := M14) hJ
        have rM14_9 := J_sl9 (M := M14) hJ
        have mM14_4 : (M14.1 175 4).toInt = (M0.1 175 4).toInt := tl_slot (hf.1 175 4 (show ¬ (175 = 181 ∨ 175 = 185 ∨ 175 = 200 ∨ 175 = 1000 ∨ (175 = 175 ∧ 4 = 10) ∨ (175 = 175 ∧ 4 = 12) ∨ (175 = 175 ∧ 4 = 13) ∨ (175 = 175 ∧ 4 = 14) ∨ (175 = 175 ∧ 4 = 15) ∨ (175 = 175 ∧ 4 = 20) ∨ (175 = 175 ∧ 4 = 25) ∨ (175 = 175 ∧ 4 = 26) ∨ (175 = 175 ∧ 4 = 9)) by decide))
        refine li_iload 0 dX12_years_43 rfl ?_
        refine li_iload_n 7 dX12_years_45 rfl ?_
        refine li_icmp_ge 154 dX12_years_46 (by decide) (fun c15 => ?_) (fun c15 => ?_)
        · have tc15 : p2.toInt ≤ x9.toInt := tl_le c15
          refine li_aload_n 5 dX12_years_154 rfl ?_
          refine li_iconst 0 dX12_years_155 (by decide) ?_
          refine li_puti (k := 9) (N := 52) (T := TX12) (C0 := RX12) dX12_years_156 (by decide) sh_175 rfl rfl (by decide) li_in12 tyX12_ok nmX12 rfl rfl rfl rfl w_1413 ?_
          refine li_nm (fun M16 eM16 => ?_)
          have hf := li_fs_ui hf (Or.inr (Or.inr (Or.inr (Or.inr (Or.inr (Or.inr (Or.inr (Or.inr (Or.inr (Or.inr (Or.inr (Or.inr (⟨rfl, rfl⟩))))))))))))) eM16
          have z0 : (0 : Int32).toInt = 0 := rfl
          have hJ := J_pt9 hJ (show 0 ≤ (0 : Int32).toInt ∧ (0 : Int32).toInt ≤ 20 by omega) eM16
          have rM16_4 := J_sl4 (M := M16) hJ
          have rM16_9 := J_sl9 (M := M16) hJ
          have mM16_4 : (M16.1 175 4).toInt = (M14.1 175 4).toInt := by rw [eM16, li_ui_at, if_pos rfl, if_neg (by decide)]
          have mM16_9 : (M16.1 175 9).toInt = 0 := by rw [eM16, li_ui_at, if_pos rfl, if_pos rfl]; rfl
          refine li_aload_n 5 dX12_years_159 rfl ?_
          refine li_iload 2 dX12_years_160 rfl ?_
          refine li_callV (n := 1) (As := [.int x11]) dX12_years_162 (k_X12_tell (d - 1) (by omega) x11 M16 hJ (by omega)) (by omega) (Nat.le_of_ble_eq_true rfl) w_1783 w_1785 w_77 w_112 w_1786 (by decide +kernel) rfl (by decide) sh_175 rfl rfl (Nat.le_of_ble_eq_true rfl) (fun r M18 h19 => ?_)
          obtain ⟨rfl, h19, jM18, nM18⟩ := h19
          have hf := li_fs_trans hf h19 (fun i k => fun h => Or.elim h (fun h => Or.inl h) (fun h => Or.inr (Or.inr (Or.inr (Or.inr (Or.inr (Or.inr (Or.inr (Or.inr (Or.inr (Or.inr (Or.inr (Or.inr h)))))))))))))
          have hJ := jM18
          have rM18_4 := J_sl4 (M := M18) hJ
          have rM18_9 := J_sl9 (M := M18) hJ
          have mM18_4 : (M18.1 175 4).toInt = (M16.1 175 4).toInt := tl_slot (h19.1 175 4 (show ¬ (175 = 181 ∨ (175 = 175 ∧ 4 = 9)) by decide))
          refine li_aload_n 5 dX12_years_165 rfl ?_
          refine li_iload 1 dX12_years_166 rfl ?_
          refine li_callV (n := 1) (As := [.int x10]) dX12_years_168 (k_X12_tell (d - 1) (by omega) x10 M18 hJ (by omega)) (by omega) (Nat.le_of_ble_eq_true rfl) w_1783 w_1785 w_77 w_112 w_1786 (by decide +kernel) rfl (by decide) sh_175 rfl rfl (Nat.le_of_ble_eq_true rfl) (fun r M21 h22 => ?_)
          obtain ⟨rfl, h22, jM21, nM21⟩ := h22
          have hf := li_fs_trans hf h22 (fun i k => fun h => Or.elim h (fun h => Or.inl h) (fun h => Or.inr (Or.inr (Or.inr (Or.inr (Or.inr (Or.inr (Or.inr (Or.inr (Or.inr (Or.inr (Or.inr (Or.inr h)))))))))))))
          have hJ := jM21
          have rM21_4 := J_sl4 (M := M21) hJ
          have rM21_9 := J_sl9 (M := M21) hJ
          have mM21_4 : (M21.1 175 4).toInt = (M18.1 175 4).toInt := tl_slot (h22.1 175 4 (show ¬ (175 = 181 ∨ (175 = 175 ∧ 4 = 9)) by decide))
          refine li_iload 3 dX12_years_171 rfl ?_
          exact li_iret dX12_years_173 rfl rfl ⟨⟨_, rfl⟩, hf, hJ⟩
        · have tc15 : x9.toInt < p2.toInt := tl_nle c15
          refine li_iload_n 4 dX12_years_49 rfl ?_
          refine li_ldcw 1103515245 dX12_years_50 w_1967 ?_
          refine li_imul dX12_years_53 ?_
          refine li_top (fun x23 ex23 => ?_)
          have z1103515245 : (1103515245 : Int32).toInt = 1103515245 := rfl
          try (have tx23 : x23.toInt = (x13 : Int32).toInt * 1103515245 := tl_mul ex23 (show -2147483648 ≤ (x13 : Int32).toInt * 1103515245 ∧ (x13 : Int32).toInt * 1103515245 ≤ 2147483647 by omega))
          refine li_sipush 12345 dX12_years_54 (by decide) ?_
          refine li_iadd dX12_years_57 ?_
          refine li_top (fun x24 ex24 => ?_)
          have z12345 : (12345 : Int32).toInt = 12345 := rfl
          try (have tx24 : x24.toInt = (x23 : Int32).toInt + (12345 : Int32).toInt := tl_add ex24 (by omega))
          refine li_istore_n [(3, .int x24), (7, .int x9), (6, .int x10), (5, .int x11), (4, .int x12), (0, .ref (Z.2.2 175)), (1, .int p1), (2, .int p2)] dX12_years_58 (by decide) rfl ?_
          refine li_iload_n 0 dX12_years_59 rfl ?_
          refine li_bipush 16 dX12_years_60 (by decide) ?_
          refine li_iushr dX12_years_62 ?_
          refine li_top (fun x25 ex25 => ?_)
          refine li_bipush 10 dX12_years_63 (by decide) ?_
          refine li_irem dX12_years_65 (by decide) ?_
          refine li_top (fun x26 ex26 => ?_)
          refine li_istore [(8, .int x26), (3, .int x24), (7, .int x9), (6, .int x10), (5, .int x11), (4, .int x12), (0, .ref (Z.2.2 175)), (1, .int p1), (2, .int p2)] dX12_years_66 (by decide) rfl ?_
          refine li_aload_n 6 dX12_years_68 rfl ?_
          refine li_iload 0 dX12_years_69 rfl ?_
          refine li_callV (n := 1) (As := [.int x26]) dX12_years_71 (k_X12_isThing (d - 1) (by omega) x26 M14 hJ ) (by omega) (Nat.le_of_ble_eq_true rfl) w_1664 w_1666 w_59 w_112 w_1667 (by decide +kernel) rfl (by decide) sh_175 rfl rfl (Nat.le_of_ble_eq_true rfl) (fun r M28 h29 => ?_)
          obtain ⟨qx27, h29, jM28⟩ := h29
          have hf := li_fs_trans hf h29 (fun i k h => False.elim h)
          have hJ := jM28
          have rM28_4 := J_sl4 (M := M28) hJ
          have rM28_9 := J_sl9 (M := M28) hJ
          have mM28_4 : (M28.1 175 4).toInt = (M14.1 175 4).toInt := tl_slot (h29.1 175 4 id)
          have mM28_9 : (M28.1 175 9).toInt = (M14.1 175 9).toInt := tl_slot (h29.1 175 9 id)
          rcases qx27 with ⟨rfl, qx27⟩ | ⟨rfl, qx27⟩
          · skip
            refine li_if_eq 140 dX12_years_74 (by decide) (fun c => absurd c (by decide)) (fun c => ?_)
            refine li_aload_n 6 dX12_years_77 rfl ?_
            refine li_aload_n 6 dX12_years_78 rfl ?_
            refine li_getr (k := 47) (N := 52) (T := TX12) (C0 := RX12) dX12_years_79 (by decide) sh_175 rfl rfl (by decide) (by decide) li_in12 w_1451 ?_
            refine li_iload 0 dX12_years_82 rfl ?_
            refine li_aload_n 6 dX12_years_84 rfl ?_
            refine li_aload_n 6 dX12_years_85 rfl ?_
            refine li_getr (k := 47) (N := 52) (T := TX12) (C0 := RX12) dX12_years_86 (by decide) sh_175 rfl rfl (by decide) (by decide) li_in12 w_1451 ?_
            refine li_iload 0 dX12_years_89 rfl ?_
            refine li_callV (n := 2) (As := [.ref (Z.2.2 200), .int x26]) dX12_years_91 (k_X12_bestWayOf (d - 1) (by omega) la_200 x26 M28 hJ (by omega)) (by omega) (Nat.le_of_ble_eq_true rfl) w_1677 w_1679 w_62 w_112 w_1680 (by decide +kernel) rfl (by decide) sh_175 rfl rfl (Nat.le_of_ble_eq_true rfl) (fun r M32 h33 => ?_)
            obtain ⟨⟨x31, rfl⟩, h33, jM32⟩ := h33
            have gx31 := tl_rg x31
            have hf := li_fs_trans hf h33 (fun i k => fun h => Or.elim h (fun h => Or.inr (Or.inl h)) (fun h => Or.elim h (fun h => Or.inr (Or.inr (Or.inr (Or.inl h)))) (fun h => Or.elim h (fun h => Or.inr (Or.inr (Or.inr (Or.inr (Or.inr (Or.inl h)))))) (fun h => Or.elim h (fun h => Or.inr (Or.inr (Or.inr (Or.inr (Or.inr (Or.inr (Or.inl h))))))) (fun h => Or.elim h (fun h => Or.inr (Or.inr (Or.inr (Or.inr (Or.inr (Or.inr (Or.inr (Or.inl h)))))))) (fun h => Or.elim h (fun h => Or.inr (Or.inr (Or.inr (Or.inr (Or.inr (Or.inr (Or.inr (Or.inr (Or.inl h))))))))) (fun h => Or.inr (Or.inr (Or.inr (Or.inr (Or.inr (Or.inr (Or.inr (Or.inr (Or.inr (Or.inl h))))))))))))))))
            have hJ := jM32
            have rM32_4 := J_sl4 (M := M32) hJ
            have rM32_9 := J_sl9 (M := M32) hJ
            have mM32_4 : (M32.1 175 4).toInt = (M28.1 175 4).toInt := tl_slot (h33.1 175 4 (show ¬ (175 = 185 ∨ 175 = 1000 ∨ (175 = 175 ∧ 4 = 12) ∨ (175 = 175 ∧ 4 = 13) ∨ (175 = 175 ∧ 4 = 14) ∨ (175 = 175 ∧ 4 = 15) ∨ (175 = 175 ∧ 4 = 20)) by decide))
            have mM32_9 : (M32.1 175 9).toInt = (M28.1 175 9).toInt := tl_slot (h33.1 175 9 (show ¬ (175 = 185 ∨ 175 = 1000 ∨ (175 = 175 ∧ 9 = 12) ∨ (175 = 175 ∧ 9 = 13) ∨ (175 = 175 ∧ 9 = 14) ∨ (175 = 175 ∧ 9 = 15) ∨ (175 = 175 ∧ 9 = 20)) by decide))
            refine li_callV (n := 3) (As := [.ref (Z.2.2 200), .int x26, .int x31]) dX12_years_94 (k_X12_refusesSay (d - 1) (by omega) la_200 x26 x31 M32 hJ ) (by omega) (Nat.le_of_ble_eq_true rfl) w_1730 w_1732 w_69 w_112 w_1733 (by decide +kernel) rfl (by decide) sh_175 rfl rfl (Nat.le_of_ble_eq_true rfl) (fun r M35 h36 => ?_)
            obtain ⟨⟨x34, rfl, qx34⟩, h36, jM35⟩ := h36
            have gx34 := tl_rg x34
            have hf := li_fs_trans hf h36 (fun i k => fun h => Or.elim h (fun h => Or.inr (Or.inl h)) (fun h => Or.elim h (fun h => Or.inr (Or.inr (Or.inr (Or.inl h)))) (fun h => Or.elim h (fun h => Or.inr (Or.inr (Or.inr (Or.inr (Or.inr (Or.inl h)))))) (fun h => Or.elim h (fun h => Or.inr (Or.inr (Or.inr (Or.inr (Or.inr (Or.inr (Or.inl h))))))) (fun h => Or.elim h (fun h => Or.inr (Or.inr (Or.inr (Or.inr (Or.inr (Or.inr (Or.inr (Or.inl h)))))))) (fun h => Or.elim h (fun h => Or.inr (Or.inr (Or.inr (Or.inr (Or.inr (Or.inr (Or.inr (Or.inr (Or.inl h))))))))) (fun h => Or.inr (Or.inr (Or.inr (Or.inr (Or.inr (Or.inr (Or.inr (Or.inr (Or.inr (Or.inl h))))))))))))))))
            have hJ := jM35
            have rM35_4 := J_sl4 (M := M35) hJ
            have rM35_9 := J_sl9 (M := M35) hJ
            have mM35_4 : (M35.1 175 4).toInt = (M32.1 175 4).toInt := tl_slot (h36.1 175 4 (show ¬ (175 = 185 ∨ 175 = 1000 ∨ (175 = 175 ∧ 4 = 12) ∨ (175 = 175 ∧ 4 = 13) ∨ (175 = 175 ∧ 4 = 14) ∨ (175 = 175 ∧ 4 = 15) ∨ (175 = 175 ∧ 4 = 20)) by decide))
            have mM35_9 : (M35.1 175 9).toInt = (M32.1 175 9).toInt := tl_slot (h36.1 175 9 (show ¬ (175 = 185 ∨ 175 = 1000 ∨ (175 = 175 ∧ 9 = 12) ∨ (175 = 175 ∧ 9 = 13) ∨ (175 = 175 ∧ 9 = 14) ∨ (175 = 175 ∧ 9 = 15) ∨ (175 = 175 ∧ 9 = 20)) by decide))
            have J140 : ∀ (x38 : Int32) (x39 : Int32) (x40 : Int32) (M41 : li_M), li_fs (fun i k => i = 181 ∨ i = 185 ∨ i = 200 ∨ i = 1000 ∨ (i = 175 ∧ k = 10) ∨ (i = 175 ∧ k = 12) ∨ (i = 175 ∧ k = 13) ∨ (i = 175 ∧ k = 14) ∨ (i = 175 ∧ k = 15) ∨ (i = 175 ∧ k = 20) ∨ (i = 175 ∧ k = 25) ∨ (i = 175 ∧ k = 26) ∨ (i = 175 ∧ k = 9)) M0 M41 → li_J M41 → li_T l Z YX12_years d 140 [(8, .int x26), (3, .int x24), (7, .int x9), (6, .int x38), (5, .int x39), (4, .int x40), (0, .ref (Z.2.2 175)), (1, .int p1), (2, .int p2)] [] M41 (fun r M' => (∃ x : Int32, r = some (.int x)) ∧ li_fs (fun i k => i = 181 ∨ i = 185 ∨ i = 200 ∨ i = 1000 ∨ (i = 175 ∧ k = 10) ∨ (i = 175 ∧ k = 12) ∨ (i = 175 ∧ k = 13) ∨ (i = 175 ∧ k = 14) ∨ (i = 175 ∧ k = 15) ∨ (i = 175 ∧ k = 20) ∨ (i = 175 ∧ k = 25) ∨ (i = 175 ∧ k = 26) ∨ (i = 175 ∧ k = 9)) M0 M' ∧ li_J M') := by
              intro x38 x39 x40 M41 hf hJ
              have gx38 := tl_rg x38
              have gx39 := tl_rg x39
              have gx40 := tl_rg x40
              have rM41_4 := J_sl4 (M := M41) hJ
              have rM41_9 := J_sl9 (M := M41) hJ
              have mM41_4 : (M41.1 175 4).toInt = (M0.1 175 4).toInt := tl_slot (hf.1 175 4 (show ¬ (175 = 181 ∨ 175 = 185 ∨ 175 = 200 ∨ 175 = 1000 ∨ (175 = 175 ∧ 4 = 10) ∨ (175 = 175 ∧ 4 = 12) ∨ (175 = 175 ∧ 4 = 13) ∨ (175 = 175 ∧ 4 = 14) ∨ (175 = 175 ∧ 4 = 15) ∨ (175 = 175 ∧ 4 = 20) ∨ (175 = 175 ∧ 4 = 25) ∨ (175 = 175 ∧ 4 = 26) ∨ (175 = 175 ∧ 4 = 9)) by decide))
              refine li_aload_n 6 dX12_years_140 rfl ?_
              refine li_aload_n 6 dX12_years_141 rfl ?_
              refine li_getr (k := 47) (N := 52) (T := TX12) (C0 := RX12) dX12_years_142 (by decide) sh_175 rfl rfl (by decide) (by decide) li_in12 w_1451 ?_
              refine li_callV (n := 1) (As := [.ref (Z.2.2 200)]) dX12_years_145 (k_X12_goDay (d - 1) (by omega) la_200 M41 hJ ) (by omega) (Nat.le_of_ble_eq_true rfl) w_1779 w_1781 w_76 w_112 w_1782 (by decide +kernel) rfl (by decide) sh_175 rfl rfl (Nat.le_of_ble_eq_true rfl) (fun r M43 h44 => ?_)
              obtain ⟨rfl, h44, jM43⟩ := h44
              have hf := li_fs_trans hf h44 (fun i k => fun h => Or.elim h (fun h => Or.inr (Or.inr (Or.inl h))) (fun h => Or.elim h (fun h => Or.inr (Or.inr (Or.inr (Or.inr (Or.inr (Or.inr (Or.inr (Or.inr (Or.inr (Or.inr (Or.inl h))))))))))) (fun h => Or.inr (Or.inr (Or.inr (Or.inr (Or.inr (Or.inr (Or.inr (Or.inr (Or.inr (Or.inr (Or.inr (Or.inl h))))))))))))))
              have hJ := jM43
              have rM43_4 := J_sl4 (M := M43) hJ
              have rM43_9 := J_sl9 (M := M43) hJ
              have mM43_4 : (M43.1 175 4).toInt = (M41.1 175 4).toInt := tl_slot (h44.1 175 4 (show ¬ (175 = 200 ∨ (175 = 175 ∧ 4 = 25) ∨ (175 = 175 ∧ 4 = 26)) by decide))
              have mM43_9 : (M43.1 175 9).toInt = (M41.1 175 9).toInt := tl_slot (h44.1 175 9 (show ¬ (175 = 200 ∨ (175 = 175 ∧ 9 = 25) ∨ (175 = 175 ∧ 9 = 26)) by decide))
              obtain ⟨x45, ex45⟩ : ∃ y : Int32, y = x9 + 1 := ⟨_, rfl⟩
              have z1 : (1 : Int32).toInt = 1 := rfl
              try (have tx45 : x45.toInt = (x9 : Int32).toInt + (1 : Int32).toInt := tl_add ex45 (by omega))
              refine li_iinc 2 [(7, .int x45), (8, .int x26), (3, .int x24), (6, .int x38), (5, .int x39), (4, .int x40), (0, .ref (Z.2.2 175)), (1, .int p1), (2, .int p2)] x45 dX12_years_148 rfl (by rw [ex45]; rfl) (by decide) rfl ?_
              refine li_goto 43 dX12_years_151 (by decide) ?_
              refine li_pick [0, 3, 4, 5, 2, 6, 7, 8] [(7, .int x45), (6, .int x38), (5, .int x39), (4, .int x40), (3, .int x24), (0, .ref (Z.2.2 175)), (1, .int p1), (2, .int p2)] rfl ?_
              exact ih43 x45 x38 x39 x40 x24 M43 (by omega) hf hJ (by omega)
            refine li_if_ne 140 dX12_years_97 (by decide) (fun c37 => ?_) (fun c37 => ?_)
            · have tc37 : ¬ x34.toInt = 0 := tl_ne c37
              refine li_pick [0, 1, 2, 3, 4, 5, 6, 7, 8] [(8, .int x26), (3, .int x24), (7, .int x9), (6, .int x10), (5, .int x11), (4, .int x12), (0, .ref (Z.2.2 175)), (1, .int p1), (2, .int p2)] rfl ?_
              exact J140 x10 x11 x12 M35 hf hJ
            · have tc37 : x34.toInt = 0 := tl_eq c37
              refine li_iload 4 dX12_years_100 rfl ?_
              refine li_aload_n 6 dX12_years_102 rfl ?_
              refine li_aload_n 6 dX12_years_103 rfl ?_
              refine li_getr (k := 47) (N := 52) (T := TX12) (C0 := RX12) dX12_years_104 (by decide) sh_175 rfl rfl (by decide) (by decide) li_in12 w_1451 ?_
              refine li_iload 0 dX12_years_107 rfl ?_
              refine li_aload_n 6 dX12_years_109 rfl ?_
              refine li_aload_n 6 dX12_years_110 rfl ?_
              refine li_getr (k := 47) (N := 52) (T := TX12) (C0 := RX12) dX12_years_111 (by decide) sh_175 rfl rfl (by decide) (by decide) li_in12 w_1451 ?_
              refine li_iload 0 dX12_years_114 rfl ?_
              refine li_callV (n := 2) (As := [.ref (Z.2.2 200), .int x26]) dX12_years_116 (k_X12_bestWayOf (d - 1) (by omega) la_200 x26 M35 hJ (by omega)) (by omega) (Nat.le_of_ble_eq_true rfl) w_1677 w_1679 w_62 w_112 w_1680 (by decide +kernel) rfl (by decide) sh_175 rfl rfl (Nat.le_of_ble_eq_true rfl) (fun r M47 h48 => ?_)
              obtain ⟨⟨x46, rfl⟩, h48, jM47⟩ := h48
              have gx46 := tl_rg x46
              have hf := li_fs_trans hf h48 (fun i k => fun h => Or.elim h (fun h => Or.inr (Or.inl h)) (fun h => Or.elim h (fun h => Or.inr (Or.inr (Or.inr (Or.inl h)))) (fun h => Or.elim h (fun h => Or.inr (Or.inr (Or.inr (Or.inr (Or.inr (Or.inl h)))))) (fun h => Or.elim h (fun h => Or.inr (Or.inr (Or.inr (Or.inr (Or.inr (Or.inr (Or.inl h))))))) (fun h => Or.elim h (fun h => Or.inr (Or.inr (Or.inr (Or.inr (Or.inr (Or.inr (Or.inr (Or.inl h)))))))) (fun h => Or.elim h (fun h => Or.inr (Or.inr (Or.inr (Or.inr (Or.inr (Or.inr (Or.inr (Or.inr (Or.inl h))))))))) (fun h => Or.inr (Or.inr (Or.inr (Or.inr (Or.inr (Or.inr (Or.inr (Or.inr (Or.inr (Or.inl h))))))))))))))))
              have hJ := jM47
              have rM47_4 := J_sl4 (M := M47) hJ
              have rM47_9 := J_sl9 (M := M47) hJ
              have mM47_4 : (M47.1 175 4).toInt = (M35.1 175 4).toInt := tl_slot (h48.1 175 4 (show ¬ (175 = 185 ∨ 175 = 1000 ∨ (175 = 175 ∧ 4 = 12) ∨ (175 = 175 ∧ 4 = 13) ∨ (175 = 175 ∧ 4 = 14) ∨ (175 = 175 ∧ 4 = 15) ∨ (175 = 175 ∧ 4 = 20)) by decide))
              have mM47_9 : (M47.1 175 9).toInt = (M35.1 175 9).toInt := tl_slot (h48.1 175 9 (show ¬ (175 = 185 ∨ 175 = 1000 ∨ (175 = 175 ∧ 9 = 12) ∨ (175 = 175 ∧ 9 = 13) ∨ (175 = 175 ∧ 9 = 14) ∨ (175 = 175 ∧ 9 = 15) ∨ (175 = 175 ∧ 9 = 20)) by decide))
              refine li_callV (n := 3) (As := [.ref (Z.2.2 200), .int x26, .int x46]) dX12_years_119 (k_X12_goSay (d - 1) (by omega) la_200 x26 x46 M47 hJ (by omega)) (by omega) (Nat.le_of_ble_eq_true rfl) w_1748 w_1750 w_72 w_112 w_1751 (by decide +kernel) rfl (by decide) sh_175 rfl rfl (Nat.le_of_ble_eq_true rfl) (fun r M50 h51 => ?_)
              obtain ⟨⟨x49, rfl⟩, h51, jM50⟩ := h51
              have gx49 := tl_rg x49
              have hf := li_fs_trans hf h51 (fun i k => fun h => Or.elim h (fun h => Or.inr (Or.inr (Or.inl h))) (fun h => Or.elim h (fun h => Or.inr (Or.inl h)) (fun h => Or.elim h (fun h => Or.inr (Or.inr (Or.inr (Or.inl h)))) (fun h => Or.elim h (fun h => Or.inr (Or.inr (Or.inr (Or.inr (Or.inr (Or.inl h)))))) (fun h => Or.elim h (fun h => Or.inr (Or.inr (Or.inr (Or.inr (Or.inr (Or.inr (Or.inl h))))))) (fun h => Or.elim h (fun h => Or.inr (Or.inr (Or.inr (Or.inr (Or.inr (Or.inr (Or.inr (Or.inl h)))))))) (fun h => Or.elim h (fun h => Or.inr (Or.inr (Or.inr (Or.inr (Or.inr (Or.inr (Or.inr (Or.inr (Or.inl h))))))))) (fun h => Or.inr (Or.inr (Or.inr (Or.inr (Or.inr (Or.inr (Or.inr (Or.inr (Or.inr (Or.inl h)))))))))))))))))
              have hJ := jM50
              have rM50_4 := J_sl4 (M := M50) hJ
              have rM50_9 := J_sl9 (M := M50) hJ
              have mM50_4 : (M50.1 175 4).toInt = (M47.1 175 4).toInt := tl_slot (h51.1 175 4 (show ¬ (175 = 200 ∨ 175 = 185 ∨ 175 = 1000 ∨ (175 = 175 ∧ 4 = 12) ∨ (175 = 175 ∧ 4 = 13) ∨ (175 = 175 ∧ 4 = 14) ∨ (175 = 175 ∧ 4 = 15) ∨ (175 = 175 ∧ 4 = 20)) by decide))
              have mM50_9 : (M50.1 175 9).toInt = (M47.1 175 9).toInt := tl_slot (h51.1 175 9 (show ¬ (175 = 200 ∨ 175 = 185 ∨ 175 = 1000 ∨ (175 = 175 ∧ 9 = 12) ∨ (175 = 175 ∧ 9 = 13) ∨ (175 = 175 ∧ 9 = 14) ∨ (175 = 175 ∧ 9 = 15) ∨ (175 = 175 ∧ 9 = 20)) by decide))
              refine li_iadd dX12_years_122 ?_
              refine li_top (fun x52 ex52 => ?_)
              try (have tx52 : x52.toInt = (x11 : Int32).toInt + (x49 : Int32).toInt := tl_add ex52 (by omega))
              refine li_istore [(5, .int x52), (8, .int x26), (3, .int x24), (7, .int x9), (6, .int x10), (4, .int x12), (0, .ref (Z.2.2 175)), (1, .int p1), (2, .int p2)] dX12_years_123 (by decide) rfl ?_
              obtain ⟨x53, ex53⟩ : ∃ y : Int32, y = x12 + 1 := ⟨_, rfl⟩
              have z1 : (1 : Int32).toInt = 1 := rfl
              try (have tx53 : x53.toInt = (x12 : Int32).toInt + (1 : Int32).toInt := tl_add ex53 (by omega))
              refine li_iinc 5 [(4, .int x53), (5, .int x52), (8, .int x26), (3, .int x24), (7, .int x9), (6, .int x10), (0, .ref (Z.2.2 175)), (1, .int p1), (2, .int p2)] x53 dX12_years_125 rfl (by rw [ex53]; rfl) (by decide) rfl ?_
              refine li_iload 5 dX12_years_128 rfl ?_
              refine li_aload_n 6 dX12_years_130 rfl ?_
              refine li_iload 2 dX12_years_131 rfl ?_
              refine li_iconst 4 dX12_years_133 (by decide) ?_
              have z4 : (4 : Int32).toInt = 4 := rfl
              refine li_callV (n := 2) (As := [.int x26, .int 4]) dX12_years_134 (k_X12_field (d - 1) (by omega) x26 4 M50 hJ (by omega) (by omega)) (by omega) (Nat.le_of_ble_eq_true rfl) w_1668 w_1670 w_60 w_112 w_1671 (by decide +kernel) rfl (by decide) sh_175 rfl rfl (Nat.le_of_ble_eq_true rfl) (fun r M55 h56 => ?_)
              obtain ⟨⟨x54, rfl, qx54⟩, h56, jM55⟩ := h56
              have gx54 := tl_rg x54
              have hf := li_fs_trans hf h56 (fun i k h => False.elim h)
              have hJ := jM55
              have rM55_4 := J_sl4 (M := M55) hJ
              have rM55_9 := J_sl9 (M := M55) hJ
              have mM55_4 : (M55.1 175 4).toInt = (M50.1 175 4).toInt := tl_slot (h56.1 175 4 id)
              have mM55_9 : (M55.1 175 9).toInt = (M50.1 175 9).toInt := tl_slot (h56.1 175 9 id)
              refine li_iadd dX12_years_137 ?_
              refine li_top (fun x57 ex57 => ?_)
              try (have tx57 : x57.toInt = (x10 : Int32).toInt + (x54 : Int32).toInt := tl_add ex57 (by omega))
              refine li_istore [(6, .int x57), (4, .int x53), (5, .int x52), (8, .int x26), (3, .int x24), (7, .int x9), (0, .ref (Z.2.2 175)), (1, .int p1), (2, .int p2)] dX12_years_138 (by decide) rfl ?_
              refine li_pick [3, 4, 5, 0, 2, 1, 6, 7, 8] [(8, .int x26), (3, .int x24), (7, .int x9), (6, .int x57), (5, .int x52), (4, .int x53), (0, .ref (Z.2.2 175)), (1, .int p1), (2, .int p2)] rfl ?_
              exact J140 x57 x52 x53 M55 hf hJ
          · skip
            refine li_if_eq 140 dX12_years_74 (by decide) (fun c => ?_) (fun c => absurd rfl c)
            refine li_aload_n 6 dX12_years_140 rfl ?_
            refine li_aload_n 6 dX12_years_141 rfl ?_
            refine li_getr (k := 47) (N := 52) (T := TX12) (C0 := RX12) dX12_years_142 (by decide) sh_175 rfl rfl (by decide) (by decide) li_in12 w_1451 ?_
            refine li_callV (n := 1) (As := [.ref (Z.2.2 200)]) dX12_years_145 (k_X12_goDay (d - 1) (by omega) la_200 M28 hJ ) (by omega) (Nat.le_of_ble_eq_true rfl) w_1779 w_1781 w_76 w_112 w_1782 (by decide +kernel) rfl (by decide) sh_175 rfl rfl (Nat.le_of_ble_eq_true rfl) (fun r M60 h61 => ?_)
            obtain ⟨rfl, h61, jM60⟩ := h61
            have hf := li_fs_trans hf h61 (fun i k => fun h => Or.elim h (fun h => Or.inr (Or.inr (Or.inl h))) (fun h => Or.elim h (fun h => Or.inr (Or.inr (Or.inr (Or.inr (Or.inr (Or.inr (Or.inr (Or.inr (Or.inr (Or.inr (Or.inl h))))))))))) (fun h => Or.inr (Or.inr (Or.inr (Or.inr (Or.inr (Or.inr (Or.inr (Or.inr (Or.inr (Or.inr (Or.inr (Or.inl h))))))))))))))
            have hJ := jM60
            have rM60_4 := J_sl4 (M := M60) hJ
            have rM60_9 := J_sl9 (M := M60) hJ
            have mM60_4 : (M60.1 175 4).toInt = (M28.1 175 4).toInt := tl_slot (h61.1 175 4 (show ¬ (175 = 200 ∨ (175 = 175 ∧ 4 = 25) ∨ (175 = 175 ∧ 4 = 26)) by decide))
            have mM60_9 : (M60.1 175 9).toInt = (M28.1 175 9).toInt := tl_slot (h61.1 175 9 (show ¬ (175 = 200 ∨ (175 = 175 ∧ 9 = 25) ∨ (175 = 175 ∧ 9 = 26)) by decide))
            obtain ⟨x62, ex62⟩ : ∃ y : Int32, y = x9 + 1 := ⟨_, rfl⟩
            have z1 : (1 : Int32).toInt = 1 := rfl
            try (have tx62 : x62.toInt = (x9 : Int32).toInt + (1 : Int32).toInt := tl_add ex62 (by omega))
            refine li_iinc 2 [(7, .int x62), (8, .int x26), (3, .int x24), (6, .int x10), (5, .int x11), (4, .int x12), (0, .ref (Z.2.2 175)), (1, .int p1), (2, .int p2)] x62 dX12_years_148 rfl (by rw [ex62]; rfl) (by decide) rfl ?_
            refine li_goto 43 dX12_years_151 (by decide) ?_
            refine li_pick [0, 3, 4, 5, 2, 6, 7, 8] [(7, .int x62), (6, .int x10), (5, .int x11), (4, .int x12), (3, .int x24), (0, .ref (Z.2.2 175)), (1, .int p1), (2, .int p2)] rfl ?_
            exact ih43 x62 x10 x11 x12 x24 M60 (by omega) hf hJ (by omega)
    have z0 : (0 : Int32).toInt = 0 := rfl
    have z0 : (0 : Int32).toInt = 0 := rfl
    have z0 : (0 : Int32).toInt = 0 := rfl
    have z0 : (0 : Int32).toInt = 0 := rfl
    exact L43 _ 0 0 0 0 p1 M7 (Nat.lt_succ_self _) hf hJ (by omega)
  · skip
    refine li_if_ne 17 dX12_years_12 (by decide) (fun c => absurd rfl c) (fun c => ?_)
    refine li_iconst (-1) dX12_years_15 (by decide) ?_
    have zm1 : ((-1) : Int32).toInt = -1 := rfl
    exact li_iret dX12_years_16 rfl rfl ⟨⟨_, rfl⟩, hf, hJ⟩
set_option maxRecDepth 100000 in
set_option maxHeartbeats 4000000 in
theorem k_X12_keep {l : Launch} {Z : li_Z} (d : Nat) (hd : 2 ≤ d) (p1 : Int32) (M0 : li_M) (hJ : li_J M0) : li_Met l Z YX12_keep d [.ref (Z.2.2 175), .int p1] M0 (fun r M' => ((r = some (.int 1) ∧ True) ∨ (r = some (.int 0) ∧ True)) ∧ li_fs (fun i k => i = 201 ∨ i = 202 ∨ i = 203 ∨ (i = 175 ∧ k = 10)) M0 M' ∧ li_J M') := by
  refine li_enter (by decide +kernel) (Nat.le_of_ble_eq_true rfl) ?_
  show li_T l Z YX12_keep d 0 [(0, .ref (Z.2.2 175)), (1, .int p1)] [] M0 _
  have hf : li_fs (fun i k => i = 201 ∨ i = 202 ∨ i = 203 ∨ (i = 175 ∧ k = 10)) M0 M0 := li_fs_refl
  have gp1 := tl_rg p1
  refine li_aload_n 0 dX12_keep_0 rfl ?_
  refine li_iconst 0 dX12_keep_1 (by decide) ?_
  refine li_puti (k := 10) (N := 52) (T := TX12) (C0 := RX12) dX12_keep_2 (by decide) sh_175 rfl rfl (by decide) li_in12 tyX12_ok nmX12 rfl rfl rfl rfl w_1414 ?_
  refine li_nm (fun M1 eM1 => ?_)
  have hf := li_fs_ui hf (Or.inr (Or.inr (Or.inr (⟨rfl, rfl⟩)))) eM1
  have z0 : (0 : Int32).toInt = 0 := rfl
  have hJ := hJ.put (k := 10) (by decide) (rg_free rfl) eM1
  refine li_iload_n 1 dX12_keep_5 rfl ?_
  refine li_iconst 0 dX12_keep_6 (by decide) ?_
  refine li_iconst 1 dX12_keep_7 (by decide) ?_
  have z0 : (0 : Int32).toInt = 0 := rfl
  have z1 : (1 : Int32).toInt = 1 := rfl
  refine li_callS (n := 3) (As := [.int p1, .int 0, .int 1]) dX12_keep_8 (k_X12_in (d - 1) (by omega) p1 0 1 M1 hJ ) (by omega) (Nat.le_of_ble_eq_true rfl) w_1570 w_1571 w_112 w_1572 (by decide +kernel) rfl rfl (Nat.le_of_ble_eq_true rfl) (fun r M3 h4 => ?_)
  obtain ⟨qx2, h4, jM3⟩ := h4
  have hf := li_fs_trans hf h4 (fun i k h => False.elim h)
  have hJ := jM3
  rcases qx2 with ⟨rfl, qx2⟩ | ⟨rfl, qx2⟩
  · skip
    refine li_if_ne 16 dX12_keep_11 (by decide) (fun c => ?_) (fun c => absurd c (by decide))
    refine li_aload_n 0 dX12_keep_16 rfl ?_
    refine li_getr (k := 50) (N := 52) (T := TX12) (C0 := RX12) dX12_keep_17 (by decide) sh_175 rfl rfl (by decide) (by decide) li_in12 w_1454 ?_
    refine li_iload_n 1 dX12_keep_20 rfl ?_
    refine li_iconst 1 dX12_keep_21 (by decide) ?_
    have z1 : (1 : Int32).toInt = 1 := rfl
    refine li_zast dX12_keep_22 (by decide) sh_202 (tl_in (by omega)) (Or.inr rfl) ?_
    refine li_nm (fun M6 eM6 => ?_)
    have hf := li_fs_ui hf (Or.inr (Or.inl rfl)) eM6
    have hJ := hJ.st (by decide) (li_el_free (by unfold li_led; omega) (by decide) (by decide) (by unfold li_rq; omega)) eM6
    refine li_aload_n 0 dX12_keep_23 rfl ?_
    refine li_getr (k := 51) (N := 52) (T := TX12) (C0 := RX12) dX12_keep_24 (by decide) sh_175 rfl rfl (by decide) (by decide) li_in12 w_1455 ?_
    refine li_iload_n 1 dX12_keep_27 rfl ?_
    refine li_aload_n 0 dX12_keep_28 rfl ?_
    refine li_geti (k := 48) (N := 52) (T := TX12) (C0 := RX12) dX12_keep_29 (by decide) sh_175 rfl rfl (by decide) li_in12 w_1452 ?_
    refine li_top (fun x7 ex7 => ?_)
    have gx7 := tl_rg x7
    have sx7 : x7.toInt = (M0.1 175 48).toInt := tl_slot (ex7.trans (hf.1 175 48 (show ¬ (175 = 201 ∨ 175 = 202 ∨ 175 = 203 ∨ (175 = 175 ∧ 48 = 10)) by decide)))
    refine li_iast dX12_keep_32 (by decide) sh_203 (tl_in (by omega)) ?_
    refine li_nm (fun M8 eM8 => ?_)
    have hf := li_fs_ui hf (Or.inr (Or.inr (Or.inl rfl))) eM8
    have hJ := hJ.st (by decide) (li_el_free (by unfold li_led; omega) (by decide) (by decide) (by unfold li_rq; omega)) eM8
    refine li_aload_n 0 dX12_keep_33 rfl ?_
    refine li_getr (k := 0) (N := 52) (T := TX12) (C0 := RX12) dX12_keep_34 (by decide) sh_175 rfl rfl (by decide) (by decide) li_in12 w_1404 ?_
    refine li_aload_n 0 dX12_keep_37 rfl ?_
    refine li_getr (k := 49) (N := 52) (T := TX12) (C0 := RX12) dX12_keep_38 (by decide) sh_175 rfl rfl (by decide) (by decide) li_in12 w_1453 ?_
    refine li_bipush 51 dX12_keep_41 (by decide) ?_
    refine li_iload_n 1 dX12_keep_43 rfl ?_
    refine li_imul dX12_keep_44 ?_
    refine li_top (fun x9 ex9 => ?_)
    have z51 : (51 : Int32).toInt = 51 := rfl
    try (have tx9 : x9.toInt = 51 * (p1 : Int32).toInt := tl_mul ex9 (show -2147483648 ≤ 51 * (p1 : Int32).toInt ∧ 51 * (p1 : Int32).toInt ≤ 2147483647 by omega))
    refine li_callS (n := 3) (As := [.ref (Z.2.2 176), .ref (Z.2.2 201), .int x9]) dX12_keep_45 (k_X12_lay_nk (d - 1) (by omega) x9 M8 hJ (by omega)) (by omega) (Nat.le_of_ble_eq_true rfl) w_1745 w_1746 w_112 w_1747 (by decide +kernel) rfl rfl (Nat.le_of_ble_eq_true rfl) (fun r M11 h12 => ?_)
    obtain ⟨rfl, h12, jM11⟩ := h12
    have hf := li_fs_trans hf h12 (fun i k => fun h => Or.inl h)
    have hJ := jM11
    refine li_iconst 1 dX12_keep_48 (by decide) ?_
    have z1 : (1 : Int32).toInt = 1 := rfl
    exact li_iret dX12_keep_49 rfl (li_nz (Or.inr rfl)) ⟨Or.inl ⟨rfl, trivial⟩, hf, hJ⟩
  · skip
    refine li_if_ne 16 dX12_keep_11 (by decide) (fun c => absurd rfl c) (fun c => ?_)
    refine li_iconst 0 dX12_keep_14 (by decide) ?_
    have z0 : (0 : Int32).toInt = 0 := rfl
    exact li_iret dX12_keep_15 rfl (li_nz (Or.inl rfl)) ⟨Or.inr ⟨rfl, trivial⟩, hf, hJ⟩
set_option maxRecDepth 100000 in
set_option maxHeartbeats 4000000 in
theorem k_X12_again {l : Launch} {Z : li_Z} (d : Nat) (hd : 2 ≤ d) (p1 : Int32) (M0 : li_M) (hJ : li_J M0) : li_Met l Z YX12_again d [.ref (Z.2.2 175), .int p1] M0 (fun r M' => ((r = some (.int 1) ∧ True) ∨ (r = some (.int 0) ∧ True)) ∧ li_fs (fun i k => i = 176 ∨ (i = 175 ∧ k = 10) ∨ (i = 175 ∧ k = 23)) M0 M' ∧ li_J M') := by
  refine li_enter (by decide +kernel) (Nat.le_of_ble_eq_true rfl) ?_
  show li_T l Z YX12_again d 0 [(0, .ref (Z.2.2 175)), (1, .int p1)] [] M0 _
  have hf : li_fs (fun i k => i = 176 ∨ (i = 175 ∧ k = 10) ∨ (i = 175 ∧ k = 23)) M0 M0 := li_fs_refl
  have gp1 := tl_rg p1
  refine li_aload_n 0 dX12_again_0 rfl ?_
  refine li_iconst 0 dX12_again_1 (by decide) ?_
  refine li_puti (k := 10) (N := 52) (T := TX12) (C0 := RX12) dX12_again_2 (by decide) sh_175 rfl rfl (by decide) li_in12 tyX12_ok nmX12 rfl rfl rfl rfl w_1414 ?_
  refine li_nm (fun M1 eM1 => ?_)
  have hf := li_fs_ui hf (Or.inr (Or.inl ⟨rfl, rfl⟩)) eM1
  have z0 : (0 : Int32).toInt = 0 := rfl
  have hJ := hJ.put (k := 10) (by decide) (rg_free rfl) eM1
  refine li_iload_n 1 dX12_again_5 rfl ?_
  refine li_iconst 0 dX12_again_6 (by decide) ?_
  refine li_iconst 1 dX12_again_7 (by decide) ?_
  have z0 : (0 : Int32).toInt = 0 := rfl
  have z1 : (1 : Int32).toInt = 1 := rfl
  refine li_callS (n := 3) (As := [.int p1, .int 0, .int 1]) dX12_again_8 (k_X12_in (d - 1) (by omega) p1 0 1 M1 hJ ) (by omega) (Nat.le_of_ble_eq_true rfl) w_1570 w_1571 w_112 w_1572 (by decide +kernel) rfl rfl (Nat.le_of_ble_eq_true rfl) (fun r M3 h4 => ?_)
  obtain ⟨qx2, h4, jM3⟩ := h4
  have hf := li_fs_trans hf h4 (fun i k h => False.elim h)
  have hJ := jM3
  rcases qx2 with ⟨rfl, qx2⟩ | ⟨rfl, qx2⟩
  · skip
    refine li_if_eq 36 dX12_again_11 (by decide) (fun c => absurd c (by decide)) (fun c => ?_)
    refine li_aload_n 0 dX12_again_14 rfl ?_
    refine li_getr (k := 50) (N := 52) (T := TX12) (C0 := RX12) dX12_again_15 (by decide) sh_175 rfl rfl (by decide) (by decide) li_in12 w_1454 ?_
    refine li_iload_n 1 dX12_again_18 rfl ?_
    refine li_zald dX12_again_19 (by decide) sh_202 (tl_in (by omega)) ?_
    refine li_top (fun x6 ex6 => ?_)
    have gx6 := tl_rg x6
    refine li_if_eq 36 dX12_again_20 (by decide) (fun c7 => ?_) (fun c7 => ?_)
    · have tc7 : x6.toInt = 0 := tl_eq c7
      refine li_iconst 0 dX12_again_36 (by decide) ?_
      have z0 : (0 : Int32).toInt = 0 := rfl
      exact li_iret dX12_again_37 rfl (li_nz (Or.inl rfl)) ⟨Or.inr ⟨rfl, trivial⟩, hf, hJ⟩
    · have tc7 : ¬ x6.toInt = 0 := tl_ne c7
      refine li_aload_n 0 dX12_again_23 rfl ?_
      refine li_getr (k := 51) (N := 52) (T := TX12) (C0 := RX12) dX12_again_24 (by decide) sh_175 rfl rfl (by decide) (by decide) li_in12 w_1455 ?_
      refine li_iload_n 1 dX12_again_27 rfl ?_
      refine li_iald dX12_again_28 (by decide) sh_203 (tl_in (by omega)) ?_
      refine li_top (fun x8 ex8 => ?_)
      have gx8 := tl_rg x8
      refine li_aload_n 0 dX12_again_29 rfl ?_
      refine li_geti (k := 48) (N := 52) (T := TX12) (C0 := RX12) dX12_again_30 (by decide) sh_175 rfl rfl (by decide) li_in12 w_1452 ?_
      refine li_top (fun x9 ex9 => ?_)
      have gx9 := tl_rg x9
      have sx9 : x9.toInt = (M0.1 175 48).toInt := tl_slot (ex9.trans (hf.1 175 48 (show ¬ (175 = 176 ∨ (175 = 175 ∧ 48 = 10) ∨ (175 = 175 ∧ 48 = 23)) by decide)))
      refine li_icmp_eq 38 dX12_again_33 (by decide) (fun c10 => ?_) (fun c10 => ?_)
      · have tc10 : x8.toInt = x9.toInt := tl_eq c10
        refine li_iconst 0 dX12_again_38 (by decide) ?_
        refine li_istore_n [(2, .int 0), (0, .ref (Z.2.2 175)), (1, .int p1)] dX12_again_39 (by decide) rfl ?_
        have L40 : ∀ (n : Nat) (x11 : Int32) (M12 : li_M), (51 - (x11 : Int32).toInt).toNat < n → li_fs (fun i k => i = 176 ∨ (i = 175 ∧ k = 10) ∨ (i = 175 ∧ k = 23)) M0 M12 → li_J M12 → 0 ≤ (x11 : Int32).toInt → li_T l Z YX12_again d 40 [(2, .int x11), (0, .ref (Z.2.2 175)), (1, .int p1)] [] M12 (fun r M' => ((r = some (.int 1) ∧ True) ∨ (r = some (.int 0) ∧ True)) ∧ li_fs (fun i k => i = 176 ∨ (i = 175 ∧ k = 10) ∨ (i = 175 ∧ k = 23)) M0 M' ∧ li_J M') := by
          intro n
          induction n with
          | zero => intro x11 M12 hn; exact absurd hn (Nat.not_lt_zero _)
          | succ n ih40 =>
            intro x11 M12 hn hf hJ hi
            have gx11 := tl_rg x11
            refine li_iload_n 0 dX12_again_40 rfl ?_
            refine li_bipush 51 dX12_again_41 (by decide) ?_
            refine li_icmp_ge 69 dX12_again_43 (by decide) (fun c13 => ?_) (fun c13 => ?_)
            · have tc13 : 51 ≤ x11.toInt := tl_le c13
              refine li_aload_n 1 dX12_again_69 rfl ?_
              refine li_iconst 0 dX12_again_70 (by decide) ?_
              refine li_puti (k := 23) (N := 52) (T := TX12) (C0 := RX12) dX12_again_71 (by decide) sh_175 rfl rfl (by decide) li_in12 tyX12_ok nmX12 rfl rfl rfl rfl w_1427 ?_
              refine li_nm (fun M14 eM14 => ?_)
              have hf := li_fs_ui hf (Or.inr (Or.inr (⟨rfl, rfl⟩))) eM14
              have z0 : (0 : Int32).toInt = 0 := rfl
              have hJ := J_pt23 hJ (show 0 ≤ (0 : Int32).toInt ∧ (0 : Int32).toInt ≤ 12 by omega) eM14
              refine li_iconst 1 dX12_again_74 (by decide) ?_
              have z1 : (1 : Int32).toInt = 1 := rfl
              exact li_iret dX12_again_75 rfl (li_nz (Or.inr rfl)) ⟨Or.inl ⟨rfl, trivial⟩, hf, hJ⟩
            · have tc13 : x11.toInt < 51 := tl_nle c13
              refine li_aload_n 1 dX12_again_46 rfl ?_
              refine li_getr (k := 0) (N := 52) (T := TX12) (C0 := RX12) dX12_again_47 (by decide) sh_175 rfl rfl (by decide) (by decide) li_in12 w_1404 ?_
              refine li_iload_n 0 dX12_again_50 rfl ?_
              refine li_aload_n 1 dX12_again_51 rfl ?_
              refine li_getr (k := 49) (N := 52) (T := TX12) (C0 := RX12) dX12_again_52 (by decide) sh_175 rfl rfl (by decide) (by decide) li_in12 w_1453 ?_
              refine li_bipush 51 dX12_again_55 (by decide) ?_
              refine li_iload_n 2 dX12_again_57 rfl ?_
              refine li_imul dX12_again_58 ?_
              refine li_top (fun x15 ex15 => ?_)
              have z51 : (51 : Int32).toInt = 51 := rfl
              try (have tx15 : x15.toInt = 51 * (p1 : Int32).toInt := tl_mul ex15 (show -2147483648 ≤ 51 * (p1 : Int32).toInt ∧ 51 * (p1 : Int32).toInt ≤ 2147483647 by omega))
              refine li_iload_n 0 dX12_again_59 rfl ?_
              refine li_iadd dX12_again_60 ?_
              refine li_top (fun x16 ex16 => ?_)
              try (have tx16 : x16.toInt = (x15 : Int32).toInt + (x11 : Int32).toInt := tl_add ex16 (by omega))
              refine li_iald dX12_again_61 (by decide) sh_201 (tl_in (by omega)) ?_
              refine li_top (fun x17 ex17 => ?_)
              have gx17 := tl_rg x17
              try (have ox17 : (x16 : Int32).toInt % 51 = (x16 : Int32).toInt := by omega)
              have lx17 : ((x16 : Int32).toInt % 51 = 20 → 0 ≤ x17.toInt ∧ x17.toInt ≤ 6) ∧ (21 ≤ (x16 : Int32).toInt % 51 → ((x16 : Int32).toInt % 51 - 21) % 5 < 2 → 0 ≤ x17.toInt ∧ x17.toInt ≤ 5) := hJ.ldLed (by unfold li_led; omega) ex17 (by omega)
              refine li_iast dX12_again_62 (by decide) sh_176 (tl_in (by omega)) ?_
              refine li_nm (fun M18 eM18 => ?_)
              have hf := li_fs_ui hf (Or.inl rfl) eM18
              try (have oM18 : (x11 : Int32).toInt % 51 = (x11 : Int32).toInt := by omega)
              have hJ := hJ.st (by decide) (li_el_led (by unfold li_led; omega) (by omega) (show ((x11 : Int32).toInt % 51 = 20 → 0 ≤ (x17 : Int32).toInt ∧ (x17 : Int32).toInt ≤ 6) ∧ (21 ≤ (x11 : Int32).toInt % 51 → ((x11 : Int32).toInt % 51 - 21) % 5 < 2 → 0 ≤ (x17 : Int32).toInt ∧ (x17 : Int32).toInt ≤ 5) by omega)) eM18
              obtain ⟨x19, ex19⟩ : ∃ y : Int32, y = x11 + 1 := ⟨_, rfl⟩
              have z1 : (1 : Int32).toInt = 1 := rfl
              try (have tx19 : x19.toInt = (x11 : Int32).toInt + (1 : Int32).toInt := tl_add ex19 (by omega))
              refine li_iinc 0 [(2, .int x19), (0, .ref (Z.2.2 175)), (1, .int p1)] x19 dX12_again_63 rfl (by rw [ex19]; rfl) (by decide) rfl ?_
              refine li_goto 40 dX12_again_66 (by decide) ?_
              refine li_pick [0, 1, 2] [(2, .int x19), (0, .ref (Z.2.2 175)), (1, .int p1)] rfl ?_
              exact ih40 x19 M18 (by omega) hf hJ (by omega)
        have z0 : (0 : Int32).toInt = 0 := rfl
        exact L40 _ 0 M3 (Nat.lt_succ_self _) hf hJ (by omega)
      · have tc10 : ¬ x8.toInt = x9.toInt := tl_ne c10
        refine li_iconst 0 dX12_again_36 (by decide) ?_
        have z0 : (0 : Int32).toInt = 0 := rfl
        exact li_iret dX12_again_37 rfl (li_nz (Or.inl rfl)) ⟨Or.inr ⟨rfl, trivial⟩, hf, hJ⟩
  · skip
    refine li_if_eq 36 dX12_again_11 (by decide) (fun c => ?_) (fun c => absurd rfl c)
    refine li_iconst 0 dX12_again_36 (by decide) ?_
    have z0 : (0 : Int32).toInt = 0 := rfl
    exact li_iret dX12_again_37 rfl (li_nz (Or.inl rfl)) ⟨Or.inr ⟨rfl, trivial⟩, hf, hJ⟩
set_option maxRecDepth 100000 in
set_option maxHeartbeats 4000000 in
theorem k_X12_count {l : Launch} {Z : li_Z} (d : Nat) (hd : 4 ≤ d) (p1 : Int32) (M0 : li_M) (hJ : li_J M0) : li_Met l Z YX12_count d [.ref (Z.2.2 175), .int p1] M0 (fun r M' => (∃ x : Int32, r = some (.int x)) ∧ li_fs (fun i k => (i = 175 ∧ k = 10)) M0 M' ∧ li_J M') := by
  refine li_enter (by decide +kernel) (Nat.le_of_ble_eq_true rfl) ?_
  show li_T l Z YX12_count d 0 [(0, .ref (Z.2.2 175)), (1, .int p1)] [] M0 _
  have hf : li_fs (fun i k => (i = 175 ∧ k = 10)) M0 M0 := li_fs_refl
  have gp1 := tl_rg p1
  refine li_aload_n 0 dX12_count_0 rfl ?_
  refine li_iconst 0 dX12_count_1 (by decide) ?_
  refine li_puti (k := 10) (N := 52) (T := TX12) (C0 := RX12) dX12_count_2 (by decide) sh_175 rfl rfl (by decide) li_in12 tyX12_ok nmX12 rfl rfl rfl rfl w_1414 ?_
  refine li_nm (fun M1 eM1 => ?_)
  have hf := li_fs_ui hf (⟨rfl, rfl⟩) eM1
  have z0 : (0 : Int32).toInt = 0 := rfl
  have hJ := hJ.put (k := 10) (by decide) (rg_free rfl) eM1
  refine li_iload_n 1 dX12_count_5 rfl ?_
  refine li_table dX12_count_6 137 (by decide) (fun c2 => ?_) (fun c2a c2b => ?_)
  · refine li_iconst (-1) dX12_count_137 (by decide) ?_
    have zm1 : ((-1) : Int32).toInt = -1 := rfl
    exact li_iret dX12_count_138 rfl rfl ⟨⟨_, rfl⟩, hf, hJ⟩
  · rcases (show (p1 : Int32).toInt = 0 ∨ (p1 : Int32).toInt = 1 ∨ (p1 : Int32).toInt = 2 ∨ (p1 : Int32).toInt = 3 ∨ (p1 : Int32).toInt = 4 ∨ (p1 : Int32).toInt = 5 ∨ (p1 : Int32).toInt = 6 ∨ (p1 : Int32).toInt = 7 ∨ (p1 : Int32).toInt = 8 ∨ (p1 : Int32).toInt = 9 ∨ (p1 : Int32).toInt = 10 ∨ (p1 : Int32).toInt = 11 by omega) with c2 | c2 | c2 | c2 | c2 | c2 | c2 | c2 | c2 | c2 | c2 | c2
    · refine ⟨62, 68, by rw [c2]; rfl, by decide, ?_⟩
      refine li_aload_n 0 dX12_count_68 rfl ?_
      refine li_geti (k := 1) (N := 52) (T := TX12) (C0 := RX12) dX12_count_69 (by decide) sh_175 rfl rfl (by decide) li_in12 w_1405 ?_
      refine li_top (fun x3 ex3 => ?_)
      have gx3 : 0 ≤ x3.toInt ∧ x3.toInt ≤ 6 := by rw [ex3]; exact J_sl1 hJ
      have sx3 : x3.toInt = (M0.1 175 1).toInt := tl_slot (ex3.trans (hf.1 175 1 (show ¬ ((175 = 175 ∧ 1 = 10)) by decide)))
      exact li_iret dX12_count_72 rfl rfl ⟨⟨_, rfl⟩, hf, hJ⟩
    · refine ⟨67, 73, by rw [c2]; rfl, by decide, ?_⟩
      refine li_aload_n 0 dX12_count_73 rfl ?_
      refine li_geti (k := 4) (N := 52) (T := TX12) (C0 := RX12) dX12_count_74 (by decide) sh_175 rfl rfl (by decide) li_in12 w_1408 ?_
      refine li_top (fun x4 ex4 => ?_)
      have gx4 : 0 ≤ x4.toInt ∧ x4.toInt ≤ 8 := by rw [ex4]; exact J_sl4 hJ
      have sx4 : x4.toInt = (M0.1 175 4).toInt := tl_slot (ex4.trans (hf.1 175 4 (show ¬ ((175 = 175 ∧ 4 = 10)) by decide)))
      exact li_iret dX12_count_77 rfl rfl ⟨⟨_, rfl⟩, hf, hJ⟩
    · refine ⟨72, 78, by rw [c2]; rfl, by decide, ?_⟩
      refine li_aload_n 0 dX12_count_78 rfl ?_
      refine li_getr (k := 0) (N := 52) (T := TX12) (C0 := RX12) dX12_count_79 (by decide) sh_175 rfl rfl (by decide) (by decide) li_in12 w_1404 ?_
      refine li_bipush 19 dX12_count_82 (by decide) ?_
      have z19 : (19 : Int32).toInt = 19 := rfl
      refine li_iald dX12_count_84 (by decide) sh_176 (tl_in (by omega)) ?_
      refine li_top (fun x5 ex5 => ?_)
      have gx5 := tl_rg x5
      have lx5 : ((19 : Int32).toInt % 51 = 20 → 0 ≤ x5.toInt ∧ x5.toInt ≤ 6) ∧ (21 ≤ (19 : Int32).toInt % 51 → ((19 : Int32).toInt % 51 - 21) % 5 < 2 → 0 ≤ x5.toInt ∧ x5.toInt ≤ 5) := hJ.ldLed (by unfold li_led; omega) ex5 (by omega)
      exact li_iret dX12_count_85 rfl rfl ⟨⟨_, rfl⟩, hf, hJ⟩
    · refine ⟨80, 86, by rw [c2]; rfl, by decide, ?_⟩
      refine li_aload_n 0 dX12_count_86 rfl ?_
      refine li_getr (k := 0) (N := 52) (T := TX12) (C0 := RX12) dX12_count_87 (by decide) sh_175 rfl rfl (by decide) (by decide) li_in12 w_1404 ?_
      refine li_bipush 20 dX12_count_90 (by decide) ?_
      have z20 : (20 : Int32).toInt = 20 := rfl
      refine li_iald dX12_count_92 (by decide) sh_176 (tl_in (by omega)) ?_
      refine li_top (fun x6 ex6 => ?_)
      have gx6 := tl_rg x6
      have lx6 : ((20 : Int32).toInt % 51 = 20 → 0 ≤ x6.toInt ∧ x6.toInt ≤ 6) ∧ (21 ≤ (20 : Int32).toInt % 51 → ((20 : Int32).toInt % 51 - 21) % 5 < 2 → 0 ≤ x6.toInt ∧ x6.toInt ≤ 5) := hJ.ldLed (by unfold li_led; omega) ex6 (by omega)
      exact li_iret dX12_count_93 rfl rfl ⟨⟨_, rfl⟩, hf, hJ⟩
    · refine ⟨88, 94, by rw [c2]; rfl, by decide, ?_⟩
      refine li_aload_n 0 dX12_count_94 rfl ?_
      refine li_getr (k := 0) (N := 52) (T := TX12) (C0 := RX12) dX12_count_95 (by decide) sh_175 rfl rfl (by decide) (by decide) li_in12 w_1404 ?_
      refine li_bipush 18 dX12_count_98 (by decide) ?_
      have z18 : (18 : Int32).toInt = 18 := rfl
      refine li_iald dX12_count_100 (by decide) sh_176 (tl_in (by omega)) ?_
      refine li_top (fun x7 ex7 => ?_)
      have gx7 := tl_rg x7
      have lx7 : ((18 : Int32).toInt % 51 = 20 → 0 ≤ x7.toInt ∧ x7.toInt ≤ 6) ∧ (21 ≤ (18 : Int32).toInt % 51 → ((18 : Int32).toInt % 51 - 21) % 5 < 2 → 0 ≤ x7.toInt ∧ x7.toInt ≤ 5) := hJ.ldLed (by unfold li_led; omega) ex7 (by omega)
      exact li_iret dX12_count_101 rfl rfl ⟨⟨_, rfl⟩, hf, hJ⟩
    · refine ⟨96, 102, by rw [c2]; rfl, by decide, ?_⟩
      refine li_aload_n 0 dX12_count_102 rfl ?_
      refine li_callV (n := 0) (As := []) dX12_count_103 (k_X12_today (d - 1) (by omega)  M1 hJ ) (by omega) (Nat.le_of_ble_eq_true rfl) w_1819 w_1821 w_83 w_112 w_1822 (by decide +kernel) rfl (by decide) sh_175 rfl rfl (Nat.le_of_ble_eq_true rfl) (fun r M9 h10 => ?_)
      obtain ⟨⟨x8, rfl, qx8⟩, h10, jM9⟩ := h10
      have gx8 := tl_rg x8
      have hf := li_fs_trans hf h10 (fun i k h => False.elim h)
      have hJ := jM9
      exact li_iret dX12_count_106 rfl rfl ⟨⟨_, rfl⟩, hf, hJ⟩
    · refine ⟨101, 107, by rw [c2]; rfl, by decide, ?_⟩
      refine li_aload_n 0 dX12_count_107 rfl ?_
      refine li_callV (n := 0) (As := []) dX12_count_108 (k_X12_allClocks (d - 1) (by omega)  M1 hJ ) (by omega) (Nat.le_of_ble_eq_true rfl) w_1843 w_1845 w_87 w_112 w_1846 (by decide +kernel) rfl (by decide) sh_175 rfl rfl (Nat.le_of_ble_eq_true rfl) (fun r M12 h13 => ?_)
      obtain ⟨⟨x11, rfl⟩, h13, jM12⟩ := h13
      have gx11 := tl_rg x11
      have hf := li_fs_trans hf h13 (fun i k h => False.elim h)
      have hJ := jM12
      exact li_iret dX12_count_111 rfl rfl ⟨⟨_, rfl⟩, hf, hJ⟩
    · refine ⟨106, 112, by rw [c2]; rfl, by decide, ?_⟩
      refine li_aload_n 0 dX12_count_112 rfl ?_
      refine li_geti (k := 38) (N := 52) (T := TX12) (C0 := RX12) dX12_count_113 (by decide) sh_175 rfl rfl (by decide) li_in12 w_1442 ?_
      refine li_top (fun x14 ex14 => ?_)
      have gx14 : 0 ≤ x14.toInt ∧ x14.toInt ≤ 10 := by rw [ex14]; exact J_sl38 hJ
      have sx14 : x14.toInt = (M0.1 175 38).toInt := tl_slot (ex14.trans (hf.1 175 38 (show ¬ ((175 = 175 ∧ 38 = 10)) by decide)))
      exact li_iret dX12_count_116 rfl rfl ⟨⟨_, rfl⟩, hf, hJ⟩
    · refine ⟨111, 117, by rw [c2]; rfl, by decide, ?_⟩
      refine li_aload_n 0 dX12_count_117 rfl ?_
      refine li_geti (k := 43) (N := 52) (T := TX12) (C0 := RX12) dX12_count_118 (by decide) sh_175 rfl rfl (by decide) li_in12 w_1447 ?_
      refine li_top (fun x15 ex15 => ?_)
      have gx15 := tl_rg x15
      have sx15 : x15.toInt = (M0.1 175 43).toInt := tl_slot (ex15.trans (hf.1 175 43 (show ¬ ((175 = 175 ∧ 43 = 10)) by decide)))
      exact li_iret dX12_count_121 rfl rfl ⟨⟨_, rfl⟩, hf, hJ⟩
    · refine ⟨116, 122, by rw [c2]; rfl, by decide, ?_⟩
      refine li_aload_n 0 dX12_count_122 rfl ?_
      refine li_geti (k := 23) (N := 52) (T := TX12) (C0 := RX12) dX12_count_123 (by decide) sh_175 rfl rfl (by decide) li_in12 w_1427 ?_
      refine li_top (fun x16 ex16 => ?_)
      have gx16 : 0 ≤ x16.toInt ∧ x16.toInt ≤ 12 := by rw [ex16]; exact J_sl23 hJ
      have sx16 : x16.toInt = (M0.1 175 23).toInt := tl_slot (ex16.trans (hf.1 175 23 (show ¬ ((175 = 175 ∧ 23 = 10)) by decide)))
      exact li_iret dX12_count_126 rfl rfl ⟨⟨_, rfl⟩, hf, hJ⟩
    · refine ⟨121, 127, by rw [c2]; rfl, by decide, ?_⟩
      refine li_aload_n 0 dX12_count_127 rfl ?_
      refine li_geti (k := 9) (N := 52) (T := TX12) (C0 := RX12) dX12_count_128 (by decide) sh_175 rfl rfl (by decide) li_in12 w_1413 ?_
      refine li_top (fun x17 ex17 => ?_)
      have gx17 : 0 ≤ x17.toInt ∧ x17.toInt ≤ 20 := by rw [ex17]; exact J_sl9 hJ
      have sx17 : x17.toInt = (M0.1 175 9).toInt := tl_slot (ex17.trans (hf.1 175 9 (show ¬ ((175 = 175 ∧ 9 = 10)) by decide)))
      exact li_iret dX12_count_131 rfl rfl ⟨⟨_, rfl⟩, hf, hJ⟩
    · refine ⟨126, 132, by rw [c2]; rfl, by decide, ?_⟩
      refine li_aload_n 0 dX12_count_132 rfl ?_
      refine li_geti (k := 7) (N := 52) (T := TX12) (C0 := RX12) dX12_count_133 (by decide) sh_175 rfl rfl (by decide) li_in12 w_1411 ?_
      refine li_top (fun x18 ex18 => ?_)
      have gx18 : 0 ≤ x18.toInt ∧ x18.toInt ≤ 80 := by rw [ex18]; exact J_sl7 hJ
      have sx18 : x18.toInt = (M0.1 175 7).toInt := tl_slot (ex18.trans (hf.1 175 7 (show ¬ ((175 = 175 ∧ 7 = 10)) by decide)))
      exact li_iret dX12_count_136 rfl rfl ⟨⟨_, rfl⟩, hf, hJ⟩
set_option maxRecDepth 100000 in
set_option maxHeartbeats 4000000 in
theorem k_X12_row {l : Launch} {Z : li_Z} (d : Nat) (hd : 2 ≤ d) (p1 : Int32) (M0 : li_M) (hJ : li_J M0) : li_Met l Z YX12_row d [.ref (Z.2.2 175), .int p1] M0 (fun r M' => (∃ x : Int32, r = some (.int x)) ∧ li_fs (fun i k => (i = 175 ∧ k = 10)) M0 M' ∧ li_J M') := by
  refine li_enter (by decide +kernel) (Nat.le_of_ble_eq_true rfl) ?_
  show li_T l Z YX12_row d 0 [(0, .ref (Z.2.2 175)), (1, .int p1)] [] M0 _
  have hf : li_fs (fun i k => (i = 175 ∧ k = 10)) M0 M0 := li_fs_refl
  have gp1 := tl_rg p1
  have rM0_9 := J_sl9 (M := M0) hJ
  refine li_aload_n 0 dX12_row_0 rfl ?_
  refine li_iconst 0 dX12_row_1 (by decide) ?_
  refine li_puti (k := 10) (N := 52) (T := TX12) (C0 := RX12) dX12_row_2 (by decide) sh_175 rfl rfl (by decide) li_in12 tyX12_ok nmX12 rfl rfl rfl rfl w_1414 ?_
  refine li_nm (fun M1 eM1 => ?_)
  have hf := li_fs_ui hf (⟨rfl, rfl⟩) eM1
  have z0 : (0 : Int32).toInt = 0 := rfl
  have hJ := hJ.put (k := 10) (by decide) (rg_free rfl) eM1
  have rM1_9 := J_sl9 (M := M1) hJ
  have mM1_9 : (M1.1 175 9).toInt = (M0.1 175 9).toInt := by rw [eM1, li_ui_at, if_pos rfl, if_neg (by decide)]
  refine li_iload_n 1 dX12_row_5 rfl ?_
  refine li_iconst 0 dX12_row_6 (by decide) ?_
  refine li_aload_n 0 dX12_row_7 rfl ?_
  refine li_geti (k := 9) (N := 52) (T := TX12) (C0 := RX12) dX12_row_8 (by decide) sh_175 rfl rfl (by decide) li_in12 w_1413 ?_
  refine li_top (fun x2 ex2 => ?_)
  have gx2 : 0 ≤ x2.toInt ∧ x2.toInt ≤ 20 := by rw [ex2]; exact J_sl9 hJ
  have mx2 : x2.toInt = (M1.1 175 9).toInt := tl_slot ex2
  have sx2 : x2.toInt = (M0.1 175 9).toInt := tl_slot (ex2.trans (hf.1 175 9 (show ¬ ((175 = 175 ∧ 9 = 10)) by decide)))
  refine li_iconst 1 dX12_row_11 (by decide) ?_
  refine li_isub dX12_row_12 ?_
  refine li_top (fun x3 ex3 => ?_)
  have z1 : (1 : Int32).toInt = 1 := rfl
  try (have tx3 : x3.toInt = (x2 : Int32).toInt - (1 : Int32).toInt := tl_sub ex3 (by omega))
  have z0 : (0 : Int32).toInt = 0 := rfl
  refine li_callS (n := 3) (As := [.int p1, .int 0, .int x3]) dX12_row_13 (k_X12_in (d - 1) (by omega) p1 0 x3 M1 hJ ) (by omega) (Nat.le_of_ble_eq_true rfl) w_1570 w_1571 w_112 w_1572 (by decide +kernel) rfl rfl (Nat.le_of_ble_eq_true rfl) (fun r M5 h6 => ?_)
  obtain ⟨qx4, h6, jM5⟩ := h6
  have hf := li_fs_trans hf h6 (fun i k h => False.elim h)
  have hJ := jM5
  have rM5_9 := J_sl9 (M := M5) hJ
  have mM5_9 : (M5.1 175 9).toInt = (M1.1 175 9).toInt := tl_slot (h6.1 175 9 id)
  rcases qx4 with ⟨rfl, qx4⟩ | ⟨rfl, qx4⟩
  · skip
    refine li_if_eq 28 dX12_row_16 (by decide) (fun c => absurd c (by decide)) (fun c => ?_)
    refine li_aload_n 0 dX12_row_19 rfl ?_
    refine li_getr (k := 8) (N := 52) (T := TX12) (C0 := RX12) dX12_row_20 (by decide) sh_175 rfl rfl (by decide) (by decide) li_in12 w_1412 ?_
    refine li_iload_n 1 dX12_row_23 rfl ?_
    refine li_iald dX12_row_24 (by decide) sh_181 (tl_in (by omega)) ?_
    refine li_top (fun x8 ex8 => ?_)
    have gx8 := tl_rg x8
    refine li_goto 32 dX12_row_25 (by decide) ?_
    exact li_iret dX12_row_32 rfl rfl ⟨⟨_, rfl⟩, hf, hJ⟩
  · skip
    refine li_if_eq 28 dX12_row_16 (by decide) (fun c => ?_) (fun c => absurd rfl c)
    refine li_aload_n 0 dX12_row_28 rfl ?_
    refine li_callV (n := 0) (As := []) dX12_row_29 (k_X12_lost (d - 1) (by omega)  M5 hJ ) (by omega) (Nat.le_of_ble_eq_true rfl) w_1652 w_1654 w_57 w_112 w_1655 (by decide +kernel) rfl (by decide) sh_175 rfl rfl (Nat.le_of_ble_eq_true rfl) (fun r M11 h12 => ?_)
    obtain ⟨⟨x10, rfl⟩, h12, jM11⟩ := h12
    have gx10 := tl_rg x10
    have hf := li_fs_trans hf h12 (fun i k => fun h => h)
    have hJ := jM11
    have rM11_9 := J_sl9 (M := M11) hJ
    have mM11_9 : (M11.1 175 9).toInt = (M5.1 175 9).toInt := tl_slot (h12.1 175 9 (show ¬ ((175 = 175 ∧ 9 = 10)) by decide))
    exact li_iret dX12_row_32 rfl rfl ⟨⟨_, rfl⟩, hf, hJ⟩
set_option maxRecDepth 100000 in
set_option maxHeartbeats 4000000 in
theorem k_X12_undo {l : Launch} {Z : li_Z} (d : Nat) (hd : 1 ≤ d) (M0 : li_M) (hJ : li_J M0) : li_Met l Z YX12_undo d [.ref (Z.2.2 175)] M0 (fun r M' => (∃ x : Int32, r = some (.int x)) ∧ li_fs (fun i k => i = 176 ∨ (i = 175 ∧ k = 10) ∨ (i = 175 ∧ k = 23)) M0 M' ∧ li_J M') := by
  refine li_enter (by decide +kernel) (Nat.le_of_ble_eq_true rfl) ?_
  show li_T l Z YX12_undo d 0 [(0, .ref (Z.2.2 175))] [] M0 _
  have hf : li_fs (fun i k => i = 176 ∨ (i = 175 ∧ k = 10) ∨ (i = 175 ∧ k = 23)) M0 M0 := li_fs_refl
  have rM0_23 := J_sl23 (M := M0) hJ
  refine li_aload_n 0 dX12_undo_0 rfl ?_
  refine li_iconst 0 dX12_undo_1 (by decide) ?_
  refine li_puti (k := 10) (N := 52) (T := TX12) (C0 := RX12) dX12_undo_2 (by decide) sh_175 rfl rfl (by decide) li_in12 tyX12_ok nmX12 rfl rfl rfl rfl w_1414 ?_
  refine li_nm (fun M1 eM1 => ?_)
  have hf := li_fs_ui hf (Or.inr (Or.inl ⟨rfl, rfl⟩)) eM1
  have z0 : (0 : Int32).toInt = 0 := rfl
  have hJ := hJ.put (k := 10) (by decide) (rg_free rfl) eM1
  have rM1_23 := J_sl23 (M := M1) hJ
  have mM1_23 : (M1.1 175 23).toInt = (M0.1 175 23).toInt := by rw [eM1, li_ui_at, if_pos rfl, if_neg (by decide)]
  refine li_aload_n 0 dX12_undo_5 rfl ?_
  refine li_geti (k := 23) (N := 52) (T := TX12) (C0 := RX12) dX12_undo_6 (by decide) sh_175 rfl rfl (by decide) li_in12 w_1427 ?_
  refine li_top (fun x2 ex2 => ?_)
  have gx2 : 0 ≤ x2.toInt ∧ x2.toInt ≤ 12 := by rw [ex2]; exact J_sl23 hJ
  have mx2 : x2.toInt = (M1.1 175 23).toInt := tl_slot ex2
  refine li_if_ne 14 dX12_undo_9 (by decide) (fun c3 => ?_) (fun c3 => ?_)
  · have tc3 : ¬ x2.toInt = 0 := tl_ne c3
    refine li_aload_n 0 dX12_undo_14 rfl ?_
    refine li_dup dX12_undo_15 rfl ?_
    refine li_geti (k := 23) (N := 52) (T := TX12) (C0 := RX12) dX12_undo_16 (by decide) sh_175 rfl rfl (by decide) li_in12 w_1427 ?_
    refine li_top (fun x4 ex4 => ?_)
    have gx4 : 0 ≤ x4.toInt ∧ x4.toInt ≤ 12 := by rw [ex4]; exact J_sl23 hJ
    have mx4 : x4.toInt = (M1.1 175 23).toInt := tl_slot ex4
    refine li_iconst 1 dX12_undo_19 (by decide) ?_
    refine li_isub dX12_undo_20 ?_
    refine li_top (fun x5 ex5 => ?_)
    have z1 : (1 : Int32).toInt = 1 := rfl
    try (have tx5 : x5.toInt = (x4 : Int32).toInt - (1 : Int32).toInt := tl_sub ex5 (by omega))
    refine li_puti (k := 23) (N := 52) (T := TX12) (C0 := RX12) dX12_undo_21 (by decide) sh_175 rfl rfl (by decide) li_in12 tyX12_ok nmX12 rfl rfl rfl rfl w_1427 ?_
    refine li_nm (fun M6 eM6 => ?_)
    have hf := li_fs_ui hf (Or.inr (Or.inr (⟨rfl, rfl⟩))) eM6
    have hJ := J_pt23 hJ (show 0 ≤ (x5 : Int32).toInt ∧ (x5 : Int32).toInt ≤ 12 by omega) eM6
    have rM6_23 := J_sl23 (M := M6) hJ
    have mM6_23 : (M6.1 175 23).toInt = x5.toInt := by rw [eM6, li_ui_at, if_pos rfl, if_pos rfl]
    refine li_iconst 0 dX12_undo_24 (by decide) ?_
    refine li_istore_n [(1, .int 0), (0, .ref (Z.2.2 175))] dX12_undo_25 (by decide) rfl ?_
    have L26 : ∀ (n : Nat) (x7 : Int32) (M8 : li_M), (51 - (x7 : Int32).toInt).toNat < n → li_fs (fun i k => i = 176 ∨ (i = 175 ∧ k = 10) ∨ (i = 175 ∧ k = 23)) M0 M8 → li_J M8 → 0 ≤ (x7 : Int32).toInt ∧ (M8.1 175 23).toInt ≤ 11 → li_T l Z YX12_undo d 26 [(1, .int x7), (0, .ref (Z.2.2 175))] [] M8 (fun r M' => (∃ x : Int32, r = some (.int x)) ∧ li_fs (fun i k => i = 176 ∨ (i = 175 ∧ k = 10) ∨ (i = 175 ∧ k = 23)) M0 M' ∧ li_J M') := by
      intro n
      induction n with
      | zero => intro x7 M8 hn; exact absurd hn (Nat.not_lt_zero _)
      | succ n ih26 =>
        intro x7 M8 hn hf hJ hi
        have gx7 := tl_rg x7
        have rM8_23 := J_sl23 (M := M8) hJ
        refine li_iload_n 0 dX12_undo_26 rfl ?_
        refine li_bipush 51 dX12_undo_27 (by decide) ?_
        refine li_icmp_ge 58 dX12_undo_29 (by decide) (fun c9 => ?_) (fun c9 => ?_)
        · have tc9 : 51 ≤ x7.toInt := tl_le c9
          refine li_aload_n 1 dX12_undo_58 rfl ?_
          refine li_geti (k := 23) (N := 52) (T := TX12) (C0 := RX12) dX12_undo_59 (by decide) sh_175 rfl rfl (by decide) li_in12 w_1427 ?_
          refine li_top (fun x10 ex10 => ?_)
          have gx10 : 0 ≤ x10.toInt ∧ x10.toInt ≤ 12 := by rw [ex10]; exact J_sl23 hJ
          have mx10 : x10.toInt = (M8.1 175 23).toInt := tl_slot ex10
          exact li_iret dX12_undo_62 rfl rfl ⟨⟨_, rfl⟩, hf, hJ⟩
        · have tc9 : x7.toInt < 51 := tl_nle c9
          refine li_aload_n 1 dX12_undo_32 rfl ?_
          refine li_getr (k := 0) (N := 52) (T := TX12) (C0 := RX12) dX12_undo_33 (by decide) sh_175 rfl rfl (by decide) (by decide) li_in12 w_1404 ?_
          refine li_iload_n 0 dX12_undo_36 rfl ?_
          refine li_aload_n 1 dX12_undo_37 rfl ?_
          refine li_getr (k := 22) (N := 52) (T := TX12) (C0 := RX12) dX12_undo_38 (by decide) sh_175 rfl rfl (by decide) (by decide) li_in12 w_1426 ?_
          refine li_bipush 51 dX12_undo_41 (by decide) ?_
          refine li_aload_n 1 dX12_undo_43 rfl ?_
          refine li_geti (k := 23) (N := 52) (T := TX12) (C0 := RX12) dX12_undo_44 (by decide) sh_175 rfl rfl (by decide) li_in12 w_1427 ?_
          refine li_top (fun x11 ex11 => ?_)
          have gx11 : 0 ≤ x11.toInt ∧ x11.toInt ≤ 12 := by rw [ex11]; exact J_sl23 hJ
          have mx11 : x11.toInt = (M8.1 175 23).toInt := tl_slot ex11
          refine li_imul dX12_undo_47 ?_
          refine li_top (fun x12 ex12 => ?_)
          have z51 : (51 : Int32).toInt = 51 := rfl
          try (have tx12 : x12.toInt = 51 * (x11 : Int32).toInt := tl_mul ex12 (show -2147483648 ≤ 51 * (x11 : Int32).toInt ∧ 51 * (x11 : Int32).toInt ≤ 2147483647 by omega))
          refine li_iload_n 0 dX12_undo_48 rfl ?_
          refine li_iadd dX12_undo_49 ?_
          refine li_top (fun x13 ex13 => ?_)
          try (have tx13 : x13.toInt = (x12 : Int32).toInt + (x7 : Int32).toInt := tl_add ex13 (by omega))
          refine li_iald dX12_undo_50 (by decide) sh_186 (tl_in (by omega)) ?_
          refine li_top (fun x14 ex14 => ?_)
          have gx14 := tl_rg x14
          try (have ox14 : (x13 : Int32).toInt % 51 = (x13 : Int32).toInt := by omega)
          have lx14 : ((x13 : Int32).toInt % 51 = 20 → 0 ≤ x14.toInt ∧ x14.toInt ≤ 6) ∧ (21 ≤ (x13 : Int32).toInt % 51 → ((x13 : Int32).toInt % 51 - 21) % 5 < 2 → 0 ≤ x14.toInt ∧ x14.toInt ≤ 5) := hJ.ldLed (by unfold li_led; omega) ex14 (by omega)
          refine li_iast dX12_undo_51 (by decide) sh_176 (tl_in (by omega)) ?_
          refine li_nm (fun M15 eM15 => ?_)
          have hf := li_fs_ui hf (Or.inl rfl) eM15
          try (have oM15 : (x7 : Int32).toInt % 51 = (x7 : Int32).toInt := by omega)
          have hJ := hJ.st (by decide) (li_el_led (by unfold li_led; omega) (by omega) (show ((x7 : Int32).toInt % 51 = 20 → 0 ≤ (x14 : Int32).toInt ∧ (x14 : Int32).toInt ≤ 6) ∧ (21 ≤ (x7 : Int32).toInt % 51 → ((x7 : Int32).toInt % 51 - 21) % 5 < 2 → 0 ≤ (x14 : Int32).toInt ∧ (x14 : Int32).toInt ≤ 5) by omega)) eM15
          have rM15_23 := J_sl23 (M := M15) hJ
          have mM15_23 : (M15.1 175 23).toInt = (M8.1 175 23).toInt := by rw [eM15, li_ui_at, if_neg (by decide)]
          obtain ⟨x16, ex16⟩ : ∃ y : Int32, y = x7 + 1 := ⟨_, rfl⟩
          have z1 : (1 : Int32).toInt = 1 := rfl
          try (have tx16 : x16.toInt = (x7 : Int32).toInt + (1 : Int32).toInt := tl_add ex16 (by omega))
          refine li_iinc 0 [(1, .int x16), (0, .ref (Z.2.2 175))] x16 dX12_undo_52 rfl (by rw [ex16]; rfl) (by decide) rfl ?_
          refine li_goto 26 dX12_undo_55 (by decide) ?_
          refine li_pick [0, 1] [(1, .int x16), (0, .ref (Z.2.2 175))] rfl ?_
          exact ih26 x16 M15 (by omega) hf hJ (by omega)
    have z0 : (0 : Int32).toInt = 0 := rfl
    exact L26 _ 0 M6 (Nat.lt_succ_self _) hf hJ (by omega)
  · have tc3 : x2.toInt = 0 := tl_eq c3
    refine li_iconst (-1) dX12_undo_12 (by decide) ?_
    have zm1 : ((-1) : Int32).toInt = -1 := rfl
    exact li_iret dX12_undo_13 rfl rfl ⟨⟨_, rfl⟩, hf, hJ⟩
