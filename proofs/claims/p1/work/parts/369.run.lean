theorem w_1451 : (Jvm.Cond.fieldLink "ClockForTalkModel" (91 : Nat) "ClockForTalkModel" "then" "[I") ∈ li_ws := li_mem 1451 (by decide +kernel) (by decide +kernel)
theorem w_1453 : (Jvm.Cond.fieldLink "ClockForTalkModel" (94 : Nat) "ClockForTalkModel" "kept" "[I") ∈ li_ws := li_mem 1453 (by decide +kernel) (by decide +kernel)
theorem w_1454 : (Jvm.Cond.fieldLink "ClockForTalkModel" (97 : Nat) "ClockForTalkModel" "isKept" "[Z") ∈ li_ws := li_mem 1454 (by decide +kernel) (by decide +kernel)
theorem w_1455 : (Jvm.Cond.fieldLink "ClockForTalkModel" (100 : Nat) "ClockForTalkModel" "keptCame" "[I") ∈ li_ws := li_mem 1455 (by decide +kernel) (by decide +kernel)
theorem w_1971 : (Jvm.Cond.constant "ClockForTalkModel" (414 : Nat) (1103515245 : Int32)) ∈ li_ws := li_mem 1971 (by decide +kernel) (by decide +kernel)
theorem dX12_run_0 : decode cX12_run 0 = .ok (.aload_n 0, 1) := by decide +kernel
theorem dX12_run_1 : decode cX12_run 1 = .ok (.iconst 0, 1) := by decide +kernel
theorem dX12_run_2 : decode cX12_run 2 = .ok (.putfield 103, 3) := by decide +kernel
theorem dX12_run_5 : decode cX12_run 5 = .ok (.aload_n 0, 1) := by decide +kernel
theorem dX12_run_6 : decode cX12_run 6 = .ok (.iload_n 1, 1) := by decide +kernel
theorem dX12_run_7 : decode cX12_run 7 = .ok (.invokevirtual 117, 3) := by decide +kernel
theorem dX12_run_10 : decode cX12_run 10 = .ok (.ifCond .ne 5, 3) := by decide +kernel
theorem dX12_run_13 : decode cX12_run 13 = .ok (.iconst (-1), 1) := by decide +kernel
theorem dX12_run_14 : decode cX12_run 14 = .ok (.ireturn, 1) := by decide +kernel
abbrev YX12_run : li_Y := (yX12_run, cX12_run, 5, (some .int))
theorem dX12_years_0 : decode cX12_years 0 = .ok (.aload_n 0, 1) := by decide +kernel
theorem dX12_years_1 : decode cX12_years 1 = .ok (.iconst 0, 1) := by decide +kernel
theorem dX12_years_2 : decode cX12_years 2 = .ok (.putfield 103, 3) := by decide +kernel
theorem dX12_years_5 : decode cX12_years 5 = .ok (.iload_n 2, 1) := by decide +kernel
theorem dX12_years_6 : decode cX12_years 6 = .ok (.iconst 1, 1) := by decide +kernel
theorem dX12_years_7 : decode cX12_years 7 = .ok (.bipush 60, 2) := by decide +kernel
theorem dX12_years_9 : decode cX12_years 9 = .ok (.invokestatic 113, 3) := by decide +kernel
theorem dX12_years_12 : decode cX12_years 12 = .ok (.ifCond .ne 5, 3) := by decide +kernel
theorem dX12_years_15 : decode cX12_years 15 = .ok (.iconst (-1), 1) := by decide +kernel
theorem dX12_years_16 : decode cX12_years 16 = .ok (.ireturn, 1) := by decide +kernel
theorem dX12_years_17 : decode cX12_years 17 = .ok (.iload_n 1, 1) := by decide +kernel
theorem dX12_years_18 : decode cX12_years 18 = .ok (.istore_n 3, 1) := by decide +kernel
theorem dX12_years_19 : decode cX12_years 19 = .ok (.iconst 0, 1) := by decide +kernel
theorem dX12_years_20 : decode cX12_years 20 = .ok (.istore 4, 2) := by decide +kernel
theorem dX12_years_22 : decode cX12_years 22 = .ok (.iconst 0, 1) := by decide +kernel
theorem dX12_years_23 : decode cX12_years 23 = .ok (.istore 5, 2) := by decide +kernel
theorem dX12_years_25 : decode cX12_years 25 = .ok (.iconst 0, 1) := by decide +kernel
theorem dX12_years_26 : decode cX12_years 26 = .ok (.istore 6, 2) := by decide +kernel
theorem dX12_years_28 : decode cX12_years 28 = .ok (.aload_n 0, 1) := by decide +kernel
theorem dX12_years_29 : decode cX12_years 29 = .ok (.getfield 9, 3) := by decide +kernel
theorem dX12_years_32 : decode cX12_years 32 = .ok (.aload_n 0, 1) := by decide +kernel
theorem dX12_years_33 : decode cX12_years 33 = .ok (.getfield 91, 3) := by decide +kernel
theorem dX12_years_36 : decode cX12_years 36 = .ok (.iconst 0, 1) := by decide +kernel
theorem dX12_years_37 : decode cX12_years 37 = .ok (.invokestatic 268, 3) := by decide +kernel
theorem dX12_years_40 : decode cX12_years 40 = .ok (.iconst 0, 1) := by decide +kernel
theorem dX12_years_41 : decode cX12_years 41 = .ok (.istore 7, 2) := by decide +kernel
theorem dX12_years_43 : decode cX12_years 43 = .ok (.iload 7, 2) := by decide +kernel
theorem dX12_years_45 : decode cX12_years 45 = .ok (.iload_n 2, 1) := by decide +kernel
theorem dX12_years_46 : decode cX12_years 46 = .ok (.if_icmp .ge 108, 3) := by decide +kernel
theorem dX12_years_49 : decode cX12_years 49 = .ok (.iload_n 3, 1) := by decide +kernel
theorem dX12_years_50 : decode cX12_years 50 = .ok (.ldc_w 414, 3) := by decide +kernel
theorem dX12_years_53 : decode cX12_years 53 = .ok (.imul, 1) := by decide +kernel
theorem dX12_years_54 : decode cX12_years 54 = .ok (.sipush 12345, 3) := by decide +kernel
theorem dX12_years_57 : decode cX12_years 57 = .ok (.iadd, 1) := by decide +kernel
theorem dX12_years_58 : decode cX12_years 58 = .ok (.istore_n 3, 1) := by decide +kernel
theorem dX12_years_59 : decode cX12_years 59 = .ok (.iload_n 3, 1) := by decide +kernel
theorem dX12_years_60 : decode cX12_years 60 = .ok (.bipush 16, 2) := by decide +kernel
theorem dX12_years_62 : decode cX12_years 62 = .ok (.iushr, 1) := by decide +kernel
theorem dX12_years_63 : decode cX12_years 63 = .ok (.bipush 10, 2) := by decide +kernel
theorem dX12_years_65 : decode cX12_years 65 = .ok (.irem, 1) := by decide +kernel
theorem dX12_years_66 : decode cX12_years 66 = .ok (.istore 8, 2) := by decide +kernel
theorem dX12_years_68 : decode cX12_years 68 = .ok (.aload_n 0, 1) := by decide +kernel
theorem dX12_years_69 : decode cX12_years 69 = .ok (.iload 8, 2) := by decide +kernel
theorem dX12_years_71 : decode cX12_years 71 = .ok (.invokevirtual 265, 3) := by decide +kernel
theorem dX12_years_74 : decode cX12_years 74 = .ok (.ifCond .eq 66, 3) := by decide +kernel
theorem dX12_years_140 : decode cX12_years 140 = .ok (.aload_n 0, 1) := by decide +kernel
theorem dX12_years_141 : decode cX12_years 141 = .ok (.aload_n 0, 1) := by decide +kernel
theorem dX12_years_142 : decode cX12_years 142 = .ok (.getfield 91, 3) := by decide +kernel
theorem dX12_years_145 : decode cX12_years 145 = .ok (.invokevirtual 301, 3) := by decide +kernel
theorem dX12_years_148 : decode cX12_years 148 = .ok (.iinc 7 1, 3) := by decide +kernel
theorem dX12_years_151 : decode cX12_years 151 = .ok (.goto (-108), 3) := by decide +kernel
theorem dX12_years_154 : decode cX12_years 154 = .ok (.aload_n 0, 1) := by decide +kernel
theorem dX12_years_155 : decode cX12_years 155 = .ok (.iconst 0, 1) := by decide +kernel
theorem dX12_years_156 : decode cX12_years 156 = .ok (.putfield 107, 3) := by decide +kernel
theorem dX12_years_159 : decode cX12_years 159 = .ok (.aload_n 0, 1) := by decide +kernel
theorem dX12_years_160 : decode cX12_years 160 = .ok (.iload 5, 2) := by decide +kernel
theorem dX12_years_162 : decode cX12_years 162 = .ok (.invokevirtual 308, 3) := by decide +kernel
theorem dX12_years_165 : decode cX12_years 165 = .ok (.aload_n 0, 1) := by decide +kernel
theorem dX12_years_166 : decode cX12_years 166 = .ok (.iload 6, 2) := by decide +kernel
theorem dX12_years_168 : decode cX12_years 168 = .ok (.invokevirtual 308, 3) := by decide +kernel
theorem dX12_years_171 : decode cX12_years 171 = .ok (.iload 4, 2) := by decide +kernel
theorem dX12_years_173 : decode cX12_years 173 = .ok (.ireturn, 1) := by decide +kernel
abbrev YX12_years : li_Y := (yX12_years, cX12_years, 9, (some .int))
theorem dX12_keep_0 : decode cX12_keep 0 = .ok (.aload_n 0, 1) := by decide +kernel
theorem dX12_keep_1 : decode cX12_keep 1 = .ok (.iconst 0, 1) := by decide +kernel
theorem dX12_keep_2 : decode cX12_keep 2 = .ok (.putfield 103, 3) := by decide +kernel
theorem dX12_keep_5 : decode cX12_keep 5 = .ok (.iload_n 1, 1) := by decide +kernel
theorem dX12_keep_6 : decode cX12_keep 6 = .ok (.iconst 0, 1) := by decide +kernel
theorem dX12_keep_7 : decode cX12_keep 7 = .ok (.iconst 1, 1) := by decide +kernel
theorem dX12_keep_8 : decode cX12_keep 8 = .ok (.invokestatic 113, 3) := by decide +kernel
theorem dX12_keep_11 : decode cX12_keep 11 = .ok (.ifCond .ne 5, 3) := by decide +kernel
theorem dX12_keep_14 : decode cX12_keep 14 = .ok (.iconst 0, 1) := by decide +kernel
theorem dX12_keep_15 : decode cX12_keep 15 = .ok (.ireturn, 1) := by decide +kernel
theorem dX12_keep_16 : decode cX12_keep 16 = .ok (.aload_n 0, 1) := by decide +kernel
theorem dX12_keep_17 : decode cX12_keep 17 = .ok (.getfield 97, 3) := by decide +kernel
theorem dX12_keep_20 : decode cX12_keep 20 = .ok (.iload_n 1, 1) := by decide +kernel
theorem dX12_keep_21 : decode cX12_keep 21 = .ok (.iconst 1, 1) := by decide +kernel
theorem dX12_keep_22 : decode cX12_keep 22 = .ok (.bastore, 1) := by decide +kernel
theorem dX12_keep_23 : decode cX12_keep 23 = .ok (.aload_n 0, 1) := by decide +kernel
theorem dX12_keep_24 : decode cX12_keep 24 = .ok (.getfield 100, 3) := by decide +kernel
theorem dX12_keep_27 : decode cX12_keep 27 = .ok (.iload_n 1, 1) := by decide +kernel
theorem dX12_keep_28 : decode cX12_keep 28 = .ok (.aload_n 0, 1) := by decide +kernel
theorem dX12_keep_29 : decode cX12_keep 29 = .ok (.getfield 177, 3) := by decide +kernel
theorem dX12_keep_32 : decode cX12_keep 32 = .ok (.iastore, 1) := by decide +kernel
theorem dX12_keep_33 : decode cX12_keep 33 = .ok (.aload_n 0, 1) := by decide +kernel
theorem dX12_keep_34 : decode cX12_keep 34 = .ok (.getfield 9, 3) := by decide +kernel
theorem dX12_keep_37 : decode cX12_keep 37 = .ok (.aload_n 0, 1) := by decide +kernel
theorem dX12_keep_38 : decode cX12_keep 38 = .ok (.getfield 94, 3) := by decide +kernel
theorem dX12_keep_41 : decode cX12_keep 41 = .ok (.bipush 51, 2) := by decide +kernel
theorem dX12_keep_43 : decode cX12_keep 43 = .ok (.iload_n 1, 1) := by decide +kernel
theorem dX12_keep_44 : decode cX12_keep 44 = .ok (.imul, 1) := by decide +kernel
theorem dX12_keep_45 : decode cX12_keep 45 = .ok (.invokestatic 268, 3) := by decide +kernel
theorem dX12_keep_48 : decode cX12_keep 48 = .ok (.iconst 1, 1) := by decide +kernel
theorem dX12_keep_49 : decode cX12_keep 49 = .ok (.ireturn, 1) := by decide +kernel
abbrev YX12_keep : li_Y := (yX12_keep, cX12_keep, 2, (some .boolean))
theorem dX12_again_0 : decode cX12_again 0 = .ok (.aload_n 0, 1) := by decide +kernel
theorem dX12_again_1 : decode cX12_again 1 = .ok (.iconst 0, 1) := by decide +kernel
theorem dX12_again_2 : decode cX12_again 2 = .ok (.putfield 103, 3) := by decide +kernel
theorem dX12_again_5 : decode cX12_again 5 = .ok (.iload_n 1, 1) := by decide +kernel
theorem dX12_again_6 : decode cX12_again 6 = .ok (.iconst 0, 1) := by decide +kernel
theorem dX12_again_7 : decode cX12_again 7 = .ok (.iconst 1, 1) := by decide +kernel
theorem dX12_again_8 : decode cX12_again 8 = .ok (.invokestatic 113, 3) := by decide +kernel
theorem dX12_again_11 : decode cX12_again 11 = .ok (.ifCond .eq 25, 3) := by decide +kernel
theorem dX12_again_14 : decode cX12_again 14 = .ok (.aload_n 0, 1) := by decide +kernel
theorem dX12_again_15 : decode cX12_again 15 = .ok (.getfield 97, 3) := by decide +kernel
theorem dX12_again_18 : decode cX12_again 18 = .ok (.iload_n 1, 1) := by decide +kernel
theorem dX12_again_19 : decode cX12_again 19 = .ok (.baload, 1) := by decide +kernel
theorem dX12_again_20 : decode cX12_again 20 = .ok (.ifCond .eq 16, 3) := by decide +kernel
theorem dX12_again_36 : decode cX12_again 36 = .ok (.iconst 0, 1) := by decide +kernel
theorem dX12_again_37 : decode cX12_again 37 = .ok (.ireturn, 1) := by decide +kernel
abbrev YX12_again : li_Y := (yX12_again, cX12_again, 3, (some .boolean))
theorem dX12_count_0 : decode cX12_count 0 = .ok (.aload_n 0, 1) := by decide +kernel
theorem dX12_count_1 : decode cX12_count 1 = .ok (.iconst 0, 1) := by decide +kernel
theorem dX12_count_2 : decode cX12_count 2 = .ok (.putfield 103, 3) := by decide +kernel
theorem dX12_count_5 : decode cX12_count 5 = .ok (.iload_n 1, 1) := by decide +kernel
theorem dX12_count_6 : decode cX12_count 6 = .ok (.tableswitch 131 0 11 #[62, 67, 72, 80, 88, 96, 101, 106, 111, 116, 121, 126], 62) := by decide +kernel
theorem dX12_count_68 : decode cX12_count 68 = .ok (.aload_n 0, 1) := by decide +kernel
theorem dX12_count_69 : decode cX12_count 69 = .ok (.getfield 110, 3) := by decide +kernel
theorem dX12_count_72 : decode cX12_count 72 = .ok (.ireturn, 1) := by decide +kernel
theorem dX12_count_73 : decode cX12_count 73 = .ok (.aload_n 0, 1) := by decide +kernel
theorem dX12_count_74 : decode cX12_count 74 = .ok (.getfield 121, 3) := by decide +kernel
theorem dX12_count_77 : decode cX12_count 77 = .ok (.ireturn, 1) := by decide +kernel
theorem dX12_count_78 : decode cX12_count 78 = .ok (.aload_n 0, 1) := by decide +kernel
theorem dX12_count_79 : decode cX12_count 79 = .ok (.getfield 9, 3) := by decide +kernel
theorem dX12_count_82 : decode cX12_count 82 = .ok (.bipush 19, 2) := by decide +kernel
theorem dX12_count_84 : decode cX12_count 84 = .ok (.iaload, 1) := by decide +kernel
theorem dX12_count_85 : decode cX12_count 85 = .ok (.ireturn, 1) := by decide +kernel
theorem dX12_count_86 : decode cX12_count 86 = .ok (.aload_n 0, 1) := by decide +kernel
theorem dX12_count_87 : decode cX12_count 87 = .ok (.getfield 9, 3) := by decide +kernel
theorem dX12_count_90 : decode cX12_count 90 = .ok (.bipush 20, 2) := by decide +kernel
theorem dX12_count_92 : decode cX12_count 92 = .ok (.iaload, 1) := by decide +kernel
theorem dX12_count_93 : decode cX12_count 93 = .ok (.ireturn, 1) := by decide +kernel
theorem dX12_count_94 : decode cX12_count 94 = .ok (.aload_n 0, 1) := by decide +kernel
theorem dX12_count_95 : decode cX12_count 95 = .ok (.getfield 9, 3) := by decide +kernel
theorem dX12_count_98 : decode cX12_count 98 = .ok (.bipush 18, 2) := by decide +kernel
theorem dX12_count_100 : decode cX12_count 100 = .ok (.iaload, 1) := by decide +kernel
theorem dX12_count_101 : decode cX12_count 101 = .ok (.ireturn, 1) := by decide +kernel
theorem dX12_count_102 : decode cX12_count 102 = .ok (.aload_n 0, 1) := by decide +kernel
theorem dX12_count_103 : decode cX12_count 103 = .ok (.invokevirtual 336, 3) := by decide +kernel
theorem dX12_count_106 : decode cX12_count 106 = .ok (.ireturn, 1) := by decide +kernel
theorem dX12_count_107 : decode cX12_count 107 = .ok (.aload_n 0, 1) := by decide +kernel
theorem dX12_count_108 : decode cX12_count 108 = .ok (.invokevirtual 342, 3) := by decide +kernel
theorem dX12_count_111 : decode cX12_count 111 = .ok (.ireturn, 1) := by decide +kernel
theorem dX12_count_112 : decode cX12_count 112 = .ok (.aload_n 0, 1) := by decide +kernel
theorem dX12_count_113 : decode cX12_count 113 = .ok (.getfield 377, 3) := by decide +kernel
theorem dX12_count_116 : decode cX12_count 116 = .ok (.ireturn, 1) := by decide +kernel
theorem dX12_count_117 : decode cX12_count 117 = .ok (.aload_n 0, 1) := by decide +kernel
theorem dX12_count_118 : decode cX12_count 118 = .ok (.getfield 392, 3) := by decide +kernel
theorem dX12_count_121 : decode cX12_count 121 = .ok (.ireturn, 1) := by decide +kernel
theorem dX12_count_122 : decode cX12_count 122 = .ok (.aload_n 0, 1) := by decide +kernel
theorem dX12_count_123 : decode cX12_count 123 = .ok (.getfield 174, 3) := by decide +kernel
theorem dX12_count_126 : decode cX12_count 126 = .ok (.ireturn, 1) := by decide +kernel
theorem dX12_count_127 : decode cX12_count 127 = .ok (.aload_n 0, 1) := by decide +kernel
theorem dX12_count_128 : decode cX12_count 128 = .ok (.getfield 107, 3) := by decide +kernel
theorem dX12_count_131 : decode cX12_count 131 = .ok (.ireturn, 1) := by decide +kernel
theorem dX12_count_132 : decode cX12_count 132 = .ok (.aload_n 0, 1) := by decide +kernel
theorem dX12_count_133 : decode cX12_count 133 = .ok (.getfield 124, 3) := by decide +kernel
theorem dX12_count_136 : decode cX12_count 136 = .ok (.ireturn, 1) := by decide +kernel
theorem dX12_count_137 : decode cX12_count 137 = .ok (.iconst (-1), 1) := by decide +kernel
theorem dX12_count_138 : decode cX12_count 138 = .ok (.ireturn, 1) := by decide +kernel
abbrev YX12_count : li_Y := (yX12_count, cX12_count, 2, (some .int))
theorem dX12_row_0 : decode cX12_row 0 = .ok (.aload_n 0, 1) := by decide +kernel
theorem dX12_row_1 : decode cX12_row 1 = .ok (.iconst 0, 1) := by decide +kernel
theorem dX12_row_2 : decode cX12_row 2 = .ok (.putfield 103, 3) := by decide +kernel
theorem dX12_row_5 : decode cX12_row 5 = .ok (.iload_n 1, 1) := by decide +kernel
theorem dX12_row_6 : decode cX12_row 6 = .ok (.iconst 0, 1) := by decide +kernel
theorem dX12_row_7 : decode cX12_row 7 = .ok (.aload_n 0, 1) := by decide +kernel
theorem dX12_row_8 : decode cX12_row 8 = .ok (.getfield 107, 3) := by decide +kernel
theorem dX12_row_11 : decode cX12_row 11 = .ok (.iconst 1, 1) := by decide +kernel
theorem dX12_row_12 : decode cX12_row 12 = .ok (.isub, 1) := by decide +kernel
theorem dX12_row_13 : decode cX12_row 13 = .ok (.invokestatic 113, 3) := by decide +kernel
theorem dX12_row_16 : decode cX12_row 16 = .ok (.ifCond .eq 12, 3) := by decide +kernel
theorem dX12_row_28 : decode cX12_row 28 = .ok (.aload_n 0, 1) := by decide +kernel
theorem dX12_row_29 : decode cX12_row 29 = .ok (.invokevirtual 259, 3) := by decide +kernel
theorem dX12_row_32 : decode cX12_row 32 = .ok (.ireturn, 1) := by decide +kernel
abbrev YX12_row : li_Y := (yX12_row, cX12_row, 2, (some .int))
theorem dX12_undo_0 : decode cX12_undo 0 = .ok (.aload_n 0, 1) := by decide +kernel
theorem dX12_undo_1 : decode cX12_undo 1 = .ok (.iconst 0, 1) := by decide +kernel
theorem dX12_undo_2 : decode cX12_undo 2 = .ok (.putfield 103, 3) := by decide +kernel
theorem dX12_undo_5 : decode cX12_undo 5 = .ok (.aload_n 0, 1) := by decide +kernel
theorem dX12_undo_6 : decode cX12_undo 6 = .ok (.getfield 174, 3) := by decide +kernel
theorem dX12_undo_9 : decode cX12_undo 9 = .ok (.ifCond .ne 5, 3) := by decide +kernel
theorem dX12_undo_12 : decode cX12_undo 12 = .ok (.iconst (-1), 1) := by decide +kernel
theorem dX12_undo_13 : decode cX12_undo 13 = .ok (.ireturn, 1) := by decide +kernel
abbrev YX12_undo : li_Y := (yX12_undo, cX12_undo, 2, (some .int))
