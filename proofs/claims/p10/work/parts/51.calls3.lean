theorem w_122 : (Jvm.Cond.initialized "java/util/NoSuchElementException") ∈ li_ws := li_mem 122 (by decide +kernel) (by decide +kernel)
theorem w_160 : (Jvm.Cond.fieldLink "ClockForTalk" (435 : Nat) "ClockForTalk$Row" "numbers" "[I") ∈ li_ws := li_mem 160 (by decide +kernel) (by decide +kernel)
theorem w_187 : (Jvm.Cond.fieldLink "ClockForTalk" (149 : Nat) "ClockForTalk$Town" "yearly" "[I") ∈ li_ws := li_mem 187 (by decide +kernel) (by decide +kernel)
theorem w_193 : (Jvm.Cond.fieldLink "ClockForTalk" (178 : Nat) "ClockForTalk$Town" "whom" "[I") ∈ li_ws := li_mem 193 (by decide +kernel) (by decide +kernel)
theorem w_196 : (Jvm.Cond.fieldLink "ClockForTalk" (181 : Nat) "ClockForTalk$Town" "seconds" "[I") ∈ li_ws := li_mem 196 (by decide +kernel) (by decide +kernel)
theorem w_199 : (Jvm.Cond.fieldLink "ClockForTalk" (184 : Nat) "ClockForTalk$Town" "by" "[I") ∈ li_ws := li_mem 199 (by decide +kernel) (by decide +kernel)
theorem w_238 : (Jvm.Cond.fieldLink "ClockForTalk" (221 : Nat) "ClockForTalk$Ledger" "ended" "I") ∈ li_ws := li_mem 238 (by decide +kernel) (by decide +kernel)
theorem w_245 : (Jvm.Cond.fieldLink "ClockForTalk" (152 : Nat) "ClockForTalk$Ledger" "spent" "[I") ∈ li_ws := li_mem 245 (by decide +kernel) (by decide +kernel)
theorem w_247 : (Jvm.Cond.fieldLink "ClockForTalk" (162 : Nat) "ClockForTalk$Ledger" "losses" "[J") ∈ li_ws := li_mem 247 (by decide +kernel) (by decide +kernel)
theorem w_249 : (Jvm.Cond.fieldLink "ClockForTalk" (209 : Nat) "ClockForTalk$Ledger" "lenders" "[I") ∈ li_ws := li_mem 249 (by decide +kernel) (by decide +kernel)
theorem w_251 : (Jvm.Cond.fieldLink "ClockForTalk" (212 : Nat) "ClockForTalk$Ledger" "debtors" "[I") ∈ li_ws := li_mem 251 (by decide +kernel) (by decide +kernel)
theorem w_253 : (Jvm.Cond.fieldLink "ClockForTalk" (218 : Nat) "ClockForTalk$Ledger" "due" "[I") ∈ li_ws := li_mem 253 (by decide +kernel) (by decide +kernel)
theorem w_255 : (Jvm.Cond.fieldLink "ClockForTalk" (215 : Nat) "ClockForTalk$Ledger" "owed" "[J") ∈ li_ws := li_mem 255 (by decide +kernel) (by decide +kernel)
theorem w_1303 : (Jvm.Cond.classLink "ClockForTalk" (132 : Nat) "java/util/NoSuchElementException") ∈ li_ws := li_mem 1303 (by decide +kernel) (by decide +kernel)
theorem w_1368 : (Jvm.Cond.methodLink "ClockForTalk" (155 : Nat) ({ cls := "ClockForTalk$Ledger", name := "owedBy", desc := "(I)J" } : Jvm.MethodName)) ∈ li_ws := li_mem 1368 (by decide +kernel) (by decide +kernel)
theorem w_1369 : (Jvm.Cond.methodLink "ClockForTalk" (159 : Nat) ({ cls := "ClockForTalk$Ledger", name := "owedTo", desc := "(I)J" } : Jvm.MethodName)) ∈ li_ws := li_mem 1369 (by decide +kernel) (by decide +kernel)
theorem w_1370 : (Jvm.Cond.methodLink "ClockForTalk" (166 : Nat) ({ cls := "ClockForTalk", name := "wordAt", desc := "([JI)J" } : Jvm.MethodName)) ∈ li_ws := li_mem 1370 (by decide +kernel) (by decide +kernel)
theorem w_1379 : (Jvm.Cond.methodLink "ClockForTalk" (197 : Nat) ({ cls := "ClockForTalk$Town", name := "apartFor", desc := "(I)I" } : Jvm.MethodName)) ∈ li_ws := li_mem 1379 (by decide +kernel) (by decide +kernel)
theorem dX11_person_0 : decode cX11_person 0 = .ok (.aload_n 0, 1) := by decide +kernel
theorem dX11_person_1 : decode cX11_person 1 = .ok (.getfield 26, 3) := by decide +kernel
theorem dX11_person_4 : decode cX11_person 4 = .ok (.iload_n 1, 1) := by decide +kernel
theorem dX11_person_5 : decode cX11_person 5 = .ok (.invokevirtual 125, 3) := by decide +kernel
theorem dX11_person_8 : decode cX11_person 8 = .ok (.ifCond .eq 13, 3) := by decide +kernel
theorem dX11_person_11 : decode cX11_person 11 = .ok (.iload_n 2, 1) := by decide +kernel
theorem dX11_person_12 : decode cX11_person 12 = .ok (.iconst 0, 1) := by decide +kernel
theorem dX11_person_13 : decode cX11_person 13 = .ok (.bipush 6, 2) := by decide +kernel
theorem dX11_person_15 : decode cX11_person 15 = .ok (.invokestatic 128, 3) := by decide +kernel
theorem dX11_person_18 : decode cX11_person 18 = .ok (.ifCond .ne 13, 3) := by decide +kernel
theorem dX11_person_21 : decode cX11_person 21 = .ok (.new 132, 3) := by decide +kernel
theorem dX11_person_24 : decode cX11_person 24 = .ok (.dup, 1) := by decide +kernel
theorem dX11_person_25 : decode cX11_person 25 = .ok (.ldc 134, 2) := by decide +kernel
theorem dX11_person_27 : decode cX11_person 27 = .ok (.invokespecial 136, 3) := by decide +kernel
theorem dX11_person_30 : decode cX11_person 30 = .ok (.athrow, 1) := by decide +kernel
theorem dX11_person_31 : decode cX11_person 31 = .ok (.iload_n 2, 1) := by decide +kernel
theorem dX11_person_32 : decode cX11_person 32 = .ok (.tableswitch 108 0 5 #[40, 52, 64, 76, 88, 98], 40) := by decide +kernel
theorem dX11_person_72 : decode cX11_person 72 = .ok (.aload_n 0, 1) := by decide +kernel
theorem dX11_person_73 : decode cX11_person 73 = .ok (.getfield 26, 3) := by decide +kernel
theorem dX11_person_76 : decode cX11_person 76 = .ok (.getfield 139, 3) := by decide +kernel
theorem dX11_person_79 : decode cX11_person 79 = .ok (.iload_n 1, 1) := by decide +kernel
theorem dX11_person_80 : decode cX11_person 80 = .ok (.invokestatic 142, 3) := by decide +kernel
theorem dX11_person_83 : decode cX11_person 83 = .ok (.ireturn, 1) := by decide +kernel
theorem dX11_person_84 : decode cX11_person 84 = .ok (.aload_n 0, 1) := by decide +kernel
theorem dX11_person_85 : decode cX11_person 85 = .ok (.getfield 33, 3) := by decide +kernel
theorem dX11_person_88 : decode cX11_person 88 = .ok (.getfield 146, 3) := by decide +kernel
theorem dX11_person_91 : decode cX11_person 91 = .ok (.iload_n 1, 1) := by decide +kernel
theorem dX11_person_92 : decode cX11_person 92 = .ok (.invokestatic 142, 3) := by decide +kernel
theorem dX11_person_95 : decode cX11_person 95 = .ok (.ireturn, 1) := by decide +kernel
theorem dX11_person_96 : decode cX11_person 96 = .ok (.aload_n 0, 1) := by decide +kernel
theorem dX11_person_97 : decode cX11_person 97 = .ok (.getfield 26, 3) := by decide +kernel
theorem dX11_person_100 : decode cX11_person 100 = .ok (.getfield 149, 3) := by decide +kernel
theorem dX11_person_103 : decode cX11_person 103 = .ok (.iload_n 1, 1) := by decide +kernel
theorem dX11_person_104 : decode cX11_person 104 = .ok (.invokestatic 142, 3) := by decide +kernel
theorem dX11_person_107 : decode cX11_person 107 = .ok (.ireturn, 1) := by decide +kernel
theorem dX11_person_108 : decode cX11_person 108 = .ok (.aload_n 0, 1) := by decide +kernel
theorem dX11_person_109 : decode cX11_person 109 = .ok (.getfield 33, 3) := by decide +kernel
theorem dX11_person_112 : decode cX11_person 112 = .ok (.getfield 152, 3) := by decide +kernel
theorem dX11_person_115 : decode cX11_person 115 = .ok (.iload_n 1, 1) := by decide +kernel
theorem dX11_person_116 : decode cX11_person 116 = .ok (.invokestatic 142, 3) := by decide +kernel
theorem dX11_person_119 : decode cX11_person 119 = .ok (.ireturn, 1) := by decide +kernel
theorem dX11_person_120 : decode cX11_person 120 = .ok (.aload_n 0, 1) := by decide +kernel
theorem dX11_person_121 : decode cX11_person 121 = .ok (.getfield 33, 3) := by decide +kernel
theorem dX11_person_124 : decode cX11_person 124 = .ok (.iload_n 1, 1) := by decide +kernel
theorem dX11_person_125 : decode cX11_person 125 = .ok (.invokevirtual 155, 3) := by decide +kernel
theorem dX11_person_128 : decode cX11_person 128 = .ok (.l2i, 1) := by decide +kernel
theorem dX11_person_129 : decode cX11_person 129 = .ok (.ireturn, 1) := by decide +kernel
theorem dX11_person_130 : decode cX11_person 130 = .ok (.aload_n 0, 1) := by decide +kernel
theorem dX11_person_131 : decode cX11_person 131 = .ok (.getfield 33, 3) := by decide +kernel
theorem dX11_person_134 : decode cX11_person 134 = .ok (.iload_n 1, 1) := by decide +kernel
theorem dX11_person_135 : decode cX11_person 135 = .ok (.invokevirtual 159, 3) := by decide +kernel
theorem dX11_person_138 : decode cX11_person 138 = .ok (.l2i, 1) := by decide +kernel
theorem dX11_person_139 : decode cX11_person 139 = .ok (.ireturn, 1) := by decide +kernel
theorem dX11_person_140 : decode cX11_person 140 = .ok (.aload_n 0, 1) := by decide +kernel
theorem dX11_person_141 : decode cX11_person 141 = .ok (.getfield 33, 3) := by decide +kernel
theorem dX11_person_144 : decode cX11_person 144 = .ok (.getfield 162, 3) := by decide +kernel
theorem dX11_person_147 : decode cX11_person 147 = .ok (.iload_n 1, 1) := by decide +kernel
theorem dX11_person_148 : decode cX11_person 148 = .ok (.invokestatic 166, 3) := by decide +kernel
theorem dX11_person_151 : decode cX11_person 151 = .ok (.l2i, 1) := by decide +kernel
theorem dX11_person_152 : decode cX11_person 152 = .ok (.ireturn, 1) := by decide +kernel
abbrev YX11_person : li_Y := (yX11_person, cX11_person, 3, (some .int))
theorem dX11_thing_0 : decode cX11_thing 0 = .ok (.aload_n 0, 1) := by decide +kernel
theorem dX11_thing_1 : decode cX11_thing 1 = .ok (.getfield 26, 3) := by decide +kernel
theorem dX11_thing_4 : decode cX11_thing 4 = .ok (.iload_n 1, 1) := by decide +kernel
theorem dX11_thing_5 : decode cX11_thing 5 = .ok (.invokevirtual 170, 3) := by decide +kernel
theorem dX11_thing_8 : decode cX11_thing 8 = .ok (.ifCond .eq 13, 3) := by decide +kernel
theorem dX11_thing_11 : decode cX11_thing 11 = .ok (.iload_n 2, 1) := by decide +kernel
theorem dX11_thing_12 : decode cX11_thing 12 = .ok (.iconst 0, 1) := by decide +kernel
theorem dX11_thing_13 : decode cX11_thing 13 = .ok (.bipush 7, 2) := by decide +kernel
theorem dX11_thing_15 : decode cX11_thing 15 = .ok (.invokestatic 128, 3) := by decide +kernel
theorem dX11_thing_18 : decode cX11_thing 18 = .ok (.ifCond .ne 13, 3) := by decide +kernel
theorem dX11_thing_21 : decode cX11_thing 21 = .ok (.new 132, 3) := by decide +kernel
theorem dX11_thing_24 : decode cX11_thing 24 = .ok (.dup, 1) := by decide +kernel
theorem dX11_thing_25 : decode cX11_thing 25 = .ok (.ldc 173, 2) := by decide +kernel
theorem dX11_thing_27 : decode cX11_thing 27 = .ok (.invokespecial 136, 3) := by decide +kernel
theorem dX11_thing_30 : decode cX11_thing 30 = .ok (.athrow, 1) := by decide +kernel
theorem dX11_thing_31 : decode cX11_thing 31 = .ok (.iload_n 2, 1) := by decide +kernel
theorem dX11_thing_32 : decode cX11_thing 32 = .ok (.tableswitch 133 0 6 #[44, 56, 68, 80, 92, 104, 124], 44) := by decide +kernel
theorem dX11_thing_76 : decode cX11_thing 76 = .ok (.aload_n 0, 1) := by decide +kernel
theorem dX11_thing_77 : decode cX11_thing 77 = .ok (.getfield 26, 3) := by decide +kernel
theorem dX11_thing_80 : decode cX11_thing 80 = .ok (.getfield 175, 3) := by decide +kernel
theorem dX11_thing_83 : decode cX11_thing 83 = .ok (.iload_n 1, 1) := by decide +kernel
theorem dX11_thing_84 : decode cX11_thing 84 = .ok (.invokestatic 142, 3) := by decide +kernel
theorem dX11_thing_87 : decode cX11_thing 87 = .ok (.ireturn, 1) := by decide +kernel
theorem dX11_thing_88 : decode cX11_thing 88 = .ok (.aload_n 0, 1) := by decide +kernel
theorem dX11_thing_89 : decode cX11_thing 89 = .ok (.getfield 26, 3) := by decide +kernel
theorem dX11_thing_92 : decode cX11_thing 92 = .ok (.getfield 178, 3) := by decide +kernel
theorem dX11_thing_95 : decode cX11_thing 95 = .ok (.iload_n 1, 1) := by decide +kernel
theorem dX11_thing_96 : decode cX11_thing 96 = .ok (.invokestatic 142, 3) := by decide +kernel
theorem dX11_thing_99 : decode cX11_thing 99 = .ok (.ireturn, 1) := by decide +kernel
theorem dX11_thing_100 : decode cX11_thing 100 = .ok (.aload_n 0, 1) := by decide +kernel
theorem dX11_thing_101 : decode cX11_thing 101 = .ok (.getfield 26, 3) := by decide +kernel
theorem dX11_thing_104 : decode cX11_thing 104 = .ok (.getfield 181, 3) := by decide +kernel
theorem dX11_thing_107 : decode cX11_thing 107 = .ok (.iload_n 1, 1) := by decide +kernel
theorem dX11_thing_108 : decode cX11_thing 108 = .ok (.invokestatic 142, 3) := by decide +kernel
theorem dX11_thing_111 : decode cX11_thing 111 = .ok (.ireturn, 1) := by decide +kernel
theorem dX11_thing_112 : decode cX11_thing 112 = .ok (.aload_n 0, 1) := by decide +kernel
theorem dX11_thing_113 : decode cX11_thing 113 = .ok (.getfield 26, 3) := by decide +kernel
theorem dX11_thing_116 : decode cX11_thing 116 = .ok (.getfield 184, 3) := by decide +kernel
theorem dX11_thing_119 : decode cX11_thing 119 = .ok (.iload_n 1, 1) := by decide +kernel
theorem dX11_thing_120 : decode cX11_thing 120 = .ok (.invokestatic 142, 3) := by decide +kernel
theorem dX11_thing_123 : decode cX11_thing 123 = .ok (.ireturn, 1) := by decide +kernel
theorem dX11_thing_124 : decode cX11_thing 124 = .ok (.aload_n 0, 1) := by decide +kernel
theorem dX11_thing_125 : decode cX11_thing 125 = .ok (.getfield 26, 3) := by decide +kernel
theorem dX11_thing_128 : decode cX11_thing 128 = .ok (.getfield 187, 3) := by decide +kernel
theorem dX11_thing_131 : decode cX11_thing 131 = .ok (.iload_n 1, 1) := by decide +kernel
theorem dX11_thing_132 : decode cX11_thing 132 = .ok (.invokestatic 142, 3) := by decide +kernel
theorem dX11_thing_135 : decode cX11_thing 135 = .ok (.ireturn, 1) := by decide +kernel
theorem dX11_thing_136 : decode cX11_thing 136 = .ok (.aload_n 0, 1) := by decide +kernel
theorem dX11_thing_137 : decode cX11_thing 137 = .ok (.getfield 33, 3) := by decide +kernel
theorem dX11_thing_140 : decode cX11_thing 140 = .ok (.getfield 190, 3) := by decide +kernel
theorem dX11_thing_143 : decode cX11_thing 143 = .ok (.iload_n 1, 1) := by decide +kernel
theorem dX11_thing_144 : decode cX11_thing 144 = .ok (.invokestatic 193, 3) := by decide +kernel
theorem dX11_thing_147 : decode cX11_thing 147 = .ok (.ifCond .eq 7, 3) := by decide +kernel
theorem dX11_thing_150 : decode cX11_thing 150 = .ok (.iconst 1, 1) := by decide +kernel
theorem dX11_thing_151 : decode cX11_thing 151 = .ok (.goto 4, 3) := by decide +kernel
theorem dX11_thing_154 : decode cX11_thing 154 = .ok (.iconst 0, 1) := by decide +kernel
theorem dX11_thing_155 : decode cX11_thing 155 = .ok (.ireturn, 1) := by decide +kernel
theorem dX11_thing_156 : decode cX11_thing 156 = .ok (.aload_n 0, 1) := by decide +kernel
theorem dX11_thing_157 : decode cX11_thing 157 = .ok (.getfield 26, 3) := by decide +kernel
theorem dX11_thing_160 : decode cX11_thing 160 = .ok (.iload_n 1, 1) := by decide +kernel
theorem dX11_thing_161 : decode cX11_thing 161 = .ok (.invokevirtual 197, 3) := by decide +kernel
theorem dX11_thing_164 : decode cX11_thing 164 = .ok (.ireturn, 1) := by decide +kernel
theorem dX11_thing_165 : decode cX11_thing 165 = .ok (.aload_n 0, 1) := by decide +kernel
theorem dX11_thing_166 : decode cX11_thing 166 = .ok (.getfield 70, 3) := by decide +kernel
theorem dX11_thing_169 : decode cX11_thing 169 = .ok (.iload_n 1, 1) := by decide +kernel
theorem dX11_thing_170 : decode cX11_thing 170 = .ok (.invokevirtual 201, 3) := by decide +kernel
theorem dX11_thing_173 : decode cX11_thing 173 = .ok (.ireturn, 1) := by decide +kernel
abbrev YX11_thing : li_Y := (yX11_thing, cX11_thing, 3, (some .int))
theorem dX11_loan_0 : decode cX11_loan 0 = .ok (.iload_n 1, 1) := by decide +kernel
theorem dX11_loan_1 : decode cX11_loan 1 = .ok (.iconst 0, 1) := by decide +kernel
theorem dX11_loan_2 : decode cX11_loan 2 = .ok (.aload_n 0, 1) := by decide +kernel
theorem dX11_loan_3 : decode cX11_loan 3 = .ok (.getfield 33, 3) := by decide +kernel
theorem dX11_loan_6 : decode cX11_loan 6 = .ok (.getfield 204, 3) := by decide +kernel
theorem dX11_loan_9 : decode cX11_loan 9 = .ok (.iconst 1, 1) := by decide +kernel
theorem dX11_loan_10 : decode cX11_loan 10 = .ok (.isub, 1) := by decide +kernel
theorem dX11_loan_11 : decode cX11_loan 11 = .ok (.invokestatic 128, 3) := by decide +kernel
theorem dX11_loan_14 : decode cX11_loan 14 = .ok (.ifCond .eq 12, 3) := by decide +kernel
theorem dX11_loan_17 : decode cX11_loan 17 = .ok (.iload_n 2, 1) := by decide +kernel
theorem dX11_loan_18 : decode cX11_loan 18 = .ok (.iconst 0, 1) := by decide +kernel
theorem dX11_loan_19 : decode cX11_loan 19 = .ok (.iconst 4, 1) := by decide +kernel
theorem dX11_loan_20 : decode cX11_loan 20 = .ok (.invokestatic 128, 3) := by decide +kernel
theorem dX11_loan_23 : decode cX11_loan 23 = .ok (.ifCond .ne 13, 3) := by decide +kernel
theorem dX11_loan_26 : decode cX11_loan 26 = .ok (.new 132, 3) := by decide +kernel
theorem dX11_loan_29 : decode cX11_loan 29 = .ok (.dup, 1) := by decide +kernel
theorem dX11_loan_30 : decode cX11_loan 30 = .ok (.ldc 207, 2) := by decide +kernel
theorem dX11_loan_32 : decode cX11_loan 32 = .ok (.invokespecial 136, 3) := by decide +kernel
theorem dX11_loan_35 : decode cX11_loan 35 = .ok (.athrow, 1) := by decide +kernel
theorem dX11_loan_36 : decode cX11_loan 36 = .ok (.iload_n 2, 1) := by decide +kernel
theorem dX11_loan_37 : decode cX11_loan 37 = .ok (.tableswitch 80 0 3 #[31, 43, 55, 68], 31) := by decide +kernel
theorem dX11_loan_68 : decode cX11_loan 68 = .ok (.aload_n 0, 1) := by decide +kernel
theorem dX11_loan_69 : decode cX11_loan 69 = .ok (.getfield 33, 3) := by decide +kernel
theorem dX11_loan_72 : decode cX11_loan 72 = .ok (.getfield 209, 3) := by decide +kernel
theorem dX11_loan_75 : decode cX11_loan 75 = .ok (.iload_n 1, 1) := by decide +kernel
theorem dX11_loan_76 : decode cX11_loan 76 = .ok (.invokestatic 142, 3) := by decide +kernel
theorem dX11_loan_79 : decode cX11_loan 79 = .ok (.ireturn, 1) := by decide +kernel
theorem dX11_loan_80 : decode cX11_loan 80 = .ok (.aload_n 0, 1) := by decide +kernel
theorem dX11_loan_81 : decode cX11_loan 81 = .ok (.getfield 33, 3) := by decide +kernel
theorem dX11_loan_84 : decode cX11_loan 84 = .ok (.getfield 212, 3) := by decide +kernel
theorem dX11_loan_87 : decode cX11_loan 87 = .ok (.iload_n 1, 1) := by decide +kernel
theorem dX11_loan_88 : decode cX11_loan 88 = .ok (.invokestatic 142, 3) := by decide +kernel
theorem dX11_loan_91 : decode cX11_loan 91 = .ok (.ireturn, 1) := by decide +kernel
theorem dX11_loan_92 : decode cX11_loan 92 = .ok (.aload_n 0, 1) := by decide +kernel
theorem dX11_loan_93 : decode cX11_loan 93 = .ok (.getfield 33, 3) := by decide +kernel
theorem dX11_loan_96 : decode cX11_loan 96 = .ok (.getfield 215, 3) := by decide +kernel
theorem dX11_loan_99 : decode cX11_loan 99 = .ok (.iload_n 1, 1) := by decide +kernel
theorem dX11_loan_100 : decode cX11_loan 100 = .ok (.invokestatic 166, 3) := by decide +kernel
theorem dX11_loan_103 : decode cX11_loan 103 = .ok (.l2i, 1) := by decide +kernel
theorem dX11_loan_104 : decode cX11_loan 104 = .ok (.ireturn, 1) := by decide +kernel
theorem dX11_loan_105 : decode cX11_loan 105 = .ok (.aload_n 0, 1) := by decide +kernel
theorem dX11_loan_106 : decode cX11_loan 106 = .ok (.getfield 33, 3) := by decide +kernel
theorem dX11_loan_109 : decode cX11_loan 109 = .ok (.getfield 218, 3) := by decide +kernel
theorem dX11_loan_112 : decode cX11_loan 112 = .ok (.iload_n 1, 1) := by decide +kernel
theorem dX11_loan_113 : decode cX11_loan 113 = .ok (.invokestatic 142, 3) := by decide +kernel
theorem dX11_loan_116 : decode cX11_loan 116 = .ok (.ireturn, 1) := by decide +kernel
theorem dX11_loan_117 : decode cX11_loan 117 = .ok (.aload_n 0, 1) := by decide +kernel
theorem dX11_loan_118 : decode cX11_loan 118 = .ok (.getfield 33, 3) := by decide +kernel
theorem dX11_loan_121 : decode cX11_loan 121 = .ok (.getfield 221, 3) := by decide +kernel
theorem dX11_loan_124 : decode cX11_loan 124 = .ok (.iload_n 1, 1) := by decide +kernel
theorem dX11_loan_125 : decode cX11_loan 125 = .ok (.invokestatic 193, 3) := by decide +kernel
theorem dX11_loan_128 : decode cX11_loan 128 = .ok (.ifCond .eq 7, 3) := by decide +kernel
theorem dX11_loan_131 : decode cX11_loan 131 = .ok (.iconst 1, 1) := by decide +kernel
theorem dX11_loan_132 : decode cX11_loan 132 = .ok (.goto 4, 3) := by decide +kernel
theorem dX11_loan_135 : decode cX11_loan 135 = .ok (.iconst 0, 1) := by decide +kernel
theorem dX11_loan_136 : decode cX11_loan 136 = .ok (.ireturn, 1) := by decide +kernel
abbrev YX11_loan : li_Y := (yX11_loan, cX11_loan, 3, (some .int))
theorem dX11_row_0 : decode cX11_row 0 = .ok (.iload_n 1, 1) := by decide +kernel
theorem dX11_row_1 : decode cX11_row 1 = .ok (.iconst 0, 1) := by decide +kernel
theorem dX11_row_2 : decode cX11_row 2 = .ok (.aload_n 0, 1) := by decide +kernel
theorem dX11_row_3 : decode cX11_row 3 = .ok (.getfield 19, 3) := by decide +kernel
theorem dX11_row_6 : decode cX11_row 6 = .ok (.getfield 432, 3) := by decide +kernel
theorem dX11_row_9 : decode cX11_row 9 = .ok (.iconst 1, 1) := by decide +kernel
theorem dX11_row_10 : decode cX11_row 10 = .ok (.isub, 1) := by decide +kernel
theorem dX11_row_11 : decode cX11_row 11 = .ok (.invokestatic 128, 3) := by decide +kernel
theorem dX11_row_14 : decode cX11_row 14 = .ok (.ifCond .ne 14, 3) := by decide +kernel
theorem dX11_row_17 : decode cX11_row 17 = .ok (.new 132, 3) := by decide +kernel
theorem dX11_row_20 : decode cX11_row 20 = .ok (.dup, 1) := by decide +kernel
theorem dX11_row_21 : decode cX11_row 21 = .ok (.ldc_w 433, 3) := by decide +kernel
theorem dX11_row_24 : decode cX11_row 24 = .ok (.invokespecial 136, 3) := by decide +kernel
theorem dX11_row_27 : decode cX11_row 27 = .ok (.athrow, 1) := by decide +kernel
theorem dX11_row_28 : decode cX11_row 28 = .ok (.aload_n 0, 1) := by decide +kernel
theorem dX11_row_29 : decode cX11_row 29 = .ok (.getfield 19, 3) := by decide +kernel
theorem dX11_row_32 : decode cX11_row 32 = .ok (.getfield 435, 3) := by decide +kernel
theorem dX11_row_35 : decode cX11_row 35 = .ok (.iload_n 1, 1) := by decide +kernel
theorem dX11_row_36 : decode cX11_row 36 = .ok (.invokestatic 142, 3) := by decide +kernel
theorem dX11_row_39 : decode cX11_row 39 = .ok (.ireturn, 1) := by decide +kernel
abbrev YX11_row : li_Y := (yX11_row, cX11_row, 2, (some .int))
set_option maxRecDepth 100000 in
set_option maxHeartbeats 4000000 in
theorem k_X11_person {l : Launch} {Z : li_Z} (d : Nat) (hd : 6 ≤ d) (htr : l.stackTraces = false) (p1 p2 : Int32) (M0 : li_M) : l2_Met l Z YX11_person d [.ref (Z.2.2 0), .int p1, .int p2] M0 (li_SI (fun i => False) M0) := by
  refine l2_enter htr (by decide +kernel) (Nat.le_of_ble_eq_true rfl) ?_
  show l2_T l Z YX11_person d M0 0 [(0, .ref (Z.2.2 0)), (1, .int p1), (2, .int p2)] [] M0 _
  have hf : li_fr (fun i => False) M0 M0 := li_fr_refl
  refine l2_aload_n 0 dX11_person_0 rfl ?_
  refine l2_getr (k := 2) (N := 13) (T := TX11) (C0 := RX11) dX11_person_1 (by decide) sh_0 rfl rfl (by decide) (by decide) li_in11 w_475 ?_
  refine l2_iload_n 1 dX11_person_4 rfl ?_
  refine l2_callV (n := 1) (As := [.int p1]) dX11_person_5 (k_X8_hasPerson (d - 1) (by omega) p1 M0) (by omega) (Nat.le_of_ble_eq_true rfl) w_758 w_759 w_760 w_104 w_761 (by decide +kernel) rfl (by decide) sh_5 rfl rfl (Nat.le_of_ble_eq_true rfl) (fun r M2 h3 => ?_)
  obtain ⟨⟨x1, rfl, bx1⟩, h3⟩ := h3
  obtain rfl : M0 = M2 := (li_fr_none h3).symm
  refine l2_if_eq 21 dX11_person_8 (by decide) (fun c4 => ?_) (fun c4 => ?_)
  · exact l2_throw (by omega) rfl rfl w_1303 w_122 (fun s V => V.2.2.2.1) dX11_person_21 dX11_person_24 dX11_person_25 dX11_person_27 dX11_person_30 (by decide)
  · refine l2_iload_n 2 dX11_person_11 rfl ?_
    refine l2_iconst 0 dX11_person_12 (by decide) ?_
    refine l2_bipush 6 dX11_person_13 (by decide) ?_
    refine l2_callS (n := 3) (As := [.int p2, .int 0, .int 6]) dX11_person_15 (k_X11_within (d - 1) (by omega) p2 0 6 M0) (by omega) (Nat.le_of_ble_eq_true rfl) w_762 w_639 w_101 w_640 (by decide +kernel) rfl rfl (Nat.le_of_ble_eq_true rfl) (fun r M6 h7 => ?_)
    obtain ⟨⟨x5, rfl, bx5, qx5⟩, h7⟩ := h7
    obtain rfl : M0 = M6 := (li_fr_none h7).symm
    refine l2_if_ne 31 dX11_person_18 (by decide) (fun c8 => ?_) (fun c8 => ?_)
    · refine l2_iload_n 2 dX11_person_31 rfl ?_
      refine l2_table dX11_person_32 140 (by decide) (fun c9 => ?_) (fun c9a c9b => ?_)
      · refine l2_aload_n 0 dX11_person_140 rfl ?_
        refine l2_getr (k := 3) (N := 13) (T := TX11) (C0 := RX11) dX11_person_141 (by decide) sh_0 rfl rfl (by decide) (by decide) li_in11 w_476 ?_
        refine l2_getr (k := 6) (N := 11) (T := TX4) (C0 := RX4) dX11_person_144 (by decide) sh_13 rfl rfl (by decide) (by decide) li_in4 w_247 ?_
        refine l2_iload_n 1 dX11_person_147 rfl ?_
        refine l2_callS (n := 2) (As := [.ref (Z.2.2 16), .int p1]) dX11_person_148 (k_X11_wordAt (d - 1) (by omega) (by decide) sh_16 (by decide) p1 M0) (by omega) (Nat.le_of_ble_eq_true rfl) w_1370 w_919 w_101 w_920 (by decide +kernel) rfl rfl (Nat.le_of_ble_eq_true rfl) (fun r M11 h12 => ?_)
        obtain ⟨⟨x10, rfl⟩, h12⟩ := h12
        obtain rfl : M0 = M11 := (li_fr_none h12).symm
        refine l2_l2i dX11_person_151 ?_
        refine l2_top (fun x13 ex13 => ?_)
        exact l2_iret dX11_person_152 rfl rfl ⟨⟨_, rfl⟩, hf⟩
      · rcases (show (p2 : Int32).toInt = 0 ∨ (p2 : Int32).toInt = 1 ∨ (p2 : Int32).toInt = 2 ∨ (p2 : Int32).toInt = 3 ∨ (p2 : Int32).toInt = 4 ∨ (p2 : Int32).toInt = 5 by omega) with c9 | c9 | c9 | c9 | c9 | c9
        · refine ⟨40, 72, by rw [c9]; rfl, by decide, ?_⟩
          refine l2_aload_n 0 dX11_person_72 rfl ?_
          refine l2_getr (k := 2) (N := 13) (T := TX11) (C0 := RX11) dX11_person_73 (by decide) sh_0 rfl rfl (by decide) (by decide) li_in11 w_475 ?_
          refine l2_getr (k := 2) (N := 9) (T := TX8) (C0 := RX8) dX11_person_76 (by decide) sh_5 rfl rfl (by decide) (by decide) li_in8 w_184 ?_
          refine l2_iload_n 1 dX11_person_79 rfl ?_
          refine l2_callS (n := 2) (As := [.ref (Z.2.2 6), .int p1]) dX11_person_80 (k_X11_at (d - 1) (by omega) (by decide) sh_6 (by decide) p1 M0) (by omega) (Nat.le_of_ble_eq_true rfl) w_763 w_569 w_101 w_570 (by decide +kernel) rfl rfl (Nat.le_of_ble_eq_true rfl) (fun r M15 h16 => ?_)
          obtain ⟨⟨x14, rfl⟩, h16⟩ := h16
          obtain rfl : M0 = M15 := (li_fr_none h16).symm
          exact l2_iret dX11_person_83 rfl rfl ⟨⟨_, rfl⟩, hf⟩
        · refine ⟨52, 84, by rw [c9]; rfl, by decide, ?_⟩
          refine l2_aload_n 0 dX11_person_84 rfl ?_
          refine l2_getr (k := 3) (N := 13) (T := TX11) (C0 := RX11) dX11_person_85 (by decide) sh_0 rfl rfl (by decide) (by decide) li_in11 w_476 ?_
          refine l2_getr (k := 4) (N := 11) (T := TX4) (C0 := RX4) dX11_person_88 (by decide) sh_13 rfl rfl (by decide) (by decide) li_in4 w_243 ?_
          refine l2_iload_n 1 dX11_person_91 rfl ?_
          refine l2_callS (n := 2) (As := [.ref (Z.2.2 14), .int p1]) dX11_person_92 (k_X11_at (d - 1) (by omega) (by decide) sh_14 (by decide) p1 M0) (by omega) (Nat.le_of_ble_eq_true rfl) w_763 w_569 w_101 w_570 (by decide +kernel) rfl rfl (Nat.le_of_ble_eq_true rfl) (fun r M18 h19 => ?_)
          obtain ⟨⟨x17, rfl⟩, h19⟩ := h19
          obtain rfl : M0 = M18 := (li_fr_none h19).symm
          exact l2_iret dX11_person_95 rfl rfl ⟨⟨_, rfl⟩, hf⟩
        · refine ⟨64, 96, by rw [c9]; rfl, by decide, ?_⟩
          refine l2_aload_n 0 dX11_person_96 rfl ?_
          refine l2_getr (k := 2) (N := 13) (T := TX11) (C0 := RX11) dX11_person_97 (by decide) sh_0 rfl rfl (by decide) (by decide) li_in11 w_475 ?_
          refine l2_getr (k := 3) (N := 9) (T := TX8) (C0 := RX8) dX11_person_100 (by decide) sh_5 rfl rfl (by decide) (by decide) li_in8 w_187 ?_
          refine l2_iload_n 1 dX11_person_103 rfl ?_
          refine l2_callS (n := 2) (As := [.ref (Z.2.2 7), .int p1]) dX11_person_104 (k_X11_at (d - 1) (by omega) (by decide) sh_7 (by decide) p1 M0) (by omega) (Nat.le_of_ble_eq_true rfl) w_763 w_569 w_101 w_570 (by decide +kernel) rfl rfl (Nat.le_of_ble_eq_true rfl) (fun r M21 h22 => ?_)
          obtain ⟨⟨x20, rfl⟩, h22⟩ := h22
          obtain rfl : M0 = M21 := (li_fr_none h22).symm
          exact l2_iret dX11_person_107 rfl rfl ⟨⟨_, rfl⟩, hf⟩
        · refine ⟨76, 108, by rw [c9]; rfl, by decide, ?_⟩
          refine l2_aload_n 0 dX11_person_108 rfl ?_
          refine l2_getr (k := 3) (N := 13) (T := TX11) (C0 := RX11) dX11_person_109 (by decide) sh_0 rfl rfl (by decide) (by decide) li_in11 w_476 ?_
          refine l2_getr (k := 5) (N := 11) (T := TX4) (C0 := RX4) dX11_person_112 (by decide) sh_13 rfl rfl (by decide) (by decide) li_in4 w_245 ?_
          refine l2_iload_n 1 dX11_person_115 rfl ?_
          refine l2_callS (n := 2) (As := [.ref (Z.2.2 15), .int p1]) dX11_person_116 (k_X11_at (d - 1) (by omega) (by decide) sh_15 (by decide) p1 M0) (by omega) (Nat.le_of_ble_eq_true rfl) w_763 w_569 w_101 w_570 (by decide +kernel) rfl rfl (Nat.le_of_ble_eq_true rfl) (fun r M24 h25 => ?_)
          obtain ⟨⟨x23, rfl⟩, h25⟩ := h25
          obtain rfl : M0 = M24 := (li_fr_none h25).symm
          exact l2_iret dX11_person_119 rfl rfl ⟨⟨_, rfl⟩, hf⟩
        · refine ⟨88, 120, by rw [c9]; rfl, by decide, ?_⟩
          refine l2_aload_n 0 dX11_person_120 rfl ?_
          refine l2_getr (k := 3) (N := 13) (T := TX11) (C0 := RX11) dX11_person_121 (by decide) sh_0 rfl rfl (by decide) (by decide) li_in11 w_476 ?_
          refine l2_iload_n 1 dX11_person_124 rfl ?_
          refine l2_callV (n := 1) (As := [.int p1]) dX11_person_125 (k_X4_owedBy (d - 1) (by omega) p1 M0) (by omega) (Nat.le_of_ble_eq_true rfl) w_1368 w_1245 w_1246 w_105 w_1247 (by decide +kernel) rfl (by decide) sh_13 rfl rfl (Nat.le_of_ble_eq_true rfl) (fun r M27 h28 => ?_)
          obtain ⟨⟨x26, rfl⟩, h28⟩ := h28
          obtain rfl : M0 = M27 := (li_fr_none h28).symm
          refine l2_l2i dX11_person_128 ?_
          refine l2_top (fun x29 ex29 => ?_)
          exact l2_iret dX11_person_129 rfl rfl ⟨⟨_, rfl⟩, hf⟩
        · refine ⟨98, 130, by rw [c9]; rfl, by decide, ?_⟩
          refine l2_aload_n 0 dX11_person_130 rfl ?_
          refine l2_getr (k := 3) (N := 13) (T := TX11) (C0 := RX11) dX11_person_131 (by decide) sh_0 rfl rfl (by decide) (by decide) li_in11 w_476 ?_
          refine l2_iload_n 1 dX11_person_134 rfl ?_
          refine l2_callV (n := 1) (As := [.int p1]) dX11_person_135 (k_X4_owedTo (d - 1) (by omega) p1 M0) (by omega) (Nat.le_of_ble_eq_true rfl) w_1369 w_1261 w_1262 w_105 w_1263 (by decide +kernel) rfl (by decide) sh_13 rfl rfl (Nat.le_of_ble_eq_true rfl) (fun r M31 h32 => ?_)
          obtain ⟨⟨x30, rfl⟩, h32⟩ := h32
          obtain rfl : M0 = M31 := (li_fr_none h32).symm
          refine l2_l2i dX11_person_138 ?_
          refine l2_top (fun x33 ex33 => ?_)
          exact l2_iret dX11_person_139 rfl rfl ⟨⟨_, rfl⟩, hf⟩
    · exact l2_throw (by omega) rfl rfl w_1303 w_122 (fun s V => V.2.2.2.1) dX11_person_21 dX11_person_24 dX11_person_25 dX11_person_27 dX11_person_30 (by decide)
set_option maxRecDepth 100000 in
set_option maxHeartbeats 4000000 in
theorem k_X11_thing {l : Launch} {Z : li_Z} (d : Nat) (hd : 7 ≤ d) (htr : l.stackTraces = false) (p1 p2 : Int32) (M0 : li_M) : l2_Met l Z YX11_thing d [.ref (Z.2.2 0), .int p1, .int p2] M0 (li_SI (fun i => i = 146 ∨ i = 147) M0) := by
  refine l2_enter htr (by decide +kernel) (Nat.le_of_ble_eq_true rfl) ?_
  show l2_T l Z YX11_thing d M0 0 [(0, .ref (Z.2.2 0)), (1, .int p1), (2, .int p2)] [] M0 _
  have hf : li_fr (fun i => i = 146 ∨ i = 147) M0 M0 := li_fr_refl
  refine l2_aload_n 0 dX11_thing_0 rfl ?_
  refine l2_getr (k := 2) (N := 13) (T := TX11) (C0 := RX11) dX11_thing_1 (by decide) sh_0 rfl rfl (by decide) (by decide) li_in11 w_475 ?_
  refine l2_iload_n 1 dX11_thing_4 rfl ?_
  refine l2_callV (n := 1) (As := [.int p1]) dX11_thing_5 (k_X8_hasThing (d - 1) (by omega) p1 M0) (by omega) (Nat.le_of_ble_eq_true rfl) w_784 w_785 w_786 w_104 w_787 (by decide +kernel) rfl (by decide) sh_5 rfl rfl (Nat.le_of_ble_eq_true rfl) (fun r M2 h3 => ?_)
  obtain ⟨⟨x1, rfl, bx1⟩, h3⟩ := h3
  obtain rfl : M0 = M2 := (li_fr_none h3).symm
  refine l2_if_eq 21 dX11_thing_8 (by decide) (fun c4 => ?_) (fun c4 => ?_)
  · exact l2_throw (by omega) rfl rfl w_1303 w_122 (fun s V => V.2.2.2.2.1) dX11_thing_21 dX11_thing_24 dX11_thing_25 dX11_thing_27 dX11_thing_30 (by decide)
  · refine l2_iload_n 2 dX11_thing_11 rfl ?_
    refine l2_iconst 0 dX11_thing_12 (by decide) ?_
    refine l2_bipush 7 dX11_thing_13 (by decide) ?_
    refine l2_callS (n := 3) (As := [.int p2, .int 0, .int 7]) dX11_thing_15 (k_X11_within (d - 1) (by omega) p2 0 7 M0) (by omega) (Nat.le_of_ble_eq_true rfl) w_762 w_639 w_101 w_640 (by decide +kernel) rfl rfl (Nat.le_of_ble_eq_true rfl) (fun r M6 h7 => ?_)
    obtain ⟨⟨x5, rfl, bx5, qx5⟩, h7⟩ := h7
    obtain rfl : M0 = M6 := (li_fr_none h7).symm
    refine l2_if_ne 31 dX11_thing_18 (by decide) (fun c8 => ?_) (fun c8 => ?_)
    · refine l2_iload_n 2 dX11_thing_31 rfl ?_
      refine l2_table dX11_thing_32 165 (by decide) (fun c9 => ?_) (fun c9a c9b => ?_)
      · refine l2_aload_n 0 dX11_thing_165 rfl ?_
        refine l2_getr (k := 7) (N := 13) (T := TX11) (C0 := RX11) dX11_thing_166 (by decide) sh_0 rfl rfl (by decide) (by decide) li_in11 w_480 ?_
        refine l2_iload_n 1 dX11_thing_169 rfl ?_
        refine l2_callV (n := 1) (As := [.int p1]) dX11_thing_170 (k_X0_leastWay (d - 1) (by omega) cob_148 p1 M0) (by omega) (Nat.le_of_ble_eq_true rfl) w_964 w_965 w_966 w_109 w_967 (by decide +kernel) rfl (by decide) sh_148 rfl rfl (Nat.le_of_ble_eq_true rfl) (fun r M11 h12 => ?_)
        obtain ⟨⟨x10, rfl⟩, h12⟩ := h12
        have hf := li_fr_trans hf h12 (fun i (h : i = 146 ∨ i = 147) => (show i = 146 ∨ i = 147 by omega))
        exact l2_iret dX11_thing_173 rfl rfl ⟨⟨_, rfl⟩, hf⟩
      · rcases (show (p2 : Int32).toInt = 0 ∨ (p2 : Int32).toInt = 1 ∨ (p2 : Int32).toInt = 2 ∨ (p2 : Int32).toInt = 3 ∨ (p2 : Int32).toInt = 4 ∨ (p2 : Int32).toInt = 5 ∨ (p2 : Int32).toInt = 6 by omega) with c9 | c9 | c9 | c9 | c9 | c9 | c9
        · refine ⟨44, 76, by rw [c9]; rfl, by decide, ?_⟩
          refine l2_aload_n 0 dX11_thing_76 rfl ?_
          refine l2_getr (k := 2) (N := 13) (T := TX11) (C0 := RX11) dX11_thing_77 (by decide) sh_0 rfl rfl (by decide) (by decide) li_in11 w_475 ?_
          refine l2_getr (k := 4) (N := 9) (T := TX8) (C0 := RX8) dX11_thing_80 (by decide) sh_5 rfl rfl (by decide) (by decide) li_in8 w_190 ?_
          refine l2_iload_n 1 dX11_thing_83 rfl ?_
          refine l2_callS (n := 2) (As := [.ref (Z.2.2 8), .int p1]) dX11_thing_84 (k_X11_at (d - 1) (by omega) (by decide) sh_8 (by decide) p1 M0) (by omega) (Nat.le_of_ble_eq_true rfl) w_763 w_569 w_101 w_570 (by decide +kernel) rfl rfl (Nat.le_of_ble_eq_true rfl) (fun r M14 h15 => ?_)
          obtain ⟨⟨x13, rfl⟩, h15⟩ := h15
          obtain rfl : M0 = M14 := (li_fr_none h15).symm
          exact l2_iret dX11_thing_87 rfl rfl ⟨⟨_, rfl⟩, hf⟩
        · refine ⟨56, 88, by rw [c9]; rfl, by decide, ?_⟩
          refine l2_aload_n 0 dX11_thing_88 rfl ?_
          refine l2_getr (k := 2) (N := 13) (T := TX11) (C0 := RX11) dX11_thing_89 (by decide) sh_0 rfl rfl (by decide) (by decide) li_in11 w_475 ?_
          refine l2_getr (k := 5) (N := 9) (T := TX8) (C0 := RX8) dX11_thing_92 (by decide) sh_5 rfl rfl (by decide) (by decide) li_in8 w_193 ?_
          refine l2_iload_n 1 dX11_thing_95 rfl ?_
          refine l2_callS (n := 2) (As := [.ref (Z.2.2 9), .int p1]) dX11_thing_96 (k_X11_at (d - 1) (by omega) (by decide) sh_9 (by decide) p1 M0) (by omega) (Nat.le_of_ble_eq_true rfl) w_763 w_569 w_101 w_570 (by decide +kernel) rfl rfl (Nat.le_of_ble_eq_true rfl) (fun r M17 h18 => ?_)
          obtain ⟨⟨x16, rfl⟩, h18⟩ := h18
          obtain rfl : M0 = M17 := (li_fr_none h18).symm
          exact l2_iret dX11_thing_99 rfl rfl ⟨⟨_, rfl⟩, hf⟩
        · refine ⟨68, 100, by rw [c9]; rfl, by decide, ?_⟩
          refine l2_aload_n 0 dX11_thing_100 rfl ?_
          refine l2_getr (k := 2) (N := 13) (T := TX11) (C0 := RX11) dX11_thing_101 (by decide) sh_0 rfl rfl (by decide) (by decide) li_in11 w_475 ?_
          refine l2_getr (k := 6) (N := 9) (T := TX8) (C0 := RX8) dX11_thing_104 (by decide) sh_5 rfl rfl (by decide) (by decide) li_in8 w_196 ?_
          refine l2_iload_n 1 dX11_thing_107 rfl ?_
          refine l2_callS (n := 2) (As := [.ref (Z.2.2 10), .int p1]) dX11_thing_108 (k_X11_at (d - 1) (by omega) (by decide) sh_10 (by decide) p1 M0) (by omega) (Nat.le_of_ble_eq_true rfl) w_763 w_569 w_101 w_570 (by decide +kernel) rfl rfl (Nat.le_of_ble_eq_true rfl) (fun r M20 h21 => ?_)
          obtain ⟨⟨x19, rfl⟩, h21⟩ := h21
          obtain rfl : M0 = M20 := (li_fr_none h21).symm
          exact l2_iret dX11_thing_111 rfl rfl ⟨⟨_, rfl⟩, hf⟩
        · refine ⟨80, 112, by rw [c9]; rfl, by decide, ?_⟩
          refine l2_aload_n 0 dX11_thing_112 rfl ?_
          refine l2_getr (k := 2) (N := 13) (T := TX11) (C0 := RX11) dX11_thing_113 (by decide) sh_0 rfl rfl (by decide) (by decide) li_in11 w_475 ?_
          refine l2_getr (k := 7) (N := 9) (T := TX8) (C0 := RX8) dX11_thing_116 (by decide) sh_5 rfl rfl (by decide) (by decide) li_in8 w_199 ?_
          refine l2_iload_n 1 dX11_thing_119 rfl ?_
          refine l2_callS (n := 2) (As := [.ref (Z.2.2 11), .int p1]) dX11_thing_120 (k_X11_at (d - 1) (by omega) (by decide) sh_11 (by decide) p1 M0) (by omega) (Nat.le_of_ble_eq_true rfl) w_763 w_569 w_101 w_570 (by decide +kernel) rfl rfl (Nat.le_of_ble_eq_true rfl) (fun r M23 h24 => ?_)
          obtain ⟨⟨x22, rfl⟩, h24⟩ := h24
          obtain rfl : M0 = M23 := (li_fr_none h24).symm
          exact l2_iret dX11_thing_123 rfl rfl ⟨⟨_, rfl⟩, hf⟩
        · refine ⟨92, 124, by rw [c9]; rfl, by decide, ?_⟩
          refine l2_aload_n 0 dX11_thing_124 rfl ?_
          refine l2_getr (k := 2) (N := 13) (T := TX11) (C0 := RX11) dX11_thing_125 (by decide) sh_0 rfl rfl (by decide) (by decide) li_in11 w_475 ?_
          refine l2_getr (k := 8) (N := 9) (T := TX8) (C0 := RX8) dX11_thing_128 (by decide) sh_5 rfl rfl (by decide) (by decide) li_in8 w_202 ?_
          refine l2_iload_n 1 dX11_thing_131 rfl ?_
          refine l2_callS (n := 2) (As := [.ref (Z.2.2 12), .int p1]) dX11_thing_132 (k_X11_at (d - 1) (by omega) (by decide) sh_12 (by decide) p1 M0) (by omega) (Nat.le_of_ble_eq_true rfl) w_763 w_569 w_101 w_570 (by decide +kernel) rfl rfl (Nat.le_of_ble_eq_true rfl) (fun r M26 h27 => ?_)
          obtain ⟨⟨x25, rfl⟩, h27⟩ := h27
          obtain rfl : M0 = M26 := (li_fr_none h27).symm
          exact l2_iret dX11_thing_135 rfl rfl ⟨⟨_, rfl⟩, hf⟩
        · refine ⟨104, 136, by rw [c9]; rfl, by decide, ?_⟩
          refine l2_aload_n 0 dX11_thing_136 rfl ?_
          refine l2_getr (k := 3) (N := 13) (T := TX11) (C0 := RX11) dX11_thing_137 (by decide) sh_0 rfl rfl (by decide) (by decide) li_in11 w_476 ?_
          refine l2_geti (k := 1) (N := 11) (T := TX4) (C0 := RX4) dX11_thing_140 (by decide) sh_13 rfl rfl (by decide) li_in4 w_233 ?_
          refine l2_top (fun x28 ex28 => ?_)
          refine l2_iload_n 1 dX11_thing_143 rfl ?_
          refine l2_callS (n := 2) (As := [.int x28, .int p1]) dX11_thing_144 (k_X11_holds (d - 1) (by omega) x28 p1 M0) (by omega) (Nat.le_of_ble_eq_true rfl) w_856 w_857 w_101 w_858 (by decide +kernel) rfl rfl (Nat.le_of_ble_eq_true rfl) (fun r M30 h31 => ?_)
          obtain ⟨⟨x29, rfl, bx29⟩, h31⟩ := h31
          obtain rfl : M0 = M30 := (li_fr_none h31).symm
          refine l2_if_eq 154 dX11_thing_147 (by decide) (fun c32 => ?_) (fun c32 => ?_)
          · refine l2_iconst 0 dX11_thing_154 (by decide) ?_
            exact l2_iret dX11_thing_155 rfl rfl ⟨⟨_, rfl⟩, hf⟩
          · refine l2_iconst 1 dX11_thing_150 (by decide) ?_
            refine l2_goto 155 dX11_thing_151 (by decide) ?_
            exact l2_iret dX11_thing_155 rfl rfl ⟨⟨_, rfl⟩, hf⟩
        · refine ⟨124, 156, by rw [c9]; rfl, by decide, ?_⟩
          refine l2_aload_n 0 dX11_thing_156 rfl ?_
          refine l2_getr (k := 2) (N := 13) (T := TX11) (C0 := RX11) dX11_thing_157 (by decide) sh_0 rfl rfl (by decide) (by decide) li_in11 w_475 ?_
          refine l2_iload_n 1 dX11_thing_160 rfl ?_
          refine l2_callV (n := 1) (As := [.int p1]) dX11_thing_161 (k_X8_apartFor (d - 1) (by omega) p1 M0) (by omega) (Nat.le_of_ble_eq_true rfl) w_1379 w_793 w_794 w_104 w_795 (by decide +kernel) rfl (by decide) sh_5 rfl rfl (Nat.le_of_ble_eq_true rfl) (fun r M34 h35 => ?_)
          obtain ⟨⟨x33, rfl⟩, h35⟩ := h35
          obtain rfl : M0 = M34 := (li_fr_none h35).symm
          exact l2_iret dX11_thing_164 rfl rfl ⟨⟨_, rfl⟩, hf⟩
    · exact l2_throw (by omega) rfl rfl w_1303 w_122 (fun s V => V.2.2.2.2.1) dX11_thing_21 dX11_thing_24 dX11_thing_25 dX11_thing_27 dX11_thing_30 (by decide)
set_option maxRecDepth 100000 in
set_option maxHeartbeats 4000000 in
theorem k_X11_loan {l : Launch} {Z : li_Z} (d : Nat) (hd : 6 ≤ d) (htr : l.stackTraces = false) (p1 p2 : Int32) (M0 : li_M) : l2_Met l Z YX11_loan d [.ref (Z.2.2 0), .int p1, .int p2] M0 (li_SI (fun i => False) M0) := by
  refine l2_enter htr (by decide +kernel) (Nat.le_of_ble_eq_true rfl) ?_
  show l2_T l Z YX11_loan d M0 0 [(0, .ref (Z.2.2 0)), (1, .int p1), (2, .int p2)] [] M0 _
  have hf : li_fr (fun i => False) M0 M0 := li_fr_refl
  refine l2_iload_n 1 dX11_loan_0 rfl ?_
  refine l2_iconst 0 dX11_loan_1 (by decide) ?_
  refine l2_aload_n 0 dX11_loan_2 rfl ?_
  refine l2_getr (k := 3) (N := 13) (T := TX11) (C0 := RX11) dX11_loan_3 (by decide) sh_0 rfl rfl (by decide) (by decide) li_in11 w_476 ?_
  refine l2_geti (k := 2) (N := 11) (T := TX4) (C0 := RX4) dX11_loan_6 (by decide) sh_13 rfl rfl (by decide) li_in4 w_236 ?_
  refine l2_top (fun x1 ex1 => ?_)
  refine l2_iconst 1 dX11_loan_9 (by decide) ?_
  refine l2_isub dX11_loan_10 ?_
  refine l2_top (fun x2 ex2 => ?_)
  refine l2_callS (n := 3) (As := [.int p1, .int 0, .int x2]) dX11_loan_11 (k_X11_within (d - 1) (by omega) p1 0 x2 M0) (by omega) (Nat.le_of_ble_eq_true rfl) w_762 w_639 w_101 w_640 (by decide +kernel) rfl rfl (Nat.le_of_ble_eq_true rfl) (fun r M4 h5 => ?_)
  obtain ⟨⟨x3, rfl, bx3, qx3⟩, h5⟩ := h5
  obtain rfl : M0 = M4 := (li_fr_none h5).symm
  refine l2_if_eq 26 dX11_loan_14 (by decide) (fun c6 => ?_) (fun c6 => ?_)
  · exact l2_throw (by omega) rfl rfl w_1303 w_122 (fun s V => V.2.2.2.2.2.1) dX11_loan_26 dX11_loan_29 dX11_loan_30 dX11_loan_32 dX11_loan_35 (by decide)
  · refine l2_iload_n 2 dX11_loan_17 rfl ?_
    refine l2_iconst 0 dX11_loan_18 (by decide) ?_
    refine l2_iconst 4 dX11_loan_19 (by decide) ?_
    refine l2_callS (n := 3) (As := [.int p2, .int 0, .int 4]) dX11_loan_20 (k_X11_within (d - 1) (by omega) p2 0 4 M0) (by omega) (Nat.le_of_ble_eq_true rfl) w_762 w_639 w_101 w_640 (by decide +kernel) rfl rfl (Nat.le_of_ble_eq_true rfl) (fun r M8 h9 => ?_)
    obtain ⟨⟨x7, rfl, bx7, qx7⟩, h9⟩ := h9
    obtain rfl : M0 = M8 := (li_fr_none h9).symm
    refine l2_if_ne 36 dX11_loan_23 (by decide) (fun c10 => ?_) (fun c10 => ?_)
    · refine l2_iload_n 2 dX11_loan_36 rfl ?_
      refine l2_table dX11_loan_37 117 (by decide) (fun c11 => ?_) (fun c11a c11b => ?_)
      · refine l2_aload_n 0 dX11_loan_117 rfl ?_
        refine l2_getr (k := 3) (N := 13) (T := TX11) (C0 := RX11) dX11_loan_118 (by decide) sh_0 rfl rfl (by decide) (by decide) li_in11 w_476 ?_
        refine l2_geti (k := 3) (N := 11) (T := TX4) (C0 := RX4) dX11_loan_121 (by decide) sh_13 rfl rfl (by decide) li_in4 w_238 ?_
        refine l2_top (fun x12 ex12 => ?_)
        refine l2_iload_n 1 dX11_loan_124 rfl ?_
        refine l2_callS (n := 2) (As := [.int x12, .int p1]) dX11_loan_125 (k_X11_holds (d - 1) (by omega) x12 p1 M0) (by omega) (Nat.le_of_ble_eq_true rfl) w_856 w_857 w_101 w_858 (by decide +kernel) rfl rfl (Nat.le_of_ble_eq_true rfl) (fun r M14 h15 => ?_)
        obtain ⟨⟨x13, rfl, bx13⟩, h15⟩ := h15
        obtain rfl : M0 = M14 := (li_fr_none h15).symm
        refine l2_if_eq 135 dX11_loan_128 (by decide) (fun c16 => ?_) (fun c16 => ?_)
        · refine l2_iconst 0 dX11_loan_135 (by decide) ?_
          exact l2_iret dX11_loan_136 rfl rfl ⟨⟨_, rfl⟩, hf⟩
        · refine l2_iconst 1 dX11_loan_131 (by decide) ?_
          refine l2_goto 136 dX11_loan_132 (by decide) ?_
          exact l2_iret dX11_loan_136 rfl rfl ⟨⟨_, rfl⟩, hf⟩
      · rcases (show (p2 : Int32).toInt = 0 ∨ (p2 : Int32).toInt = 1 ∨ (p2 : Int32).toInt = 2 ∨ (p2 : Int32).toInt = 3 by omega) with c11 | c11 | c11 | c11
        · refine ⟨31, 68, by rw [c11]; rfl, by decide, ?_⟩
          refine l2_aload_n 0 dX11_loan_68 rfl ?_
          refine l2_getr (k := 3) (N := 13) (T := TX11) (C0 := RX11) dX11_loan_69 (by decide) sh_0 rfl rfl (by decide) (by decide) li_in11 w_476 ?_
          refine l2_getr (k := 7) (N := 11) (T := TX4) (C0 := RX4) dX11_loan_72 (by decide) sh_13 rfl rfl (by decide) (by decide) li_in4 w_249 ?_
          refine l2_iload_n 1 dX11_loan_75 rfl ?_
          refine l2_callS (n := 2) (As := [.ref (Z.2.2 17), .int p1]) dX11_loan_76 (k_X11_at (d - 1) (by omega) (by decide) sh_17 (by decide) p1 M0) (by omega) (Nat.le_of_ble_eq_true rfl) w_763 w_569 w_101 w_570 (by decide +kernel) rfl rfl (Nat.le_of_ble_eq_true rfl) (fun r M18 h19 => ?_)
          obtain ⟨⟨x17, rfl⟩, h19⟩ := h19
          obtain rfl : M0 = M18 := (li_fr_none h19).symm
          exact l2_iret dX11_loan_79 rfl rfl ⟨⟨_, rfl⟩, hf⟩
        · refine ⟨43, 80, by rw [c11]; rfl, by decide, ?_⟩
          refine l2_aload_n 0 dX11_loan_80 rfl ?_
          refine l2_getr (k := 3) (N := 13) (T := TX11) (C0 := RX11) dX11_loan_81 (by decide) sh_0 rfl rfl (by decide) (by decide) li_in11 w_476 ?_
          refine l2_getr (k := 8) (N := 11) (T := TX4) (C0 := RX4) dX11_loan_84 (by decide) sh_13 rfl rfl (by decide) (by decide) li_in4 w_251 ?_
          refine l2_iload_n 1 dX11_loan_87 rfl ?_
          refine l2_callS (n := 2) (As := [.ref (Z.2.2 18), .int p1]) dX11_loan_88 (k_X11_at (d - 1) (by omega) (by decide) sh_18 (by decide) p1 M0) (by omega) (Nat.le_of_ble_eq_true rfl) w_763 w_569 w_101 w_570 (by decide +kernel) rfl rfl (Nat.le_of_ble_eq_true rfl) (fun r M21 h22 => ?_)
          obtain ⟨⟨x20, rfl⟩, h22⟩ := h22
          obtain rfl : M0 = M21 := (li_fr_none h22).symm
          exact l2_iret dX11_loan_91 rfl rfl ⟨⟨_, rfl⟩, hf⟩
        · refine ⟨55, 92, by rw [c11]; rfl, by decide, ?_⟩
          refine l2_aload_n 0 dX11_loan_92 rfl ?_
          refine l2_getr (k := 3) (N := 13) (T := TX11) (C0 := RX11) dX11_loan_93 (by decide) sh_0 rfl rfl (by decide) (by decide) li_in11 w_476 ?_
          refine l2_getr (k := 10) (N := 11) (T := TX4) (C0 := RX4) dX11_loan_96 (by decide) sh_13 rfl rfl (by decide) (by decide) li_in4 w_255 ?_
          refine l2_iload_n 1 dX11_loan_99 rfl ?_
          refine l2_callS (n := 2) (As := [.ref (Z.2.2 20), .int p1]) dX11_loan_100 (k_X11_wordAt (d - 1) (by omega) (by decide) sh_20 (by decide) p1 M0) (by omega) (Nat.le_of_ble_eq_true rfl) w_1370 w_919 w_101 w_920 (by decide +kernel) rfl rfl (Nat.le_of_ble_eq_true rfl) (fun r M24 h25 => ?_)
          obtain ⟨⟨x23, rfl⟩, h25⟩ := h25
          obtain rfl : M0 = M24 := (li_fr_none h25).symm
          refine l2_l2i dX11_loan_103 ?_
          refine l2_top (fun x26 ex26 => ?_)
          exact l2_iret dX11_loan_104 rfl rfl ⟨⟨_, rfl⟩, hf⟩
        · refine ⟨68, 105, by rw [c11]; rfl, by decide, ?_⟩
          refine l2_aload_n 0 dX11_loan_105 rfl ?_
          refine l2_getr (k := 3) (N := 13) (T := TX11) (C0 := RX11) dX11_loan_106 (by decide) sh_0 rfl rfl (by decide) (by decide) li_in11 w_476 ?_
          refine l2_getr (k := 9) (N := 11) (T := TX4) (C0 := RX4) dX11_loan_109 (by decide) sh_13 rfl rfl (by decide) (by decide) li_in4 w_253 ?_
          refine l2_iload_n 1 dX11_loan_112 rfl ?_
          refine l2_callS (n := 2) (As := [.ref (Z.2.2 19), .int p1]) dX11_loan_113 (k_X11_at (d - 1) (by omega) (by decide) sh_19 (by decide) p1 M0) (by omega) (Nat.le_of_ble_eq_true rfl) w_763 w_569 w_101 w_570 (by decide +kernel) rfl rfl (Nat.le_of_ble_eq_true rfl) (fun r M28 h29 => ?_)
          obtain ⟨⟨x27, rfl⟩, h29⟩ := h29
          obtain rfl : M0 = M28 := (li_fr_none h29).symm
          exact l2_iret dX11_loan_116 rfl rfl ⟨⟨_, rfl⟩, hf⟩
    · exact l2_throw (by omega) rfl rfl w_1303 w_122 (fun s V => V.2.2.2.2.2.1) dX11_loan_26 dX11_loan_29 dX11_loan_30 dX11_loan_32 dX11_loan_35 (by decide)
set_option maxRecDepth 100000 in
set_option maxHeartbeats 4000000 in
theorem k_X11_row {l : Launch} {Z : li_Z} (d : Nat) (hd : 6 ≤ d) (htr : l.stackTraces = false) (p1 : Int32) (M0 : li_M) : l2_Met l Z YX11_row d [.ref (Z.2.2 0), .int p1] M0 (li_SI (fun i => False) M0) := by
  refine l2_enter htr (by decide +kernel) (Nat.le_of_ble_eq_true rfl) ?_
  show l2_T l Z YX11_row d M0 0 [(0, .ref (Z.2.2 0)), (1, .int p1)] [] M0 _
  have hf : li_fr (fun i => False) M0 M0 := li_fr_refl
  refine l2_iload_n 1 dX11_row_0 rfl ?_
  refine l2_iconst 0 dX11_row_1 (by decide) ?_
  refine l2_aload_n 0 dX11_row_2 rfl ?_
  refine l2_getr (k := 1) (N := 13) (T := TX11) (C0 := RX11) dX11_row_3 (by decide) sh_0 rfl rfl (by decide) (by decide) li_in11 w_474 ?_
  refine l2_geti (k := 1) (N := 2) (T := TX5) (C0 := RX5) dX11_row_6 (by decide) sh_3 rfl rfl (by decide) li_in5 w_162 ?_
  refine l2_top (fun x1 ex1 => ?_)
  refine l2_iconst 1 dX11_row_9 (by decide) ?_
  refine l2_isub dX11_row_10 ?_
  refine l2_top (fun x2 ex2 => ?_)
  refine l2_callS (n := 3) (As := [.int p1, .int 0, .int x2]) dX11_row_11 (k_X11_within (d - 1) (by omega) p1 0 x2 M0) (by omega) (Nat.le_of_ble_eq_true rfl) w_762 w_639 w_101 w_640 (by decide +kernel) rfl rfl (Nat.le_of_ble_eq_true rfl) (fun r M4 h5 => ?_)
  obtain ⟨⟨x3, rfl, bx3, qx3⟩, h5⟩ := h5
  obtain rfl : M0 = M4 := (li_fr_none h5).symm
  refine l2_if_ne 28 dX11_row_14 (by decide) (fun c6 => ?_) (fun c6 => ?_)
  · refine l2_aload_n 0 dX11_row_28 rfl ?_
    refine l2_getr (k := 1) (N := 13) (T := TX11) (C0 := RX11) dX11_row_29 (by decide) sh_0 rfl rfl (by decide) (by decide) li_in11 w_474 ?_
    refine l2_getr (k := 0) (N := 2) (T := TX5) (C0 := RX5) dX11_row_32 (by decide) sh_3 rfl rfl (by decide) (by decide) li_in5 w_160 ?_
    refine l2_iload_n 1 dX11_row_35 rfl ?_
    refine l2_callS (n := 2) (As := [.ref (Z.2.2 4), .int p1]) dX11_row_36 (k_X11_at (d - 1) (by omega) (by decide) sh_4 (by decide) p1 M0) (by omega) (Nat.le_of_ble_eq_true rfl) w_763 w_569 w_101 w_570 (by decide +kernel) rfl rfl (Nat.le_of_ble_eq_true rfl) (fun r M8 h9 => ?_)
    obtain ⟨⟨x7, rfl⟩, h9⟩ := h9
    obtain rfl : M0 = M8 := (li_fr_none h9).symm
    exact l2_iret dX11_row_39 rfl rfl ⟨⟨_, rfl⟩, hf⟩
  · exact l2_throwW (by omega) rfl rfl w_1303 w_122 (fun s V => V.2.2.2.2.2.2) dX11_row_17 dX11_row_20 dX11_row_21 dX11_row_24 dX11_row_27 (by decide)
