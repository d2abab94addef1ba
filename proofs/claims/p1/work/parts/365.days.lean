theorem w_75 : (Jvm.Cond.selects "ClockForTalkModel" ({ cls := "ClockForTalkModel", name := "goDays", desc := "([II)V" } : Jvm.MethodName) ({ cls := "ClockForTalkModel", name := "goDays", desc := "([II)V" } : Jvm.MethodName)) ∈ li_ws := li_mem 75 (by decide +kernel) (by decide +kernel)
theorem w_76 : (Jvm.Cond.selects "ClockForTalkModel" ({ cls := "ClockForTalkModel", name := "goDay", desc := "([I)V" } : Jvm.MethodName) ({ cls := "ClockForTalkModel", name := "goDay", desc := "([I)V" } : Jvm.MethodName)) ∈ li_ws := li_mem 76 (by decide +kernel) (by decide +kernel)
theorem w_77 : (Jvm.Cond.selects "ClockForTalkModel" ({ cls := "ClockForTalkModel", name := "tell", desc := "(I)V" } : Jvm.MethodName) ({ cls := "ClockForTalkModel", name := "tell", desc := "(I)V" } : Jvm.MethodName)) ∈ li_ws := li_mem 77 (by decide +kernel) (by decide +kernel)
theorem w_1429 : (Jvm.Cond.fieldLink "ClockForTalkModel" (295 : Nat) "ClockForTalkModel" "endedMany" "I") ∈ li_ws := li_mem 1429 (by decide +kernel) (by decide +kernel)
theorem w_1430 : (Jvm.Cond.fieldLink "ClockForTalkModel" (298 : Nat) "ClockForTalkModel" "lostAll" "I") ∈ li_ws := li_mem 1430 (by decide +kernel) (by decide +kernel)
theorem w_1779 : (Jvm.Cond.methodLink "ClockForTalkModel" (304 : Nat) ({ cls := "ClockForTalkModel", name := "goDays", desc := "([II)V" } : Jvm.MethodName)) ∈ li_ws := li_mem 1779 (by decide +kernel) (by decide +kernel)
theorem w_1781 : (Jvm.Cond.instanceMethod ({ cls := "ClockForTalkModel", name := "goDays", desc := "([II)V" } : Jvm.MethodName)) ∈ li_ws := li_mem 1781 (by decide +kernel) (by decide +kernel)
theorem w_1782 : (Jvm.Cond.code ({ cls := "ClockForTalkModel", name := "goDays", desc := "([II)V" } : Jvm.MethodName) prog_13_method_60_code (4 : Nat) (Option.none : Option Jvm.ClassFile.FieldType)) ∈ li_ws := li_mem 1782 (by decide +kernel) (by decide +kernel)
theorem w_1783 : (Jvm.Cond.methodLink "ClockForTalkModel" (301 : Nat) ({ cls := "ClockForTalkModel", name := "goDay", desc := "([I)V" } : Jvm.MethodName)) ∈ li_ws := li_mem 1783 (by decide +kernel) (by decide +kernel)
theorem w_1785 : (Jvm.Cond.instanceMethod ({ cls := "ClockForTalkModel", name := "goDay", desc := "([I)V" } : Jvm.MethodName)) ∈ li_ws := li_mem 1785 (by decide +kernel) (by decide +kernel)
theorem w_1786 : (Jvm.Cond.code ({ cls := "ClockForTalkModel", name := "goDay", desc := "([I)V" } : Jvm.MethodName) prog_13_method_59_code (5 : Nat) (Option.none : Option Jvm.ClassFile.FieldType)) ∈ li_ws := li_mem 1786 (by decide +kernel) (by decide +kernel)
theorem w_1787 : (Jvm.Cond.methodLink "ClockForTalkModel" (308 : Nat) ({ cls := "ClockForTalkModel", name := "tell", desc := "(I)V" } : Jvm.MethodName)) ∈ li_ws := li_mem 1787 (by decide +kernel) (by decide +kernel)
theorem w_1789 : (Jvm.Cond.instanceMethod ({ cls := "ClockForTalkModel", name := "tell", desc := "(I)V" } : Jvm.MethodName)) ∈ li_ws := li_mem 1789 (by decide +kernel) (by decide +kernel)
theorem w_1790 : (Jvm.Cond.code ({ cls := "ClockForTalkModel", name := "tell", desc := "(I)V" } : Jvm.MethodName) prog_13_method_6_code (2 : Nat) (Option.none : Option Jvm.ClassFile.FieldType)) ∈ li_ws := li_mem 1790 (by decide +kernel) (by decide +kernel)
theorem dX12_goDay_0 : decode cX12_goDay 0 = .ok (.aload_n 1, 1) := by decide +kernel
theorem dX12_goDay_1 : decode cX12_goDay 1 = .ok (.bipush 19, 2) := by decide +kernel
theorem dX12_goDay_3 : decode cX12_goDay 3 = .ok (.dup2, 1) := by decide +kernel
theorem dX12_goDay_4 : decode cX12_goDay 4 = .ok (.iaload, 1) := by decide +kernel
theorem dX12_goDay_5 : decode cX12_goDay 5 = .ok (.iconst 1, 1) := by decide +kernel
theorem dX12_goDay_6 : decode cX12_goDay 6 = .ok (.iadd, 1) := by decide +kernel
theorem dX12_goDay_7 : decode cX12_goDay 7 = .ok (.iastore, 1) := by decide +kernel
theorem dX12_goDay_8 : decode cX12_goDay 8 = .ok (.iconst 0, 1) := by decide +kernel
theorem dX12_goDay_9 : decode cX12_goDay 9 = .ok (.istore_n 2, 1) := by decide +kernel
theorem dX12_goDay_10 : decode cX12_goDay 10 = .ok (.iload_n 2, 1) := by decide +kernel
theorem dX12_goDay_11 : decode cX12_goDay 11 = .ok (.aload_n 1, 1) := by decide +kernel
theorem dX12_goDay_12 : decode cX12_goDay 12 = .ok (.bipush 20, 2) := by decide +kernel
theorem dX12_goDay_14 : decode cX12_goDay 14 = .ok (.iaload, 1) := by decide +kernel
theorem dX12_goDay_15 : decode cX12_goDay 15 = .ok (.if_icmp .ge 50, 3) := by decide +kernel
theorem dX12_goDay_18 : decode cX12_goDay 18 = .ok (.aload_n 1, 1) := by decide +kernel
theorem dX12_goDay_19 : decode cX12_goDay 19 = .ok (.bipush 19, 2) := by decide +kernel
theorem dX12_goDay_21 : decode cX12_goDay 21 = .ok (.iaload, 1) := by decide +kernel
theorem dX12_goDay_22 : decode cX12_goDay 22 = .ok (.bipush 30, 2) := by decide +kernel
theorem dX12_goDay_24 : decode cX12_goDay 24 = .ok (.irem, 1) := by decide +kernel
theorem dX12_goDay_25 : decode cX12_goDay 25 = .ok (.ifCond .ne 40, 3) := by decide +kernel
theorem dX12_goDay_28 : decode cX12_goDay 28 = .ok (.bipush 21, 2) := by decide +kernel
theorem dX12_goDay_30 : decode cX12_goDay 30 = .ok (.iconst 5, 1) := by decide +kernel
theorem dX12_goDay_31 : decode cX12_goDay 31 = .ok (.iload_n 2, 1) := by decide +kernel
theorem dX12_goDay_32 : decode cX12_goDay 32 = .ok (.imul, 1) := by decide +kernel
theorem dX12_goDay_33 : decode cX12_goDay 33 = .ok (.iadd, 1) := by decide +kernel
theorem dX12_goDay_34 : decode cX12_goDay 34 = .ok (.istore_n 3, 1) := by decide +kernel
theorem dX12_goDay_35 : decode cX12_goDay 35 = .ok (.aload_n 1, 1) := by decide +kernel
theorem dX12_goDay_36 : decode cX12_goDay 36 = .ok (.iload_n 3, 1) := by decide +kernel
theorem dX12_goDay_37 : decode cX12_goDay 37 = .ok (.iconst 4, 1) := by decide +kernel
theorem dX12_goDay_38 : decode cX12_goDay 38 = .ok (.iadd, 1) := by decide +kernel
theorem dX12_goDay_39 : decode cX12_goDay 39 = .ok (.iaload, 1) := by decide +kernel
theorem dX12_goDay_40 : decode cX12_goDay 40 = .ok (.ifCond .ne 19, 3) := by decide +kernel
theorem dX12_goDay_43 : decode cX12_goDay 43 = .ok (.aload_n 1, 1) := by decide +kernel
theorem dX12_goDay_44 : decode cX12_goDay 44 = .ok (.iload_n 3, 1) := by decide +kernel
theorem dX12_goDay_45 : decode cX12_goDay 45 = .ok (.iconst 2, 1) := by decide +kernel
theorem dX12_goDay_46 : decode cX12_goDay 46 = .ok (.iadd, 1) := by decide +kernel
theorem dX12_goDay_47 : decode cX12_goDay 47 = .ok (.dup2, 1) := by decide +kernel
theorem dX12_goDay_48 : decode cX12_goDay 48 = .ok (.iaload, 1) := by decide +kernel
theorem dX12_goDay_49 : decode cX12_goDay 49 = .ok (.aload_n 1, 1) := by decide +kernel
theorem dX12_goDay_50 : decode cX12_goDay 50 = .ok (.iload_n 3, 1) := by decide +kernel
theorem dX12_goDay_51 : decode cX12_goDay 51 = .ok (.iconst 2, 1) := by decide +kernel
theorem dX12_goDay_52 : decode cX12_goDay 52 = .ok (.iadd, 1) := by decide +kernel
theorem dX12_goDay_53 : decode cX12_goDay 53 = .ok (.iaload, 1) := by decide +kernel
theorem dX12_goDay_54 : decode cX12_goDay 54 = .ok (.bipush 10, 2) := by decide +kernel
theorem dX12_goDay_56 : decode cX12_goDay 56 = .ok (.idiv, 1) := by decide +kernel
theorem dX12_goDay_57 : decode cX12_goDay 57 = .ok (.iadd, 1) := by decide +kernel
theorem dX12_goDay_58 : decode cX12_goDay 58 = .ok (.iastore, 1) := by decide +kernel
theorem dX12_goDay_59 : decode cX12_goDay 59 = .ok (.iinc 2 1, 3) := by decide +kernel
theorem dX12_goDay_62 : decode cX12_goDay 62 = .ok (.goto (-52), 3) := by decide +kernel
theorem dX12_goDay_65 : decode cX12_goDay 65 = .ok (.iconst 0, 1) := by decide +kernel
theorem dX12_goDay_66 : decode cX12_goDay 66 = .ok (.istore_n 2, 1) := by decide +kernel
theorem dX12_goDay_67 : decode cX12_goDay 67 = .ok (.iload_n 2, 1) := by decide +kernel
theorem dX12_goDay_68 : decode cX12_goDay 68 = .ok (.aload_n 1, 1) := by decide +kernel
theorem dX12_goDay_69 : decode cX12_goDay 69 = .ok (.bipush 20, 2) := by decide +kernel
theorem dX12_goDay_71 : decode cX12_goDay 71 = .ok (.iaload, 1) := by decide +kernel
theorem dX12_goDay_72 : decode cX12_goDay 72 = .ok (.if_icmp .ge 124, 3) := by decide +kernel
theorem dX12_goDay_75 : decode cX12_goDay 75 = .ok (.bipush 21, 2) := by decide +kernel
theorem dX12_goDay_77 : decode cX12_goDay 77 = .ok (.iconst 5, 1) := by decide +kernel
theorem dX12_goDay_78 : decode cX12_goDay 78 = .ok (.iload_n 2, 1) := by decide +kernel
theorem dX12_goDay_79 : decode cX12_goDay 79 = .ok (.imul, 1) := by decide +kernel
theorem dX12_goDay_80 : decode cX12_goDay 80 = .ok (.iadd, 1) := by decide +kernel
theorem dX12_goDay_81 : decode cX12_goDay 81 = .ok (.istore_n 3, 1) := by decide +kernel
theorem dX12_goDay_82 : decode cX12_goDay 82 = .ok (.aload_n 1, 1) := by decide +kernel
theorem dX12_goDay_83 : decode cX12_goDay 83 = .ok (.iload_n 3, 1) := by decide +kernel
theorem dX12_goDay_84 : decode cX12_goDay 84 = .ok (.iconst 4, 1) := by decide +kernel
theorem dX12_goDay_85 : decode cX12_goDay 85 = .ok (.iadd, 1) := by decide +kernel
theorem dX12_goDay_86 : decode cX12_goDay 86 = .ok (.iaload, 1) := by decide +kernel
theorem dX12_goDay_87 : decode cX12_goDay 87 = .ok (.iconst 1, 1) := by decide +kernel
theorem dX12_goDay_88 : decode cX12_goDay 88 = .ok (.if_icmp .eq 102, 3) := by decide +kernel
theorem dX12_goDay_91 : decode cX12_goDay 91 = .ok (.aload_n 1, 1) := by decide +kernel
theorem dX12_goDay_92 : decode cX12_goDay 92 = .ok (.iload_n 3, 1) := by decide +kernel
theorem dX12_goDay_93 : decode cX12_goDay 93 = .ok (.iconst 3, 1) := by decide +kernel
theorem dX12_goDay_94 : decode cX12_goDay 94 = .ok (.iadd, 1) := by decide +kernel
theorem dX12_goDay_95 : decode cX12_goDay 95 = .ok (.iaload, 1) := by decide +kernel
theorem dX12_goDay_96 : decode cX12_goDay 96 = .ok (.aload_n 1, 1) := by decide +kernel
theorem dX12_goDay_97 : decode cX12_goDay 97 = .ok (.bipush 19, 2) := by decide +kernel
theorem dX12_goDay_99 : decode cX12_goDay 99 = .ok (.iaload, 1) := by decide +kernel
theorem dX12_goDay_100 : decode cX12_goDay 100 = .ok (.if_icmp .eq 6, 3) := by decide +kernel
theorem dX12_goDay_103 : decode cX12_goDay 103 = .ok (.goto 87, 3) := by decide +kernel
theorem dX12_goDay_106 : decode cX12_goDay 106 = .ok (.aload_n 1, 1) := by decide +kernel
theorem dX12_goDay_107 : decode cX12_goDay 107 = .ok (.iload_n 3, 1) := by decide +kernel
theorem dX12_goDay_108 : decode cX12_goDay 108 = .ok (.iconst 2, 1) := by decide +kernel
theorem dX12_goDay_109 : decode cX12_goDay 109 = .ok (.iadd, 1) := by decide +kernel
theorem dX12_goDay_110 : decode cX12_goDay 110 = .ok (.iaload, 1) := by decide +kernel
theorem dX12_goDay_111 : decode cX12_goDay 111 = .ok (.aload_n 1, 1) := by decide +kernel
theorem dX12_goDay_112 : decode cX12_goDay 112 = .ok (.aload_n 1, 1) := by decide +kernel
theorem dX12_goDay_113 : decode cX12_goDay 113 = .ok (.iload_n 3, 1) := by decide +kernel
theorem dX12_goDay_114 : decode cX12_goDay 114 = .ok (.iconst 1, 1) := by decide +kernel
theorem dX12_goDay_115 : decode cX12_goDay 115 = .ok (.iadd, 1) := by decide +kernel
theorem dX12_goDay_116 : decode cX12_goDay 116 = .ok (.iaload, 1) := by decide +kernel
theorem dX12_goDay_117 : decode cX12_goDay 117 = .ok (.iaload, 1) := by decide +kernel
theorem dX12_goDay_118 : decode cX12_goDay 118 = .ok (.invokestatic 208, 3) := by decide +kernel
theorem dX12_goDay_121 : decode cX12_goDay 121 = .ok (.istore 4, 2) := by decide +kernel
theorem dX12_goDay_123 : decode cX12_goDay 123 = .ok (.aload_n 1, 1) := by decide +kernel
theorem dX12_goDay_124 : decode cX12_goDay 124 = .ok (.aload_n 1, 1) := by decide +kernel
theorem dX12_goDay_125 : decode cX12_goDay 125 = .ok (.iload_n 3, 1) := by decide +kernel
theorem dX12_goDay_126 : decode cX12_goDay 126 = .ok (.iconst 1, 1) := by decide +kernel
theorem dX12_goDay_127 : decode cX12_goDay 127 = .ok (.iadd, 1) := by decide +kernel
theorem dX12_goDay_128 : decode cX12_goDay 128 = .ok (.iaload, 1) := by decide +kernel
theorem dX12_goDay_129 : decode cX12_goDay 129 = .ok (.aload_n 1, 1) := by decide +kernel
theorem dX12_goDay_130 : decode cX12_goDay 130 = .ok (.iload_n 3, 1) := by decide +kernel
theorem dX12_goDay_131 : decode cX12_goDay 131 = .ok (.iaload, 1) := by decide +kernel
theorem dX12_goDay_132 : decode cX12_goDay 132 = .ok (.iload 4, 2) := by decide +kernel
theorem dX12_goDay_134 : decode cX12_goDay 134 = .ok (.invokestatic 292, 3) := by decide +kernel
theorem dX12_goDay_137 : decode cX12_goDay 137 = .ok (.pop, 1) := by decide +kernel
theorem dX12_goDay_138 : decode cX12_goDay 138 = .ok (.aload_n 1, 1) := by decide +kernel
theorem dX12_goDay_139 : decode cX12_goDay 139 = .ok (.iload_n 3, 1) := by decide +kernel
theorem dX12_goDay_140 : decode cX12_goDay 140 = .ok (.iconst 4, 1) := by decide +kernel
theorem dX12_goDay_141 : decode cX12_goDay 141 = .ok (.iadd, 1) := by decide +kernel
theorem dX12_goDay_142 : decode cX12_goDay 142 = .ok (.iconst 1, 1) := by decide +kernel
theorem dX12_goDay_143 : decode cX12_goDay 143 = .ok (.iastore, 1) := by decide +kernel
theorem dX12_goDay_144 : decode cX12_goDay 144 = .ok (.aload_n 1, 1) := by decide +kernel
theorem dX12_goDay_145 : decode cX12_goDay 145 = .ok (.bipush 12, 2) := by decide +kernel
theorem dX12_goDay_147 : decode cX12_goDay 147 = .ok (.aload_n 1, 1) := by decide +kernel
theorem dX12_goDay_148 : decode cX12_goDay 148 = .ok (.iload_n 3, 1) := by decide +kernel
theorem dX12_goDay_149 : decode cX12_goDay 149 = .ok (.iaload, 1) := by decide +kernel
theorem dX12_goDay_150 : decode cX12_goDay 150 = .ok (.iadd, 1) := by decide +kernel
theorem dX12_goDay_151 : decode cX12_goDay 151 = .ok (.dup2, 1) := by decide +kernel
theorem dX12_goDay_152 : decode cX12_goDay 152 = .ok (.iaload, 1) := by decide +kernel
theorem dX12_goDay_153 : decode cX12_goDay 153 = .ok (.aload_n 1, 1) := by decide +kernel
theorem dX12_goDay_154 : decode cX12_goDay 154 = .ok (.iload_n 3, 1) := by decide +kernel
theorem dX12_goDay_155 : decode cX12_goDay 155 = .ok (.iconst 2, 1) := by decide +kernel
theorem dX12_goDay_156 : decode cX12_goDay 156 = .ok (.iadd, 1) := by decide +kernel
theorem dX12_goDay_157 : decode cX12_goDay 157 = .ok (.iaload, 1) := by decide +kernel
theorem dX12_goDay_158 : decode cX12_goDay 158 = .ok (.iload 4, 2) := by decide +kernel
theorem dX12_goDay_160 : decode cX12_goDay 160 = .ok (.isub, 1) := by decide +kernel
theorem dX12_goDay_161 : decode cX12_goDay 161 = .ok (.iadd, 1) := by decide +kernel
theorem dX12_goDay_162 : decode cX12_goDay 162 = .ok (.iastore, 1) := by decide +kernel
theorem dX12_goDay_163 : decode cX12_goDay 163 = .ok (.aload_n 0, 1) := by decide +kernel
theorem dX12_goDay_164 : decode cX12_goDay 164 = .ok (.dup, 1) := by decide +kernel
theorem dX12_goDay_165 : decode cX12_goDay 165 = .ok (.getfield 295, 3) := by decide +kernel
theorem dX12_goDay_168 : decode cX12_goDay 168 = .ok (.iconst 1, 1) := by decide +kernel
theorem dX12_goDay_169 : decode cX12_goDay 169 = .ok (.iadd, 1) := by decide +kernel
theorem dX12_goDay_170 : decode cX12_goDay 170 = .ok (.putfield 295, 3) := by decide +kernel
theorem dX12_goDay_173 : decode cX12_goDay 173 = .ok (.aload_n 0, 1) := by decide +kernel
theorem dX12_goDay_174 : decode cX12_goDay 174 = .ok (.dup, 1) := by decide +kernel
theorem dX12_goDay_175 : decode cX12_goDay 175 = .ok (.getfield 298, 3) := by decide +kernel
theorem dX12_goDay_178 : decode cX12_goDay 178 = .ok (.aload_n 1, 1) := by decide +kernel
theorem dX12_goDay_179 : decode cX12_goDay 179 = .ok (.iload_n 3, 1) := by decide +kernel
theorem dX12_goDay_180 : decode cX12_goDay 180 = .ok (.iconst 2, 1) := by decide +kernel
theorem dX12_goDay_181 : decode cX12_goDay 181 = .ok (.iadd, 1) := by decide +kernel
theorem dX12_goDay_182 : decode cX12_goDay 182 = .ok (.iaload, 1) := by decide +kernel
theorem dX12_goDay_183 : decode cX12_goDay 183 = .ok (.iload 4, 2) := by decide +kernel
theorem dX12_goDay_185 : decode cX12_goDay 185 = .ok (.isub, 1) := by decide +kernel
theorem dX12_goDay_186 : decode cX12_goDay 186 = .ok (.iadd, 1) := by decide +kernel
theorem dX12_goDay_187 : decode cX12_goDay 187 = .ok (.putfield 298, 3) := by decide +kernel
theorem dX12_goDay_190 : decode cX12_goDay 190 = .ok (.iinc 2 1, 3) := by decide +kernel
theorem dX12_goDay_193 : decode cX12_goDay 193 = .ok (.goto (-126), 3) := by decide +kernel
theorem dX12_goDay_196 : decode cX12_goDay 196 = .ok (.aload_n 1, 1) := by decide +kernel
theorem dX12_goDay_197 : decode cX12_goDay 197 = .ok (.bipush 19, 2) := by decide +kernel
theorem dX12_goDay_199 : decode cX12_goDay 199 = .ok (.iaload, 1) := by decide +kernel
theorem dX12_goDay_200 : decode cX12_goDay 200 = .ok (.bipush 100, 2) := by decide +kernel
theorem dX12_goDay_202 : decode cX12_goDay 202 = .ok (.irem, 1) := by decide +kernel
theorem dX12_goDay_203 : decode cX12_goDay 203 = .ok (.ifCond .eq 4, 3) := by decide +kernel
theorem dX12_goDay_206 : decode cX12_goDay 206 = .ok (.return_, 1) := by decide +kernel
theorem dX12_goDay_207 : decode cX12_goDay 207 = .ok (.iconst 0, 1) := by decide +kernel
theorem dX12_goDay_208 : decode cX12_goDay 208 = .ok (.istore_n 2, 1) := by decide +kernel
theorem dX12_goDay_209 : decode cX12_goDay 209 = .ok (.iload_n 2, 1) := by decide +kernel
theorem dX12_goDay_210 : decode cX12_goDay 210 = .ok (.aload_n 0, 1) := by decide +kernel
theorem dX12_goDay_211 : decode cX12_goDay 211 = .ok (.getfield 110, 3) := by decide +kernel
theorem dX12_goDay_214 : decode cX12_goDay 214 = .ok (.if_icmp .ge 25, 3) := by decide +kernel
theorem dX12_goDay_217 : decode cX12_goDay 217 = .ok (.aload_n 1, 1) := by decide +kernel
theorem dX12_goDay_218 : decode cX12_goDay 218 = .ok (.iload_n 2, 1) := by decide +kernel
theorem dX12_goDay_219 : decode cX12_goDay 219 = .ok (.aload_n 0, 1) := by decide +kernel
theorem dX12_goDay_220 : decode cX12_goDay 220 = .ok (.getfield 16, 3) := by decide +kernel
theorem dX12_goDay_223 : decode cX12_goDay 223 = .ok (.iload_n 2, 1) := by decide +kernel
theorem dX12_goDay_224 : decode cX12_goDay 224 = .ok (.iaload, 1) := by decide +kernel
theorem dX12_goDay_225 : decode cX12_goDay 225 = .ok (.iastore, 1) := by decide +kernel
theorem dX12_goDay_226 : decode cX12_goDay 226 = .ok (.aload_n 1, 1) := by decide +kernel
theorem dX12_goDay_227 : decode cX12_goDay 227 = .ok (.bipush 6, 2) := by decide +kernel
theorem dX12_goDay_229 : decode cX12_goDay 229 = .ok (.iload_n 2, 1) := by decide +kernel
theorem dX12_goDay_230 : decode cX12_goDay 230 = .ok (.iadd, 1) := by decide +kernel
theorem dX12_goDay_231 : decode cX12_goDay 231 = .ok (.iconst 0, 1) := by decide +kernel
theorem dX12_goDay_232 : decode cX12_goDay 232 = .ok (.iastore, 1) := by decide +kernel
theorem dX12_goDay_233 : decode cX12_goDay 233 = .ok (.iinc 2 1, 3) := by decide +kernel
theorem dX12_goDay_236 : decode cX12_goDay 236 = .ok (.goto (-27), 3) := by decide +kernel
theorem dX12_goDay_239 : decode cX12_goDay 239 = .ok (.aload_n 1, 1) := by decide +kernel
theorem dX12_goDay_240 : decode cX12_goDay 240 = .ok (.bipush 18, 2) := by decide +kernel
theorem dX12_goDay_242 : decode cX12_goDay 242 = .ok (.iconst 0, 1) := by decide +kernel
theorem dX12_goDay_243 : decode cX12_goDay 243 = .ok (.iastore, 1) := by decide +kernel
theorem dX12_goDay_244 : decode cX12_goDay 244 = .ok (.return_, 1) := by decide +kernel
abbrev YX12_goDay : li_Y := (yX12_goDay, cX12_goDay, 5, none)
theorem dX12_goDays_0 : decode cX12_goDays 0 = .ok (.iconst 0, 1) := by decide +kernel
theorem dX12_goDays_1 : decode cX12_goDays 1 = .ok (.istore_n 3, 1) := by decide +kernel
theorem dX12_goDays_2 : decode cX12_goDays 2 = .ok (.iload_n 3, 1) := by decide +kernel
theorem dX12_goDays_3 : decode cX12_goDays 3 = .ok (.iload_n 2, 1) := by decide +kernel
theorem dX12_goDays_4 : decode cX12_goDays 4 = .ok (.if_icmp .ge 14, 3) := by decide +kernel
theorem dX12_goDays_7 : decode cX12_goDays 7 = .ok (.aload_n 0, 1) := by decide +kernel
theorem dX12_goDays_8 : decode cX12_goDays 8 = .ok (.aload_n 1, 1) := by decide +kernel
theorem dX12_goDays_9 : decode cX12_goDays 9 = .ok (.invokevirtual 301, 3) := by decide +kernel
theorem dX12_goDays_12 : decode cX12_goDays 12 = .ok (.iinc 3 1, 3) := by decide +kernel
theorem dX12_goDays_15 : decode cX12_goDays 15 = .ok (.goto (-13), 3) := by decide +kernel
theorem dX12_goDays_18 : decode cX12_goDays 18 = .ok (.return_, 1) := by decide +kernel
abbrev YX12_goDays : li_Y := (yX12_goDays, cX12_goDays, 4, none)
theorem dX12_days_0 : decode cX12_days 0 = .ok (.aload_n 0, 1) := by decide +kernel
theorem dX12_days_1 : decode cX12_days 1 = .ok (.iconst 0, 1) := by decide +kernel
theorem dX12_days_2 : decode cX12_days 2 = .ok (.putfield 103, 3) := by decide +kernel
theorem dX12_days_5 : decode cX12_days 5 = .ok (.iload_n 1, 1) := by decide +kernel
theorem dX12_days_6 : decode cX12_days 6 = .ok (.iconst 0, 1) := by decide +kernel
theorem dX12_days_7 : decode cX12_days 7 = .ok (.bipush 99, 2) := by decide +kernel
theorem dX12_days_9 : decode cX12_days 9 = .ok (.invokestatic 113, 3) := by decide +kernel
theorem dX12_days_12 : decode cX12_days 12 = .ok (.ifCond .ne 5, 3) := by decide +kernel
theorem dX12_days_15 : decode cX12_days 15 = .ok (.iconst (-1), 1) := by decide +kernel
theorem dX12_days_16 : decode cX12_days 16 = .ok (.ireturn, 1) := by decide +kernel
theorem dX12_days_17 : decode cX12_days 17 = .ok (.iload_n 1, 1) := by decide +kernel
theorem dX12_days_18 : decode cX12_days 18 = .ok (.ifCond .le 11, 3) := by decide +kernel
theorem dX12_days_21 : decode cX12_days 21 = .ok (.aload_n 0, 1) := by decide +kernel
theorem dX12_days_22 : decode cX12_days 22 = .ok (.aload_n 0, 1) := by decide +kernel
theorem dX12_days_23 : decode cX12_days 23 = .ok (.getfield 9, 3) := by decide +kernel
theorem dX12_days_26 : decode cX12_days 26 = .ok (.invokevirtual 278, 3) := by decide +kernel
theorem dX12_days_29 : decode cX12_days 29 = .ok (.aload_n 0, 1) := by decide +kernel
theorem dX12_days_30 : decode cX12_days 30 = .ok (.iconst 0, 1) := by decide +kernel
theorem dX12_days_31 : decode cX12_days 31 = .ok (.putfield 295, 3) := by decide +kernel
theorem dX12_days_34 : decode cX12_days 34 = .ok (.aload_n 0, 1) := by decide +kernel
theorem dX12_days_35 : decode cX12_days 35 = .ok (.iconst 0, 1) := by decide +kernel
theorem dX12_days_36 : decode cX12_days 36 = .ok (.putfield 298, 3) := by decide +kernel
theorem dX12_days_39 : decode cX12_days 39 = .ok (.aload_n 0, 1) := by decide +kernel
theorem dX12_days_40 : decode cX12_days 40 = .ok (.aload_n 0, 1) := by decide +kernel
theorem dX12_days_41 : decode cX12_days 41 = .ok (.getfield 9, 3) := by decide +kernel
theorem dX12_days_44 : decode cX12_days 44 = .ok (.iload_n 1, 1) := by decide +kernel
theorem dX12_days_45 : decode cX12_days 45 = .ok (.invokevirtual 304, 3) := by decide +kernel
theorem dX12_days_48 : decode cX12_days 48 = .ok (.aload_n 0, 1) := by decide +kernel
theorem dX12_days_49 : decode cX12_days 49 = .ok (.iconst 0, 1) := by decide +kernel
theorem dX12_days_50 : decode cX12_days 50 = .ok (.putfield 107, 3) := by decide +kernel
theorem dX12_days_53 : decode cX12_days 53 = .ok (.aload_n 0, 1) := by decide +kernel
theorem dX12_days_54 : decode cX12_days 54 = .ok (.aload_n 0, 1) := by decide +kernel
theorem dX12_days_55 : decode cX12_days 55 = .ok (.getfield 295, 3) := by decide +kernel
theorem dX12_days_58 : decode cX12_days 58 = .ok (.invokevirtual 308, 3) := by decide +kernel
theorem dX12_days_61 : decode cX12_days 61 = .ok (.aload_n 0, 1) := by decide +kernel
theorem dX12_days_62 : decode cX12_days 62 = .ok (.aload_n 0, 1) := by decide +kernel
theorem dX12_days_63 : decode cX12_days 63 = .ok (.getfield 298, 3) := by decide +kernel
theorem dX12_days_66 : decode cX12_days 66 = .ok (.invokevirtual 308, 3) := by decide +kernel
theorem dX12_days_69 : decode cX12_days 69 = .ok (.aload_n 0, 1) := by decide +kernel
theorem dX12_days_70 : decode cX12_days 70 = .ok (.getfield 9, 3) := by decide +kernel
theorem dX12_days_73 : decode cX12_days 73 = .ok (.bipush 19, 2) := by decide +kernel
theorem dX12_days_75 : decode cX12_days 75 = .ok (.iaload, 1) := by decide +kernel
theorem dX12_days_76 : decode cX12_days 76 = .ok (.ireturn, 1) := by decide +kernel
abbrev YX12_days : li_Y := (yX12_days, cX12_days, 2, (some .int))
set_option maxRecDepth 100000 in
set_option maxHeartbeats 4000000 in
theorem k_X12_goDay {l : Launch} {Z : li_Z} (d : Nat) (hd : 2 ≤ d) {a : Nat} (ha : li_la a) (M0 : li_M) (hJ : li_J M0) : li_Met l Z YX12_goDay d [.ref (Z.2.2 175), .ref (Z.2.2 a)] M0 (fun r M' => r = none ∧ li_fs (fun i k => i = a ∨ (i = 175 ∧ k = 25) ∨ (i = 175 ∧ k = 26)) M0 M' ∧ li_J M') := by
  refine li_enter (by decide +kernel) (Nat.le_of_ble_eq_true rfl) ?_
  show li_T l Z YX12_goDay d 0 [(0, .ref (Z.2.2 175)), (1, .ref (Z.2.2 a))] [] M0 _
  have hf : li_fs (fun i k => i = a ∨ (i = 175 ∧ k = 25) ∨ (i = 175 ∧ k = 26)) M0 M0 := li_fs_refl
  have caa : a = 176 ∨ a = 200 := ha
  refine li_aload_n 1 dX12_goDay_0 rfl ?_
  refine li_bipush 19 dX12_goDay_1 (by decide) ?_
  refine li_dup2 dX12_goDay_3 rfl rfl ?_
  have z19 : (19 : Int32).toInt = 19 := rfl
  refine li_iald dX12_goDay_4 (snA ha) (shA ha) (tl_in (by omega)) ?_
  refine li_top (fun x1 ex1 => ?_)
  have gx1 := tl_rg x1
  have lx1 : ((19 : Int32).toInt % 51 = 20 → 0 ≤ x1.toInt ∧ x1.toInt ≤ 6) ∧ (21 ≤ (19 : Int32).toInt % 51 → ((19 : Int32).toInt % 51 - 21) % 5 < 2 → 0 ≤ x1.toInt ∧ x1.toInt ≤ 5) := hJ.ldLed (li_la_led ha) ex1 (by omega)
  try (have kx1 : 0 ≤ x1.toInt ∧ x1.toInt ≤ 6 := lx1.1 (by clear lx1; omega))
  try (have kx1 : 0 ≤ x1.toInt ∧ x1.toInt ≤ 5 := lx1.2 (by clear lx1; omega) (by clear lx1; omega))
  clear lx1
  refine li_iconst 1 dX12_goDay_5 (by decide) ?_
  refine li_iadd dX12_goDay_6 ?_
  refine li_top (fun x2 ex2 => ?_)
  have z1 : (1 : Int32).toInt = 1 := rfl
  try (have tx2 : x2.toInt = (x1 : Int32).toInt + (1 : Int32).toInt := tl_add ex2 (by omega))
  have z19 : (19 : Int32).toInt = 19 := rfl
  refine li_iast dX12_goDay_7 (snA ha) (shA ha) (tl_in (by omega)) ?_
  refine li_nm (fun M3 eM3 => ?_)
  have hf := li_fs_ui hf (Or.inl rfl) eM3
  have hJ := hJ.st (by unfold li_la at ha; omega) (li_el_led (li_la_led ha) (by omega) (show ((19 : Int32).toInt % 51 = 20 → 0 ≤ (x2 : Int32).toInt ∧ (x2 : Int32).toInt ≤ 6) ∧ (21 ≤ (19 : Int32).toInt % 51 → ((19 : Int32).toInt % 51 - 21) % 5 < 2 → 0 ≤ (x2 : Int32).toInt ∧ (x2 : Int32).toInt ≤ 5) by omega)) eM3
  refine li_iconst 0 dX12_goDay_8 (by decide) ?_
  refine li_istore_n [(2, .int 0), (0, .ref (Z.2.2 175)), (1, .ref (Z.2.2 a))] dX12_goDay_9 (by decide) rfl ?_
  have L10 : ∀ (n : Nat) (x4 : Int32) (M5 : li_M), (6 - (x4 : Int32).toInt).toNat < n → li_fs (fun i k => i = a ∨ (i = 175 ∧ k = 25) ∨ (i = 175 ∧ k = 26)) M0 M5 → li_J M5 → 0 ≤ (x4 : Int32).toInt → li_T l Z YX12_goDay d 10 [(2, .int x4), (0, .ref (Z.2.2 175)), (1, .ref (Z.2.2 a))] [] M5 (fun r M' => r = none ∧ li_fs (fun i k => i = a ∨ (i = 175 ∧ k = 25) ∨ (i = 175 ∧ k = 26)) M0 M' ∧ li_J M') := by
    intro n
    induction n with
    | zero => intro x4 M5 hn; exact absurd hn (Nat.not_lt_zero _)
    | succ n ih10 =>
      intro x4 M5 hn hf hJ hi
      have gx4 := tl_rg x4
      refine li_iload_n 0 dX12_goDay_10 rfl ?_
      refine li_aload_n 2 dX12_goDay_11 rfl ?_
      refine li_bipush 20 dX12_goDay_12 (by decide) ?_
      have z20 : (20 : Int32).toInt = 20 := rfl
      refine li_iald dX12_goDay_14 (snA ha) (shA ha) (tl_in (by omega)) ?_
      refine li_top (fun x6 ex6 => ?_)
      have gx6 := tl_rg x6
      have lx6 : ((20 : Int32).toInt % 51 = 20 → 0 ≤ x6.toInt ∧ x6.toInt ≤ 6) ∧ (21 ≤ (20 : Int32).toInt % 51 → ((20 : Int32).toInt % 51 - 21) % 5 < 2 → 0 ≤ x6.toInt ∧ x6.toInt ≤ 5) := hJ.ldLed (li_la_led ha) ex6 (by omega)
      try (have kx6 : 0 ≤ x6.toInt ∧ x6.toInt ≤ 6 := lx6.1 (by clear lx6; omega))
      try (have kx6 : 0 ≤ x6.toInt ∧ x6.toInt ≤ 5 := lx6.2 (by clear lx6; omega) (by clear lx6; omega))
      clear lx6
      refine li_icmp_ge 65 dX12_goDay_15 (by decide) (fun c7 => ?_) (fun c7 => ?_)
      · have tc7 : x6.toInt ≤ x4.toInt := tl_le c7
        refine li_iconst 0 dX12_goDay_65 (by decide) ?_
        refine li_istore_n [(2, .int 0), (0, .ref (Z.2.2 175)), (1, .ref (Z.2.2 a))] dX12_goDay_66 (by decide) rfl ?_
        have L67 : ∀ (n : Nat) (x8 : Int32) (M9 : li_M), (6 - (x8 : Int32).toInt).toNat < n → li_fs (fun i k => i = a ∨ (i = 175 ∧ k = 25) ∨ (i = 175 ∧ k = 26)) M0 M9 → li_J M9 → 0 ≤ (x8 : Int32).toInt → li_T l Z YX12_goDay d 67 [(2, .int x8), (0, .ref (Z.2.2 175)), (1, .ref (Z.2.2 a))] [] M9 (fun r M' => r = none ∧ li_fs (fun i k => i = a ∨ (i = 175 ∧ k = 25) ∨ (i = 175 ∧ k = 26)) M0 M' ∧ li_J M') := by
          intro n
          induction n with
          | zero => intro x8 M9 hn; exact absurd hn (Nat.not_lt_zero _)
          | succ n ih67 =>
            intro x8 M9 hn hf hJ hi
            have gx8 := tl_rg x8
            refine li_iload_n 0 dX12_goDay_67 rfl ?_
            refine li_aload_n 2 dX12_goDay_68 rfl ?_
            refine li_bipush 20 dX12_goDay_69 (by decide) ?_
            have z20 : (20 : Int32).toInt = 20 := rfl
            refine li_iald dX12_goDay_71 (snA ha) (shA ha) (tl_in (by omega)) ?_
            refine li_top (fun x10 ex10 => ?_)
            have gx10 := tl_rg x10
            have lx10 : ((20 : Int32).toInt % 51 = 20 → 0 ≤ x10.toInt ∧ x10.toInt ≤ 6) ∧ (21 ≤ (20 : Int32).toInt % 51 → ((20 : Int32).toInt % 51 - 21) % 5 < 2 → 0 ≤ x10.toInt ∧ x10.toInt ≤ 5) := hJ.ldLed (li_la_led ha) ex10 (by omega)
            try (have kx10 : 0 ≤ x10.toInt ∧ x10.toInt ≤ 6 := lx10.1 (by clear lx10; omega))
            try (have kx10 : 0 ≤ x10.toInt ∧ x10.toInt ≤ 5 := lx10.2 (by clear lx10; omega) (by clear lx10; omega))
            clear lx10
            refine li_icmp_ge 196 dX12_goDay_72 (by decide) (fun c11 => ?_) (fun c11 => ?_)
            · have tc11 : x10.toInt ≤ x8.toInt := tl_le c11
              refine li_aload_n 2 dX12_goDay_196 rfl ?_
              refine li_bipush 19 dX12_goDay_197 (by decide) ?_
              have z19 : (19 : Int32).toInt = 19 := rfl
              refine li_iald dX12_goDay_199 (snA ha) (shA ha) (tl_in (by omega)) ?_
              refine li_top (fun x12 ex12 => ?_)
              have gx12 := tl_rg x12
              have lx12 : ((19 : Int32).toInt % 51 = 20 → 0 ≤ x12.toInt ∧ x12.toInt ≤ 6) ∧ (21 ≤ (19 : Int32).toInt % 51 → ((19 : Int32).toInt % 51 - 21) % 5 < 2 → 0 ≤ x12.toInt ∧ x12.toInt ≤ 5) := hJ.ldLed (li_la_led ha) ex12 (by omega)
              try (have kx12 : 0 ≤ x12.toInt ∧ x12.toInt ≤ 6 := lx12.1 (by clear lx12; omega))
              try (have kx12 : 0 ≤ x12.toInt ∧ x12.toInt ≤ 5 := lx12.2 (by clear lx12; omega) (by clear lx12; omega))
              clear lx12
              refine li_bipush 100 dX12_goDay_200 (by decide) ?_
              refine li_irem dX12_goDay_202 (by decide) ?_
              refine li_top (fun x13 ex13 => ?_)
              refine li_if_eq 207 dX12_goDay_203 (by decide) (fun c14 => ?_) (fun c14 => ?_)
              · have tc14 : x13.toInt = 0 := tl_eq c14
                refine li_iconst 0 dX12_goDay_207 (by decide) ?_
                refine li_istore_n [(2, .int 0), (0, .ref (Z.2.2 175)), (1, .ref (Z.2.2 a))] dX12_goDay_208 (by decide) rfl ?_
                have L209 : ∀ (n : Nat) (x15 : Int32) (M16 : li_M), (6 - (x15 : Int32).toInt).toNat < n → li_fs (fun i k => i = a ∨ (i = 175 ∧ k = 25) ∨ (i = 175 ∧ k = 26)) M0 M16 → li_J M16 → 0 ≤ (x15 : Int32).toInt → li_T l Z YX12_goDay d 209 [(2, .int x15), (0, .ref (Z.2.2 175)), (1, .ref (Z.2.2 a))] [] M16 (fun r M' => r = none ∧ li_fs (fun i k => i = a ∨ (i = 175 ∧ k = 25) ∨ (i = 175 ∧ k = 26)) M0 M' ∧ li_J M') := by
                  intro n
                  induction n with
                  | zero => intro x15 M16 hn; exact absurd hn (Nat.not_lt_zero _)
                  | succ n ih209 =>
                    intro x15 M16 hn hf hJ hi
                    have gx15 := tl_rg x15
                    refine li_iload_n 0 dX12_goDay_209 rfl ?_
                    refine li_aload_n 1 dX12_goDay_210 rfl ?_
                    refine li_geti (k := 1) (N := 52) (T := TX12) (C0 := RX12) dX12_goDay_211 (by decide) sh_175 rfl rfl (by decide) li_in12 w_1405 ?_
                    refine li_top (fun x17 ex17 => ?_)
                    have gx17 : 0 ≤ x17.toInt ∧ x17.toInt ≤ 6 := by rw [ex17]; exact J_sl1 hJ
                    have sx17 : x17.toInt = (M0.1 175 1).toInt := tl_slot (ex17.trans (hf.1 175 1 (show ¬ (175 = a ∨ (175 = 175 ∧ 1 = 25) ∨ (175 = 175 ∧ 1 = 26)) by omega)))
                    refine li_icmp_ge 239 dX12_goDay_214 (by decide) (fun c18 => ?_) (fun c18 => ?_)
                    · have tc18 : x17.toInt ≤ x15.toInt := tl_le c18
                      refine li_aload_n 2 dX12_goDay_239 rfl ?_
                      refine li_bipush 18 dX12_goDay_240 (by decide) ?_
                      refine li_iconst 0 dX12_goDay_242 (by decide) ?_
                      have z18 : (18 : Int32).toInt = 18 := rfl
                      have z0 : (0 : Int32).toInt = 0 := rfl
                      refine li_iast dX12_goDay_243 (snA ha) (shA ha) (tl_in (by omega)) ?_
                      refine li_nm (fun M19 eM19 => ?_)
                      have hf := li_fs_ui hf (Or.inl rfl) eM19
                      have hJ := hJ.st (by unfold li_la at ha; omega) (li_el_led (li_la_led ha) (by omega) (show ((18 : Int32).toInt % 51 = 20 → 0 ≤ (0 : Int32).toInt ∧ (0 : Int32).toInt ≤ 6) ∧ (21 ≤ (18 : Int32).toInt % 51 → ((18 : Int32).toInt % 51 - 21) % 5 < 2 → 0 ≤ (0 : Int32).toInt ∧ (0 : Int32).toInt ≤ 5) by omega)) eM19
                      exact li_vret dX12_goDay_244 rfl ⟨rfl, hf, hJ⟩
                    · have tc18 : x15.toInt < x17.toInt := tl_nle c18
                      refine li_aload_n 2 dX12_goDay_217 rfl ?_
                      refine li_iload_n 0 dX12_goDay_218 rfl ?_
                      refine li_aload_n 1 dX12_goDay_219 rfl ?_
                      refine li_getr (k := 3) (N := 52) (T := TX12) (C0 := RX12) dX12_goDay_220 (by decide) sh_175 rfl rfl (by decide) (by decide) li_in12 w_1407 ?_
                      refine li_iload_n 0 dX12_goDay_223 rfl ?_
                      refine li_iald dX12_goDay_224 (by decide) sh_178 (tl_in (by omega)) ?_
                      refine li_top (fun x20 ex20 => ?_)
                      have gx20 := tl_rg x20
                      refine li_iast dX12_goDay_225 (snA ha) (shA ha) (tl_in (by omega)) ?_
                      refine li_nm (fun M21 eM21 => ?_)
                      have hf := li_fs_ui hf (Or.inl rfl) eM21
                      try (have oM21 : (x15 : Int32).toInt % 51 = (x15 : Int32).toInt := by omega)
                      have hJ := hJ.st (by unfold li_la at ha; omega) (li_el_led (li_la_led ha) (by omega) (show ((x15 : Int32).toInt % 51 = 20 → 0 ≤ (x20 : Int32).toInt ∧ (x20 : Int32).toInt ≤ 6) ∧ (21 ≤ (x15 : Int32).toInt % 51 → ((x15 : Int32).toInt % 51 - 21) % 5 < 2 → 0 ≤ (x20 : Int32).toInt ∧ (x20 : Int32).toInt ≤ 5) by omega)) eM21
                      refine li_aload_n 2 dX12_goDay_226 rfl ?_
                      refine li_bipush 6 dX12_goDay_227 (by decide) ?_
                      refine li_iload_n 0 dX12_goDay_229 rfl ?_
                      refine li_iadd dX12_goDay_230 ?_
                      refine li_top (fun x22 ex22 => ?_)
                      have z6 : (6 : Int32).toInt = 6 := rfl
                      try (have tx22 : x22.toInt = (6 : Int32).toInt + (x15 : Int32).toInt := tl_add ex22 (by omega))
                      refine li_iconst 0 dX12_goDay_231 (by decide) ?_
                      have z0 : (0 : Int32).toInt = 0 := rfl
                      refine li_iast dX12_goDay_232 (snA ha) (shA ha) (tl_in (by omega)) ?_
                      refine li_nm (fun M23 eM23 => ?_)
                      have hf := li_fs_ui hf (Or.inl rfl) eM23
                      try (have oM23 : (x22 : Int32).toInt % 51 = (x22 : Int32).toInt := by omega)
                      have hJ := hJ.st (by unfold li_la at ha; omega) (li_el_led (li_la_led ha) (by omega) (show ((x22 : Int32).toInt % 51 = 20 → 0 ≤ (0 : Int32).toInt ∧ (0 : Int32).toInt ≤ 6) ∧ (21 ≤ (x22 : Int32).toInt % 51 → ((x22 : Int32).toInt % 51 - 21) % 5 < 2 → 0 ≤ (0 : Int32).toInt ∧ (0 : Int32).toInt ≤ 5) by omega)) eM23
                      obtain ⟨x24, ex24⟩ : ∃ y : Int32, y = x15 + 1 := ⟨_, rfl⟩
                      have z1 : (1 : Int32).toInt = 1 := rfl
                      try (have tx24 : x24.toInt = (x15 : Int32).toInt + (1 : Int32).toInt := tl_add ex24 (by omega))
                      refine li_iinc 0 [(2, .int x24), (0, .ref (Z.2.2 175)), (1, .ref (Z.2.2 a))] x24 dX12_goDay_233 rfl (by rw [ex24]; rfl) (by decide) rfl ?_
                      refine li_goto 209 dX12_goDay_236 (by decide) ?_
                      refine li_pick [0, 1, 2] [(2, .int x24), (0, .ref (Z.2.2 175)), (1, .ref (Z.2.2 a))] rfl ?_
                      exact ih209 x24 M23 (by omega) hf hJ (by omega)
                have z0 : (0 : Int32).toInt = 0 := rfl
                exact L209 _ 0 M9 (Nat.lt_succ_self _) hf hJ (by omega)
              · have tc14 : ¬ x13.toInt = 0 := tl_ne c14
                exact li_vret dX12_goDay_206 rfl ⟨rfl, hf, hJ⟩
            · have tc11 : x8.toInt < x10.toInt := tl_nle c11
              refine li_bipush 21 dX12_goDay_75 (by decide) ?_
              refine li_iconst 5 dX12_goDay_77 (by decide) ?_
              refine li_iload_n 0 dX12_goDay_78 rfl ?_
              refine li_imul dX12_goDay_79 ?_
              refine li_top (fun x25 ex25 => ?_)
              have z5 : (5 : Int32).toInt = 5 := rfl
              try (have tx25 : x25.toInt = 5 * (x8 : Int32).toInt := tl_mul ex25 (show -2147483648 ≤ 5 * (x8 : Int32).toInt ∧ 5 * (x8 : Int32).toInt ≤ 2147483647 by omega))
              refine li_iadd dX12_goDay_80 ?_
              refine li_top (fun x26 ex26 => ?_)
              have z21 : (21 : Int32).toInt = 21 := rfl
              try (have tx26 : x26.toInt = (21 : Int32).toInt + (x25 : Int32).toInt := tl_add ex26 (by omega))
              refine li_istore_n [(3, .int x26), (2, .int x8), (0, .ref (Z.2.2 175)), (1, .ref (Z.2.2 a))] dX12_goDay_81 (by decide) rfl ?_
              refine li_aload_n 3 dX12_goDay_82 rfl ?_
              refine li_iload_n 0 dX12_goDay_83 rfl ?_
              refine li_iconst 4 dX12_goDay_84 (by decide) ?_
              refine li_iadd dX12_goDay_85 ?_
              refine li_top (fun x27 ex27 => ?_)
              have z4 : (4 : Int32).toInt = 4 := rfl
              try (have tx27 : x27.toInt = (x26 : Int32).toInt + (4 : Int32).toInt := tl_add ex27 (by omega))
              refine li_iald dX12_goDay_86 (snA ha) (shA ha) (tl_in (by omega)) ?_
              refine li_top (fun x28 ex28 => ?_)
              have gx28 := tl_rg x28
              try (have ox28 : (x27 : Int32).toInt % 51 = (x27 : Int32).toInt := by omega)
              have lx28 : ((x27 : Int32).toInt % 51 = 20 → 0 ≤ x28.toInt ∧ x28.toInt ≤ 6) ∧ (21 ≤ (x27 : Int32).toInt % 51 → ((x27 : Int32).toInt % 51 - 21) % 5 < 2 → 0 ≤ x28.toInt ∧ x28.toInt ≤ 5) := hJ.ldLed (li_la_led ha) ex28 (by omega)
              try (have kx28 : 0 ≤ x28.toInt ∧ x28.toInt ≤ 6 := lx28.1 (by clear lx28; omega))
              try (have kx28 : 0 ≤ x28.toInt ∧ x28.toInt ≤ 5 := lx28.2 (by clear lx28; omega) (by clear lx28; omega))
              clear lx28
              refine li_iconst 1 dX12_goDay_87 (by decide) ?_
              have J190 : ∀  (M30 : li_M), li_fs (fun i k => i = a ∨ (i = 175 ∧ k = 25) ∨ (i = 175 ∧ k = 26)) M0 M30 → li_J M30 → li_T l Z YX12_goDay d 190 [(3, .int x26), (2, .int x8), (0, .ref (Z.2.2 175)), (1, .ref (Z.2.2 a))] [] M30 (fun r M' => r = none ∧ li_fs (fun i k => i = a ∨ (i = 175 ∧ k = 25) ∨ (i = 175 ∧ k = 26)) M0 M' ∧ li_J M') := by
                intro  M30 hf hJ
                obtain ⟨x31, ex31⟩ : ∃ y : Int32, y = x8 + 1 := ⟨_, rfl⟩
                have z1 : (1 : Int32).toInt = 1 := rfl
                try (have tx31 : x31.toInt = (x8 : Int32).toInt + (1 : Int32).toInt := tl_add ex31 (by omega))
                refine li_iinc 1 [(2, .int x31), (3, .int x26), (0, .ref (Z.2.2 175)), (1, .ref (Z.2.2 a))] x31 dX12_goDay_190 rfl (by rw [ex31]; rfl) (by decide) rfl ?_
                refine li_goto 67 dX12_goDay_193 (by decide) ?_
                refine li_pick [0, 2, 3] [(2, .int x31), (0, .ref (Z.2.2 175)), (1, .ref (Z.2.2 a))] rfl ?_
                exact ih67 x31 M30 (by omega) hf hJ (by omega)
              refine li_icmp_eq 190 dX12_goDay_88 (by decide) (fun c29 => ?_) (fun c29 => ?_)
              · have tc29 : x28.toInt = 1 := tl_eq c29
                refine li_pick [0, 1, 2, 3] [(3, .int x26), (2, .int x8), (0, .ref (Z.2.2 175)), (1, .ref (Z.2.2 a))] rfl ?_
                exact J190  M9 hf hJ
              · have tc29 : ¬ x28.toInt = 1 := tl_ne c29
                refine li_aload_n 3 dX12_goDay_91 rfl ?_
                refine li_iload_n 0 dX12_goDay_92 rfl ?_
                refine li_iconst 3 dX12_goDay_93 (by decide) ?_
                refine li_iadd dX12_goDay_94 ?_
                refine li_top (fun x32 ex32 => ?_)
                have z3 : (3 : Int32).toInt = 3 := rfl
                try (have tx32 : x32.toInt = (x26 : Int32).toInt + (3 : Int32).toInt := tl_add ex32 (by omega))
                refine li_iald dX12_goDay_95 (snA ha) (shA ha) (tl_in (by omega)) ?_
                refine li_top (fun x33 ex33 => ?_)
                have gx33 := tl_rg x33
                try (have ox33 : (x32 : Int32).toInt % 51 = (x32 : Int32).toInt := by omega)
                have lx33 : ((x32 : Int32).toInt % 51 = 20 → 0 ≤ x33.toInt ∧ x33.toInt ≤ 6) ∧ (21 ≤ (x32 : Int32).toInt % 51 → ((x32 : Int32).toInt % 51 - 21) % 5 < 2 → 0 ≤ x33.toInt ∧ x33.toInt ≤ 5) := hJ.ldLed (li_la_led ha) ex33 (by omega)
                try (have kx33 : 0 ≤ x33.toInt ∧ x33.toInt ≤ 6 := lx33.1 (by clear lx33; omega))
                try (have kx33 : 0 ≤ x33.toInt ∧ x33.toInt ≤ 5 := lx33.2 (by clear lx33; omega) (by clear lx33; omega))
                clear lx33
                refine li_aload_n 3 dX12_goDay_96 rfl ?_
                refine li_bipush 19 dX12_goDay_97 (by decide) ?_
                have z19 : (19 : Int32).toInt = 19 := rfl
                refine li_iald dX12_goDay_99 (snA ha) (shA ha) (tl_in (by omega)) ?_
                refine li_top (fun x34 ex34 => ?_)
                have gx34 := tl_rg x34
                have lx34 : ((19 : Int32).toInt % 51 = 20 → 0 ≤ x34.toInt ∧ x34.toInt ≤ 6) ∧ (21 ≤ (19 : Int32).toInt % 51 → ((19 : Int32).toInt % 51 - 21) % 5 < 2 → 0 ≤ x34.toInt ∧ x34.toInt ≤ 5) := hJ.ldLed (li_la_led ha) ex34 (by omega)
                try (have kx34 : 0 ≤ x34.toInt ∧ x34.toInt ≤ 6 := lx34.1 (by clear lx34; omega))
                try (have kx34 : 0 ≤ x34.toInt ∧ x34.toInt ≤ 5 := lx34.2 (by clear lx34; omega) (by clear lx34; omega))
                clear lx34
                refine li_icmp_eq 106 dX12_goDay_100 (by decide) (fun c35 => ?_) (fun c35 => ?_)
                · have tc35 : x33.toInt = x34.toInt := tl_eq c35
                  refine li_aload_n 3 dX12_goDay_106 rfl ?_
                  refine li_iload_n 0 dX12_goDay_107 rfl ?_
                  refine li_iconst 2 dX12_goDay_108 (by decide) ?_
                  refine li_iadd dX12_goDay_109 ?_
                  refine li_top (fun x36 ex36 => ?_)
                  have z2 : (2 : Int32).toInt = 2 := rfl
                  try (have tx36 : x36.toInt = (x26 : Int32).toInt + (2 : Int32).toInt := tl_add ex36 (by omega))
                  refine li_iald dX12_goDay_110 (snA ha) (shA ha) (tl_in (by omega)) ?_
                  refine li_top (fun x37 ex37 => ?_)
                  have gx37 := tl_rg x37
                  try (have ox37 : (x36 : Int32).toInt % 51 = (x36 : Int32).toInt := by omega)
                  have lx37 : ((x36 : Int32).toInt % 51 = 20 → 0 ≤ x37.toInt ∧ x37.toInt ≤ 6) ∧ (21 ≤ (x36 : Int32).toInt % 51 → ((x36 : Int32).toInt % 51 - 21) % 5 < 2 → 0 ≤ x37.toInt ∧ x37.toInt ≤ 5) := hJ.ldLed (li_la_led ha) ex37 (by omega)
                  try (have kx37 : 0 ≤ x37.toInt ∧ x37.toInt ≤ 6 := lx37.1 (by clear lx37; omega))
                  try (have kx37 : 0 ≤ x37.toInt ∧ x37.toInt ≤ 5 := lx37.2 (by clear lx37; omega) (by clear lx37; omega))
                  clear lx37
                  refine li_aload_n 3 dX12_goDay_111 rfl ?_
                  refine li_aload_n 3 dX12_goDay_112 rfl ?_
                  refine li_iload_n 0 dX12_goDay_113 rfl ?_
                  refine li_iconst 1 dX12_goDay_114 (by decide) ?_
                  refine li_iadd dX12_goDay_115 ?_
                  refine li_top (fun x38 ex38 => ?_)
                  have z1 : (1 : Int32).toInt = 1 := rfl
                  try (have tx38 : x38.toInt = (x26 : Int32).toInt + (1 : Int32).toInt := tl_add ex38 (by omega))
                  refine li_iald dX12_goDay_116 (snA ha) (shA ha) (tl_in (by omega)) ?_
                  refine li_top (fun x39 ex39 => ?_)
                  have gx39 := tl_rg x39
                  try (have ox39 : (x38 : Int32).toInt % 51 = (x38 : Int32).toInt := by omega)
                  have lx39 : ((x38 : Int32).toInt % 51 = 20 → 0 ≤ x39.toInt ∧ x39.toInt ≤ 6) ∧ (21 ≤ (x38 : Int32).toInt % 51 → ((x38 : Int32).toInt % 51 - 21) % 5 < 2 → 0 ≤ x39.toInt ∧ x39.toInt ≤ 5) := hJ.ldLed (li_la_led ha) ex39 (by omega)
                  try (have kx39 : 0 ≤ x39.toInt ∧ x39.toInt ≤ 6 := lx39.1 (by clear lx39; omega))
                  try (have kx39 : 0 ≤ x39.toInt ∧ x39.toInt ≤ 5 := lx39.2 (by clear lx39; omega) (by clear lx39; omega))
                  clear lx39
                  refine li_iald dX12_goDay_117 (snA ha) (shA ha) (tl_in (by omega)) ?_
                  refine li_top (fun x40 ex40 => ?_)
                  have gx40 := tl_rg x40
                  try (have ox40 : (x39 : Int32).toInt % 51 = (x39 : Int32).toInt := by omega)
                  have lx40 : ((x39 : Int32).toInt % 51 = 20 → 0 ≤ x40.toInt ∧ x40.toInt ≤ 6) ∧ (21 ≤ (x39 : Int32).toInt % 51 → ((x39 : Int32).toInt % 51 - 21) % 5 < 2 → 0 ≤ x40.toInt ∧ x40.toInt ≤ 5) := hJ.ldLed (li_la_led ha) ex40 (by omega)
                  try (have kx40 : 0 ≤ x40.toInt ∧ x40.toInt ≤ 6 := lx40.1 (by clear lx40; omega))
                  try (have kx40 : 0 ≤ x40.toInt ∧ x40.toInt ≤ 5 := lx40.2 (by clear lx40; omega) (by clear lx40; omega))
                  clear lx40
                  refine li_mmin dX12_goDay_118 (by omega) w_1705 w_726 w_113 w_727 (Nat.le_of_ble_eq_true rfl) ?_
                  refine li_top (fun x41 ex41 => ?_)
                  have tx41 := tl_min2 ex41
                  refine li_istore [(4, .int x41), (3, .int x26), (2, .int x8), (0, .ref (Z.2.2 175)), (1, .ref (Z.2.2 a))] dX12_goDay_121 (by decide) rfl ?_
                  refine li_aload_n 4 dX12_goDay_123 rfl ?_
                  refine li_aload_n 4 dX12_goDay_124 rfl ?_
                  refine li_iload_n 1 dX12_goDay_125 rfl ?_
                  refine li_iconst 1 dX12_goDay_126 (by decide) ?_
                  refine li_iadd dX12_goDay_127 ?_
                  refine li_top (fun x42 ex42 => ?_)
                  have z1 : (1 : Int32).toInt = 1 := rfl
                  try (have tx42 : x42.toInt = (x26 : Int32).toInt + (1 : Int32).toInt := tl_add ex42 (by omega))
                  refine li_iald dX12_goDay_128 (snA ha) (shA ha) (tl_in (by omega)) ?_
                  refine li_top (fun x43 ex43 => ?_)
                  have gx43 := tl_rg x43
                  try (have ox43 : (x42 : Int32).toInt % 51 = (x42 : Int32).toInt := by omega)
                  have lx43 : ((x42 : Int32).toInt % 51 = 20 → 0 ≤ x43.toInt ∧ x43.toInt ≤ 6) ∧ (21 ≤ (x42 : Int32).toInt % 51 → ((x42 : Int32).toInt % 51 - 21) % 5 < 2 → 0 ≤ x43.toInt ∧ x43.toInt ≤ 5) := hJ.ldLed (li_la_led ha) ex43 (by omega)
                  try (have kx43 : 0 ≤ x43.toInt ∧ x43.toInt ≤ 6 := lx43.1 (by clear lx43; omega))
                  try (have kx43 : 0 ≤ x43.toInt ∧ x43.toInt ≤ 5 := lx43.2 (by clear lx43; omega) (by clear lx43; omega))
                  clear lx43
                  refine li_aload_n 4 dX12_goDay_129 rfl ?_
                  refine li_iload_n 1 dX12_goDay_130 rfl ?_
                  refine li_iald dX12_goDay_131 (snA ha) (shA ha) (tl_in (by omega)) ?_
                  refine li_top (fun x44 ex44 => ?_)
                  have gx44 := tl_rg x44
                  try (have ox44 : (x26 : Int32).toInt % 51 = (x26 : Int32).toInt := by omega)
                  have lx44 : ((x26 : Int32).toInt % 51 = 20 → 0 ≤ x44.toInt ∧ x44.toInt ≤ 6) ∧ (21 ≤ (x26 : Int32).toInt % 51 → ((x26 : Int32).toInt % 51 - 21) % 5 < 2 → 0 ≤ x44.toInt ∧ x44.toInt ≤ 5) := hJ.ldLed (li_la_led ha) ex44 (by omega)
                  try (have kx44 : 0 ≤ x44.toInt ∧ x44.toInt ≤ 6 := lx44.1 (by clear lx44; omega))
                  try (have kx44 : 0 ≤ x44.toInt ∧ x44.toInt ≤ 5 := lx44.2 (by clear lx44; omega) (by clear lx44; omega))
                  clear lx44
                  refine li_iload 0 dX12_goDay_132 rfl ?_
                  refine li_callS (n := 4) (As := [.ref (Z.2.2 a), .int x43, .int x44, .int x41]) dX12_goDay_134 (k_X12_goGive (d - 1) (by omega) ha x43 x44 x41 M9 hJ (by omega) (by omega)) (by omega) (Nat.le_of_ble_eq_true rfl) w_1768 w_1769 w_112 w_1770 (by decide +kernel) rfl rfl (Nat.le_of_ble_eq_true rfl) (fun r M46 h47 => ?_)
                  obtain ⟨⟨x45, rfl⟩, h47, jM46⟩ := h47
                  have gx45 := tl_rg x45
                  have hf := li_fs_trans hf h47 (fun i k => fun h => Or.inl h)
                  have hJ := jM46
                  refine li_pop dX12_goDay_137 rfl ?_
                  refine li_aload_n 4 dX12_goDay_138 rfl ?_
                  refine li_iload_n 1 dX12_goDay_139 rfl ?_
                  refine li_iconst 4 dX12_goDay_140 (by decide) ?_
                  refine li_iadd dX12_goDay_141 ?_
                  refine li_top (fun x48 ex48 => ?_)
                  have z4 : (4 : Int32).toInt = 4 := rfl
                  try (have tx48 : x48.toInt = (x26 : Int32).toInt + (4 : Int32).toInt := tl_add ex48 (by omega))
                  refine li_iconst 1 dX12_goDay_142 (by decide) ?_
                  have z1 : (1 : Int32).toInt = 1 := rfl
                  refine li_iast dX12_goDay_143 (snA ha) (shA ha) (tl_in (by omega)) ?_
                  refine li_nm (fun M49 eM49 => ?_)
                  have hf := li_fs_ui hf (Or.inl rfl) eM49
                  try (have oM49 : (x48 : Int32).toInt % 51 = (x48 : Int32).toInt := by omega)
                  have hJ := hJ.st (by unfold li_la at ha; omega) (li_el_led (li_la_led ha) (by omega) (show ((x48 : Int32).toInt % 51 = 20 → 0 ≤ (1 : Int32).toInt ∧ (1 : Int32).toInt ≤ 6) ∧ (21 ≤ (x48 : Int32).toInt % 51 → ((x48 : Int32).toInt % 51 - 21) % 5 < 2 → 0 ≤ (1 : Int32).toInt ∧ (1 : Int32).toInt ≤ 5) by omega)) eM49
                  refine li_aload_n 4 dX12_goDay_144 rfl ?_
                  refine li_bipush 12 dX12_goDay_145 (by decide) ?_
                  refine li_aload_n 4 dX12_goDay_147 rfl ?_
                  refine li_iload_n 1 dX12_goDay_148 rfl ?_
                  refine li_iald dX12_goDay_149 (snA ha) (shA ha) (tl_in (by omega)) ?_
                  refine li_top (fun x50 ex50 => ?_)
                  have gx50 := tl_rg x50
                  try (have ox50 : (x26 : Int32).toInt % 51 = (x26 : Int32).toInt := by omega)
                  have lx50 : ((x26 : Int32).toInt % 51 = 20 → 0 ≤ x50.toInt ∧ x50.toInt ≤ 6) ∧ (21 ≤ (x26 : Int32).toInt % 51 → ((x26 : Int32).toInt % 51 - 21) % 5 < 2 → 0 ≤ x50.toInt ∧ x50.toInt ≤ 5) := hJ.ldLed (li_la_led ha) ex50 (by omega)
                  try (have kx50 : 0 ≤ x50.toInt ∧ x50.toInt ≤ 6 := lx50.1 (by clear lx50; omega))
                  try (have kx50 : 0 ≤ x50.toInt ∧ x50.toInt ≤ 5 := lx50.2 (by clear lx50; omega) (by clear lx50; omega))
                  clear lx50
                  refine li_iadd dX12_goDay_150 ?_
                  refine li_top (fun x51 ex51 => ?_)
                  have z12 : (12 : Int32).toInt = 12 := rfl
                  try (have tx51 : x51.toInt = (12 : Int32).toInt + (x50 : Int32).toInt := tl_add ex51 (by omega))
                  refine li_dup2 dX12_goDay_151 rfl rfl ?_
                  refine li_iald dX12_goDay_152 (snA ha) (shA ha) (tl_in (by omega)) ?_
                  refine li_top (fun x52 ex52 => ?_)
                  have gx52 := tl_rg x52
                  try (have ox52 : (x51 : Int32).toInt % 51 = (x51 : Int32).toInt := by omega)
                  have lx52 : ((x51 : Int32).toInt % 51 = 20 → 0 ≤ x52.toInt ∧ x52.toInt ≤ 6) ∧ (21 ≤ (x51 : Int32).toInt % 51 → ((x51 : Int32).toInt % 51 - 21) % 5 < 2 → 0 ≤ x52.toInt ∧ x52.toInt ≤ 5) := hJ.ldLed (li_la_led ha) ex52 (by omega)
                  try (have kx52 : 0 ≤ x52.toInt ∧ x52.toInt ≤ 6 := lx52.1 (by clear lx52; omega))
                  try (have kx52 : 0 ≤ x52.toInt ∧ x52.toInt ≤ 5 := lx52.2 (by clear lx52; omega) (by clear lx52; omega))
                  clear lx52
                  refine li_aload_n 4 dX12_goDay_153 rfl ?_
                  refine li_iload_n 1 dX12_goDay_154 rfl ?_
                  refine li_iconst 2 dX12_goDay_155 (by decide) ?_
                  refine li_iadd dX12_goDay_156 ?_
                  refine li_top (fun x53 ex53 => ?_)
                  have z2 : (2 : Int32).toInt = 2 := rfl
                  try (have tx53 : x53.toInt = (x26 : Int32).toInt + (2 : Int32).toInt := tl_add ex53 (by omega))
                  refine li_iald dX12_goDay_157 (snA ha) (shA ha) (tl_in (by omega)) ?_
                  refine li_top (fun x54 ex54 => ?_)
                  have gx54 := tl_rg x54
                  try (have ox54 : (x53 : Int32).toInt % 51 = (x53 : Int32).toInt := by omega)
                  have lx54 : ((x53 : Int32).toInt % 51 = 20 → 0 ≤ x54.toInt ∧ x54.toInt ≤ 6) ∧ (21 ≤ (x53 : Int32).toInt % 51 → ((x53 : Int32).toInt % 51 - 21) % 5 < 2 → 0 ≤ x54.toInt ∧ x54.toInt ≤ 5) := hJ.ldLed (li_la_led ha) ex54 (by omega)
                  try (have kx54 : 0 ≤ x54.toInt ∧ x54.toInt ≤ 6 := lx54.1 (by clear lx54; omega))
                  try (have kx54 : 0 ≤ x54.toInt ∧ x54.toInt ≤ 5 := lx54.2 (by clear lx54; omega) (by clear lx54; omega))
                  clear lx54
                  refine li_iload 0 dX12_goDay_158 rfl ?_
                  refine li_isub dX12_goDay_160 ?_
                  refine li_top (fun x55 ex55 => ?_)
                  try (have tx55 : x55.toInt = (x54 : Int32).toInt - (x41 : Int32).toInt := tl_sub ex55 (by omega))
                  refine li_iadd dX12_goDay_161 ?_
                  refine li_top (fun x56 ex56 => ?_)
                  try (have tx56 : x56.toInt = (x52 : Int32).toInt + (x55 : Int32).toInt := tl_add ex56 (by omega))
                  refine li_iast dX12_goDay_162 (snA ha) (shA ha) (tl_in (by omega)) ?_
                  refine li_nm (fun M57 eM57 => ?_)
                  have hf := li_fs_ui hf (Or.inl rfl) eM57
                  try (have oM57 : (x51 : Int32).toInt % 51 = (x51 : Int32).toInt := by omega)
                  have hJ := hJ.st (by unfold li_la at ha; omega) (li_el_led (li_la_led ha) (by omega) (show ((x51 : Int32).toInt % 51 = 20 → 0 ≤ (x56 : Int32).toInt ∧ (x56 : Int32).toInt ≤ 6) ∧ (21 ≤ (x51 : Int32).toInt % 51 → ((x51 : Int32).toInt % 51 - 21) % 5 < 2 → 0 ≤ (x56 : Int32).toInt ∧ (x56 : Int32).toInt ≤ 5) by omega)) eM57
                  refine li_aload_n 3 dX12_goDay_163 rfl ?_
                  refine li_dup dX12_goDay_164 rfl ?_
                  refine li_geti (k := 25) (N := 52) (T := TX12) (C0 := RX12) dX12_goDay_165 (by decide) sh_175 rfl rfl (by decide) li_in12 w_1429 ?_
                  refine li_top (fun x58 ex58 => ?_)
                  have gx58 := tl_rg x58
                  have mx58 : x58.toInt = (M57.1 175 25).toInt := tl_slot ex58
                  refine li_iconst 1 dX12_goDay_168 (by decide) ?_
                  refine li_iadd dX12_goDay_169 ?_
                  refine li_top (fun x59 ex59 => ?_)
                  have z1 : (1 : Int32).toInt = 1 := rfl
                  try (have tx59 : x59.toInt = (x58 : Int32).toInt + (1 : Int32).toInt := tl_add ex59 (by omega))
                  refine li_puti (k := 25) (N := 52) (T := TX12) (C0 := RX12) dX12_goDay_170 (by decide) sh_175 rfl rfl (by decide) li_in12 tyX12_ok nmX12 rfl rfl rfl rfl w_1429 ?_
                  refine li_nm (fun M60 eM60 => ?_)
                  have hf := li_fs_ui hf (Or.inr (Or.inl ⟨rfl, rfl⟩)) eM60
                  have hJ := hJ.put (k := 25) (by decide) (rg_free rfl) eM60
                  refine li_aload_n 3 dX12_goDay_173 rfl ?_
                  refine li_dup dX12_goDay_174 rfl ?_
                  refine li_geti (k := 26) (N := 52) (T := TX12) (C0 := RX12) dX12_goDay_175 (by decide) sh_175 rfl rfl (by decide) li_in12 w_1430 ?_
                  refine li_top (fun x61 ex61 => ?_)
                  have gx61 := tl_rg x61
                  have mx61 : x61.toInt = (M60.1 175 26).toInt := tl_slot ex61
                  refine li_aload_n 4 dX12_goDay_178 rfl ?_
                  refine li_iload_n 1 dX12_goDay_179 rfl ?_
                  refine li_iconst 2 dX12_goDay_180 (by decide) ?_
                  refine li_iadd dX12_goDay_181 ?_
                  refine li_top (fun x62 ex62 => ?_)
                  have z2 : (2 : Int32).toInt = 2 := rfl
                  try (have tx62 : x62.toInt = (x26 : Int32).toInt + (2 : Int32).toInt := tl_add ex62 (by omega))
                  refine li_iald dX12_goDay_182 (snA ha) (shA ha) (tl_in (by omega)) ?_
                  refine li_top (fun x63 ex63 => ?_)
                  have gx63 := tl_rg x63
                  try (have ox63 : (x62 : Int32).toInt % 51 = (x62 : Int32).toInt := by omega)
                  have lx63 : ((x62 : Int32).toInt % 51 = 20 → 0 ≤ x63.toInt ∧ x63.toInt ≤ 6) ∧ (21 ≤ (x62 : Int32).toInt % 51 → ((x62 : Int32).toInt % 51 - 21) % 5 < 2 → 0 ≤ x63.toInt ∧ x63.toInt ≤ 5) := hJ.ldLed (li_la_led ha) ex63 (by omega)
                  try (have kx63 : 0 ≤ x63.toInt ∧ x63.toInt ≤ 6 := lx63.1 (by clear lx63; omega))
                  try (have kx63 : 0 ≤ x63.toInt ∧ x63.toInt ≤ 5 := lx63.2 (by clear lx63; omega) (by clear lx63; omega))
                  clear lx63
                  refine li_iload 0 dX12_goDay_183 rfl ?_
                  refine li_isub dX12_goDay_185 ?_
                  refine li_top (fun x64 ex64 => ?_)
                  try (have tx64 : x64.toInt = (x63 : Int32).toInt - (x41 : Int32).toInt := tl_sub ex64 (by omega))
                  refine li_iadd dX12_goDay_186 ?_
                  refine li_top (fun x65 ex65 => ?_)
                  try (have tx65 : x65.toInt = (x61 : Int32).toInt + (x64 : Int32).toInt := tl_add ex65 (by omega))
                  refine li_puti (k := 26) (N := 52) (T := TX12) (C0 := RX12) dX12_goDay_187 (by decide) sh_175 rfl rfl (by decide) li_in12 tyX12_ok nmX12 rfl rfl rfl rfl w_1430 ?_
                  refine li_nm (fun M66 eM66 => ?_)
                  have hf := li_fs_ui hf (Or.inr (Or.inr (⟨rfl, rfl⟩))) eM66
                  have hJ := hJ.put (k := 26) (by decide) (rg_free rfl) eM66
                  refine li_pick [1, 2, 3, 4] [(3, .int x26), (2, .int x8), (0, .ref (Z.2.2 175)), (1, .ref (Z.2.2 a))] rfl ?_
                  exact J190  M66 hf hJ
                · have tc35 : ¬ x33.toInt = x34.toInt := tl_ne c35
                  refine li_goto 190 dX12_goDay_103 (by decide) ?_
                  refine li_pick [0, 1, 2, 3] [(3, .int x26), (2, .int x8), (0, .ref (Z.2.2 175)), (1, .ref (Z.2.2 a))] rfl ?_
                  exact J190  M9 hf hJ
        have z0 : (0 : Int32).toInt = 0 := rfl
        exact L67 _ 0 M5 (Nat.lt_succ_self _) hf hJ (by omega)
      · have tc7 : x4.toInt < x6.toInt := tl_nle c7
        refine li_aload_n 2 dX12_goDay_18 rfl ?_
        refine li_bipush 19 dX12_goDay_19 (by decide) ?_
        have z19 : (19 : Int32).toInt = 19 := rfl
        refine li_iald dX12_goDay_21 (snA ha) (shA ha) (tl_in (by omega)) ?_
        refine li_top (fun x67 ex67 => ?_)
        have gx67 := tl_rg x67
        have lx67 : ((19 : Int32).toInt % 51 = 20 → 0 ≤ x67.toInt ∧ x67.toInt ≤ 6) ∧ (21 ≤ (19 : Int32).toInt % 51 → ((19 : Int32).toInt % 51 - 21) % 5 < 2 → 0 ≤ x67.toInt ∧ x67.toInt ≤ 5) := hJ.ldLed (li_la_led ha) ex67 (by omega)
        try (have kx67 : 0 ≤ x67.toInt ∧ x67.toInt ≤ 6 := lx67.1 (by clear lx67; omega))
        try (have kx67 : 0 ≤ x67.toInt ∧ x67.toInt ≤ 5 := lx67.2 (by clear lx67; omega) (by clear lx67; omega))
        clear lx67
        refine li_bipush 30 dX12_goDay_22 (by decide) ?_
        refine li_irem dX12_goDay_24 (by decide) ?_
        refine li_top (fun x68 ex68 => ?_)
        refine li_if_ne 65 dX12_goDay_25 (by decide) (fun c69 => ?_) (fun c69 => ?_)
        · have tc69 : ¬ x68.toInt = 0 := tl_ne c69
          refine li_iconst 0 dX12_goDay_65 (by decide) ?_
          refine li_istore_n [(2, .int 0), (0, .ref (Z.2.2 175)), (1, .ref (Z.2.2 a))] dX12_goDay_66 (by decide) rfl ?_
          have L67 : ∀ (n : Nat) (x70 : Int32) (M71 : li_M), (6 - (x70 : Int32).toInt).toNat < n → li_fs (fun i k => i = a ∨ (i = 175 ∧ k = 25) ∨ (i = 175 ∧ k = 26)) M0 M71 → li_J M71 → 0 ≤ (x70 : Int32).toInt → li_T l Z YX12_goDay d 67 [(2, .int x70), (0, .ref (Z.2.2 175)), (1, .ref (Z.2.2 a))] [] M71 (fun r M' => r = none ∧ li_fs (fun i k => i = a ∨ (i = 175 ∧ k = 25) ∨ (i = 175 ∧ k = 26)) M0 M' ∧ li_J M') := by
            intro n
            induction n with
            | zero => intro x70 M71 hn; exact absurd hn (Nat.not_lt_zero _)
            | succ n ih67 =>
              intro x70 M71 hn hf hJ hi
              have gx70 := tl_rg x70
              refine li_iload_n 0 dX12_goDay_67 rfl ?_
              refine li_aload_n 2 dX12_goDay_68 rfl ?_
              refine li_bipush 20 dX12_goDay_69 (by decide) ?_
              have z20 : (20 : Int32).toInt = 20 := rfl
              refine li_iald dX12_goDay_71 (snA ha) (shA ha) (tl_in (by omega)) ?_
              refine li_top (fun x72 ex72 => ?_)
              have gx72 := tl_rg x72
              have lx72 : ((20 : Int32).toInt % 51 = 20 → 0 ≤ x72.toInt ∧ x72.toInt ≤ 6) ∧ (21 ≤ (20 : Int32).toInt % 51 → ((20 : Int32).toInt % 51 - 21) % 5 < 2 → 0 ≤ x72.toInt ∧ x72.toInt ≤ 5) := hJ.ldLed (li_la_led ha) ex72 (by omega)
              try (have kx72 : 0 ≤ x72.toInt ∧ x72.toInt ≤ 6 := lx72.1 (by clear lx72; omega))
              try (have kx72 : 0 ≤ x72.toInt ∧ x72.toInt ≤ 5 := lx72.2 (by clear lx72; omega) (by clear lx72; omega))
              clear lx72
              refine li_icmp_ge 196 dX12_goDay_72 (by decide) (fun c73 => ?_) (fun c73 => ?_)
              · have tc73 : x72.toInt ≤ x70.toInt := tl_le c73
                refine li_aload_n 2 dX12_goDay_196 rfl ?_
                refine li_bipush 19 dX12_goDay_197 (by decide) ?_
                have z19 : (19 : Int32).toInt = 19 := rfl
                refine li_iald dX12_goDay_199 (snA ha) (shA ha) (tl_in (by omega)) ?_
                refine li_top (fun x74 ex74 => ?_)
                have gx74 := tl_rg x74
                have lx74 : ((19 : Int32).toInt % 51 = 20 → 0 ≤ x74.toInt ∧ x74.toInt ≤ 6) ∧ (21 ≤ (19 : Int32).toInt % 51 → ((19 : Int32).toInt % 51 - 21) % 5 < 2 → 0 ≤ x74.toInt ∧ x74.toInt ≤ 5) := hJ.ldLed (li_la_led ha) ex74 (by omega)
                try (have kx74 : 0 ≤ x74.toInt ∧ x74.toInt ≤ 6 := lx74.1 (by clear lx74; omega))
                try (have kx74 : 0 ≤ x74.toInt ∧ x74.toInt ≤ 5 := lx74.2 (by clear lx74; omega) (by clear lx74; omega))
                clear lx74
                refine li_bipush 100 dX12_goDay_200 (by decide) ?_
                refine li_irem dX12_goDay_202 (by decide) ?_
                refine li_top (fun x75 ex75 => ?_)
                refine li_if_eq 207 dX12_goDay_203 (by decide) (fun c76 => ?_) (fun c76 => ?_)
                · have tc76 : x75.toInt = 0 := tl_eq c76
                  refine li_iconst 0 dX12_goDay_207 (by decide) ?_
                  refine li_istore_n [(2, .int 0), (0, .ref (Z.2.2 175)), (1, .ref (Z.2.2 a))] dX12_goDay_208 (by decide) rfl ?_
                  have L209 : ∀ (n : Nat) (x77 : Int32) (M78 : li_M), (6 - (x77 : Int32).toInt).toNat < n → li_fs (fun i k => i = a ∨ (i = 175 ∧ k = 25) ∨ (i = 175 ∧ k = 26)) M0 M78 → li_J M78 → 0 ≤ (x77 : Int32).toInt → li_T l Z YX12_goDay d 209 [(2, .int x77), (0, .ref (Z.2.2 175)), (1, .ref (Z.2.2 a))] [] M78 (fun r M' => r = none ∧ li_fs (fun i k => i = a ∨ (i = 175 ∧ k = 25) ∨ (i = 175 ∧ k = 26)) M0 M' ∧ li_J M') := by
                    intro n
                    induction n with
                    | zero => intro x77 M78 hn; exact absurd hn (Nat.not_lt_zero _)
                    | succ n ih209 =>
                      intro x77 M78 hn hf hJ hi
                      have gx77 := tl_rg x77
                      refine li_iload_n 0 dX12_goDay_209 rfl ?_
                      refine li_aload_n 1 dX12_goDay_210 rfl ?_
                      refine li_geti (k := 1) (N := 52) (T := TX12) (C0 := RX12) dX12_goDay_211 (by decide) sh_175 rfl rfl (by decide) li_in12 w_1405 ?_
                      refine li_top (fun x79 ex79 => ?_)
                      have gx79 : 0 ≤ x79.toInt ∧ x79.toInt ≤ 6 := by rw [ex79]; exact J_sl1 hJ
                      have sx79 : x79.toInt = (M0.1 175 1).toInt := tl_slot (ex79.trans (hf.1 175 1 (show ¬ (175 = a ∨ (175 = 175 ∧ 1 = 25) ∨ (175 = 175 ∧ 1 = 26)) by omega)))
                      refine li_icmp_ge 239 dX12_goDay_214 (by decide) (fun c80 => ?_) (fun c80 => ?_)
                      · have tc80 : x79.toInt ≤ x77.toInt := tl_le c80
                        refine li_aload_n 2 dX12_goDay_239 rfl ?_
                        refine li_bipush 18 dX12_goDay_240 (by decide) ?_
                        refine li_iconst 0 dX12_goDay_242 (by decide) ?_
                        have z18 : (18 : Int32).toInt = 18 := rfl
                        have z0 : (0 : Int32).toInt = 0 := rfl
                        refine li_iast dX12_goDay_243 (snA ha) (shA ha) (tl_in (by omega)) ?_
                        refine li_nm (fun M81 eM81 => ?_)
                        have hf := li_fs_ui hf (Or.inl rfl) eM81
                        have hJ := hJ.st (by unfold li_la at ha; omega) (li_el_led (li_la_led ha) (by omega) (show ((18 : Int32).toInt % 51 = 20 → 0 ≤ (0 : Int32).toInt ∧ (0 : Int32).toInt ≤ 6) ∧ (21 ≤ (18 : Int32).toInt % 51 → ((18 : Int32).toInt % 51 - 21) % 5 < 2 → 0 ≤ (0 : Int32).toInt ∧ (0 : Int32).toInt ≤ 5) by omega)) eM81
                        exact li_vret dX12_goDay_244 rfl ⟨rfl, hf, hJ⟩
                      · have tc80 : x77.toInt < x79.toInt := tl_nle c80
                        refine li_aload_n 2 dX12_goDay_217 rfl ?_
                        refine li_iload_n 0 dX12_goDay_218 rfl ?_
                        refine li_aload_n 1 dX12_goDay_219 rfl ?_
                        refine li_getr (k := 3) (N := 52) (T := TX12) (C0 := RX12) dX12_goDay_220 (by decide) sh_175 rfl rfl (by decide) (by decide) li_in12 w_1407 ?_
                        refine li_iload_n 0 dX12_goDay_223 rfl ?_
                        refine li_iald dX12_goDay_224 (by decide) sh_178 (tl_in (by omega)) ?_
                        refine li_top (fun x82 ex82 => ?_)
                        have gx82 := tl_rg x82
                        refine li_iast dX12_goDay_225 (snA ha) (shA ha) (tl_in (by omega)) ?_
                        refine li_nm (fun M83 eM83 => ?_)
                        have hf := li_fs_ui hf (Or.inl rfl) eM83
                        try (have oM83 : (x77 : Int32).toInt % 51 = (x77 : Int32).toInt := by omega)
                        have hJ := hJ.st (by unfold li_la at ha; omega) (li_el_led (li_la_led ha) (by omega) (show ((x77 : Int32).toInt % 51 = 20 → 0 ≤ (x82 : Int32).toInt ∧ (x82 : Int32).toInt ≤ 6) ∧ (21 ≤ (x77 : Int32).toInt % 51 → ((x77 : Int32).toInt % 51 - 21) % 5 < 2 → 0 ≤ (x82 : Int32).toInt ∧ (x82 : Int32).toInt ≤ 5) by omega)) eM83
                        refine li_aload_n 2 dX12_goDay_226 rfl ?_
                        refine li_bipush 6 dX12_goDay_227 (by decide) ?_
                        refine li_iload_n 0 dX12_goDay_229 rfl ?_
                        refine li_iadd dX12_goDay_230 ?_
                        refine li_top (fun x84 ex84 => ?_)
                        have z6 : (6 : Int32).toInt = 6 := rfl
                        try (have tx84 : x84.toInt = (6 : Int32).toInt + (x77 : Int32).toInt := tl_add ex84 (by omega))
                        refine li_iconst 0 dX12_goDay_231 (by decide) ?_
                        have z0 : (0 : Int32).toInt = 0 := rfl
                        refine li_iast dX12_goDay_232 (snA ha) (shA ha) (tl_in (by omega)) ?_
                        refine li_nm (fun M85 eM85 => ?_)
                        have hf := li_fs_ui hf (Or.inl rfl) eM85
                        try (have oM85 : (x84 : Int32).toInt % 51 = (x84 : Int32).toInt := by omega)
                        have hJ := hJ.st (by unfold li_la at ha; omega) (li_el_led (li_la_led ha) (by omega) (show ((x84 : Int32).toInt % 51 = 20 → 0 ≤ (0 : Int32).toInt ∧ (0 : Int32).toInt ≤ 6) ∧ (21 ≤ (x84 : Int32).toInt % 51 → ((x84 : Int32).toInt % 51 - 21) % 5 < 2 → 0 ≤ (0 : Int32).toInt ∧ (0 : Int32).toInt ≤ 5) by omega)) eM85
                        obtain ⟨x86, ex86⟩ : ∃ y : Int32, y = x77 + 1 := ⟨_, rfl⟩
                        have z1 : (1 : Int32).toInt = 1 := rfl
                        try (have tx86 : x86.toInt = (x77 : Int32).toInt + (1 : Int32).toInt := tl_add ex86 (by omega))
                        refine li_iinc 0 [(2, .int x86), (0, .ref (Z.2.2 175)), (1, .ref (Z.2.2 a))] x86 dX12_goDay_233 rfl (by rw [ex86]; rfl) (by decide) rfl ?_
                        refine li_goto 209 dX12_goDay_236 (by decide) ?_
                        refine li_pick [0, 1, 2] [(2, .int x86), (0, .ref (Z.2.2 175)), (1, .ref (Z.2.2 a))] rfl ?_
                        exact ih209 x86 M85 (by omega) hf hJ (by omega)
                  have z0 : (0 : Int32).toInt = 0 := rfl
                  exact L209 _ 0 M71 (Nat.lt_succ_self _) hf hJ (by omega)
                · have tc76 : ¬ x75.toInt = 0 := tl_ne c76
                  exact li_vret dX12_goDay_206 rfl ⟨rfl, hf, hJ⟩
              · have tc73 : x70.toInt < x72.toInt := tl_nle c73
                refine li_bipush 21 dX12_goDay_75 (by decide) ?_
                refine li_iconst 5 dX12_goDay_77 (by decide) ?_
                refine li_iload_n 0 dX12_goDay_78 rfl ?_
                refine li_imul dX12_goDay_79 ?_
                refine li_top (fun x87 ex87 => ?_)
                have z5 : (5 : Int32).toInt = 5 := rfl
                try (have tx87 : x87.toInt = 5 * (x70 : Int32).toInt := tl_mul ex87 (show -2147483648 ≤ 5 * (x70 : Int32).toInt ∧ 5 * (x70 : Int32).toInt ≤ 2147483647 by omega))
                refine li_iadd dX12_goDay_80 ?_
                refine li_top (fun x88 ex88 => ?_)
                have z21 : (21 : Int32).toInt = 21 := rfl
                try (have tx88 : x88.toInt = (21 : Int32).toInt + (x87 : Int32).toInt := tl_add ex88 (by omega))
                refine li_istore_n [(3, .int x88), (2, .int x70), (0, .ref (Z.2.2 175)), (1, .ref (Z.2.2 a))] dX12_goDay_81 (by decide) rfl ?_
                refine li_aload_n 3 dX12_goDay_82 rfl ?_
                refine li_iload_n 0 dX12_goDay_83 rfl ?_
                refine li_iconst 4 dX12_goDay_84 (by decide) ?_
                refine li_iadd dX12_goDay_85 ?_
                refine li_top (fun x89 ex89 => ?_)
                have z4 : (4 : Int32).toInt = 4 := rfl
                try (have tx89 : x89.toInt = (x88 : Int32).toInt + (4 : Int32).toInt := tl_add ex89 (by omega))
                refine li_iald dX12_goDay_86 (snA ha) (shA ha) (tl_in (by omega)) ?_
                refine li_top (fun x90 ex90 => ?_)
                have gx90 := tl_rg x90
                try (have ox90 : (x89 : Int32).toInt % 51 = (x89 : Int32).toInt := by omega)
                have lx90 : ((x89 : Int32).toInt % 51 = 20 → 0 ≤ x90.toInt ∧ x90.toInt ≤ 6) ∧ (21 ≤ (x89 : Int32).toInt % 51 → ((x89 : Int32).toInt % 51 - 21) % 5 < 2 → 0 ≤ x90.toInt ∧ x90.toInt ≤ 5) := hJ.ldLed (li_la_led ha) ex90 (by omega)
                try (have kx90 : 0 ≤ x90.toInt ∧ x90.toInt ≤ 6 := lx90.1 (by clear lx90; omega))
                try (have kx90 : 0 ≤ x90.toInt ∧ x90.toInt ≤ 5 := lx90.2 (by clear lx90; omega) (by clear lx90; omega))
                clear lx90
                refine li_iconst 1 dX12_goDay_87 (by decide) ?_
                have J190 : ∀  (M92 : li_M), li_fs (fun i k => i = a ∨ (i = 175 ∧ k = 25) ∨ (i = 175 ∧ k = 26)) M0 M92 → li_J M92 → li_T l Z YX12_goDay d 190 [(3, .int x88), (2, .int x70), (0, .ref (Z.2.2 175)), (1, .ref (Z.2.2 a))] [] M92 (fun r M' => r = none ∧ li_fs (fun i k => i = a ∨ (i = 175 ∧ k = 25) ∨ (i = 175 ∧ k = 26)) M0 M' ∧ li_J M') := by
                  intro  M92 hf hJ
                  obtain ⟨x93, ex93⟩ : ∃ y : Int32, y = x70 + 1 := ⟨_, rfl⟩
                  have z1 : (1 : Int32).toInt = 1 := rfl
                  try (have tx93 : x93.toInt = (x70 : Int32).toInt + (1 : Int32).toInt := tl_add ex93 (by omega))
                  refine li_iinc 1 [(2, .int x93), (3, .int x88), (0, .ref (Z.2.2 175)), (1, .ref (Z.2.2 a))] x93 dX12_goDay_190 rfl (by rw [ex93]; rfl) (by decide) rfl ?_
                  refine li_goto 67 dX12_goDay_193 (by decide) ?_
                  refine li_pick [0, 2, 3] [(2, .int x93), (0, .ref (Z.2.2 175)), (1, .ref (Z.2.2 a))] rfl ?_
                  exact ih67 x93 M92 (by omega) hf hJ (by omega)
                refine li_icmp_eq 190 dX12_goDay_88 (by decide) (fun c91 => ?_) (fun c91 => ?_)
                · have tc91 : x90.toInt = 1 := tl_eq c91
                  refine li_pick [0, 1, 2, 3] [(3, .int x88), (2, .int x70), (0, .ref (Z.2.2 175)), (1, .ref (Z.2.2 a))] rfl ?_
                  exact J190  M71 hf hJ
                · have tc91 : ¬ x90.toInt = 1 := tl_ne c91
                  refine li_aload_n 3 dX12_goDay_91 rfl ?_
                  refine li_iload_n 0 dX12_goDay_92 rfl ?_
                  refine li_iconst 3 dX12_goDay_93 (by decide) ?_
                  refine li_iadd dX12_goDay_94 ?_
                  refine li_top (fun x94 ex94 => ?_)
                  have z3 : (3 : Int32).toInt = 3 := rfl
                  try (have tx94 : x94.toInt = (x88 : Int32).toInt + (3 : Int32).toInt := tl_add ex94 (by omega))
                  refine li_iald dX12_goDay_95 (snA ha) (shA ha) (tl_in (by omega)) ?_
                  refine li_top (fun x95 ex95 => ?_)
                  have gx95 := tl_rg x95
                  try (have ox95 : (x94 : Int32).toInt % 51 = (x94 : Int32).toInt := by omega)
                  have lx95 : ((x94 : Int32).toInt % 51 = 20 → 0 ≤ x95.toInt ∧ x95.toInt ≤ 6) ∧ (21 ≤ (x94 : Int32).toInt % 51 → ((x94 : Int32).toInt % 51 - 21) % 5 < 2 → 0 ≤ x95.toInt ∧ x95.toInt ≤ 5) := hJ.ldLed (li_la_led ha) ex95 (by omega)
                  try (have kx95 : 0 ≤ x95.toInt ∧ x95.toInt ≤ 6 := lx95.1 (by clear lx95; omega))
                  try (have kx95 : 0 ≤ x95.toInt ∧ x95.toInt ≤ 5 := lx95.2 (by clear lx95; omega) (by clear lx95; omega))
                  clear lx95
                  refine li_aload_n 3 dX12_goDay_96 rfl ?_
                  refine li_bipush 19 dX12_goDay_97 (by decide) ?_
                  have z19 : (19 : Int32).toInt = 19 := rfl
                  refine li_iald dX12_goDay_99 (snA ha) (shA ha) (tl_in (by omega)) ?_
                  refine li_top (fun x96 ex96 => ?_)
                  have gx96 := tl_rg x96
                  have lx96 : ((19 : Int32).toInt % 51 = 20 → 0 ≤ x96.toInt ∧ x96.toInt ≤ 6) ∧ (21 ≤ (19 : Int32).toInt % 51 → ((19 : Int32).toInt % 51 - 21) % 5 < 2 → 0 ≤ x96.toInt ∧ x96.toInt ≤ 5) := hJ.ldLed (li_la_led ha) ex96 (by omega)
                  try (have kx96 : 0 ≤ x96.toInt ∧ x96.toInt ≤ 6 := lx96.1 (by clear lx96; omega))
                  try (have kx96 : 0 ≤ x96.toInt ∧ x96.toInt ≤ 5 := lx96.2 (by clear lx96; omega) (by clear lx96; omega))
                  clear lx96
                  refine li_icmp_eq 106 dX12_goDay_100 (by decide) (fun c97 => ?_) (fun c97 => ?_)
                  · have tc97 : x95.toInt = x96.toInt := tl_eq c97
                    refine li_aload_n 3 dX12_goDay_106 rfl ?_
                    refine li_iload_n 0 dX12_goDay_107 rfl ?_
                    refine li_iconst 2 dX12_goDay_108 (by decide) ?_
                    refine li_iadd dX12_goDay_109 ?_
                    refine li_top (fun x98 ex98 => ?_)
                    have z2 : (2 : Int32).toInt = 2 := rfl
                    try (have tx98 : x98.toInt = (x88 : Int32).toInt + (2 : Int32).toInt := tl_add ex98 (by omega))
                    refine li_iald dX12_goDay_110 (snA ha) (shA ha) (tl_in (by omega)) ?_
                    refine li_top (fun x99 ex99 => ?_)
                    have gx99 := tl_rg x99
                    try (have ox99 : (x98 : Int32).toInt % 51 = (x98 : Int32).toInt := by omega)
                    have lx99 : ((x98 : Int32).toInt % 51 = 20 → 0 ≤ x99.toInt ∧ x99.toInt ≤ 6) ∧ (21 ≤ (x98 : Int32).toInt % 51 → ((x98 : Int32).toInt % 51 - 21) % 5 < 2 → 0 ≤ x99.toInt ∧ x99.toInt ≤ 5) := hJ.ldLed (li_la_led ha) ex99 (by omega)
                    try (have kx99 : 0 ≤ x99.toInt ∧ x99.toInt ≤ 6 := lx99.1 (by clear lx99; omega))
                    try (have kx99 : 0 ≤ x99.toInt ∧ x99.toInt ≤ 5 := lx99.2 (by clear lx99; omega) (by clear lx99; omega))
                    clear lx99
                    refine li_aload_n 3 dX12_goDay_111 rfl ?_
                    refine li_aload_n 3 dX12_goDay_112 rfl ?_
                    refine li_iload_n 0 dX12_goDay_113 rfl ?_
                    refine li_iconst 1 dX12_goDay_114 (by decide) ?_
                    refine li_iadd dX12_goDay_115 ?_
                    refine li_top (fun x100 ex100 => ?_)
                    have z1 : (1 : Int32).toInt = 1 := rfl
                    try (have tx100 : x100.toInt = (x88 : Int32).toInt + (1 : Int32).toInt := tl_add ex100 (by omega))
                    refine li_iald dX12_goDay_116 (snA ha) (shA ha) (tl_in (by omega)) ?_
                    refine li_top (fun x101 ex101 => ?_)
                    have gx101 := tl_rg x101
                    try (have ox101 : (x100 : Int32).toInt % 51 = (x100 : Int32).toInt := by omega)
                    have lx101 : ((x100 : Int32).toInt % 51 = 20 → 0 ≤ x101.toInt ∧ x101.toInt ≤ 6) ∧ (21 ≤ (x100 : Int32).toInt % 51 → ((x100 : Int32).toInt % 51 - 21) % 5 < 2 → 0 ≤ x101.toInt ∧ x101.toInt ≤ 5) := hJ.ldLed (li_la_led ha) ex101 (by omega)
                    try (have kx101 : 0 ≤ x101.toInt ∧ x101.toInt ≤ 6 := lx101.1 (by clear lx101; omega))
                    try (have kx101 : 0 ≤ x101.toInt ∧ x101.toInt ≤ 5 := lx101.2 (by clear lx101; omega) (by clear lx101; omega))
                    clear lx101
                    refine li_iald dX12_goDay_117 (snA ha) (shA ha) (tl_in (by omega)) ?_
                    refine li_top (fun x102 ex102 => ?_)
                    have gx102 := tl_rg x102
                    try (have ox102 : (x101 : Int32).toInt % 51 = (x101 : Int32).toInt := by omega)
                    have lx102 : ((x101 : Int32).toInt % 51 = 20 → 0 ≤ x102.toInt ∧ x102.toInt ≤ 6) ∧ (21 ≤ (x101 : Int32).toInt % 51 → ((x101 : Int32).toInt % 51 - 21) % 5 < 2 → 0 ≤ x102.toInt ∧ x102.toInt ≤ 5) := hJ.ldLed (li_la_led ha) ex102 (by omega)
                    try (have kx102 : 0 ≤ x102.toInt ∧ x102.toInt ≤ 6 := lx102.1 (by clear lx102; omega))
                    try (have kx102 : 0 ≤ x102.toInt ∧ x102.toInt ≤ 5 := lx102.2 (by clear lx102; omega) (by clear lx102; omega))
                    clear lx102
                    refine li_mmin dX12_goDay_118 (by omega) w_1705 w_726 w_113 w_727 (Nat.le_of_ble_eq_true rfl) ?_
                    refine li_top (fun x103 ex103 => ?_)
                    have tx103 := tl_min2 ex103
                    refine li_istore [(4, .int x103), (3, .int x88), (2, .int x70), (0, .ref (Z.2.2 175)), (1, .ref (Z.2.2 a))] dX12_goDay_121 (by decide) rfl ?_
                    refine li_aload_n 4 dX12_goDay_123 rfl ?_
                    refine li_aload_n 4 dX12_goDay_124 rfl ?_
                    refine li_iload_n 1 dX12_goDay_125 rfl ?_
                    refine li_iconst 1 dX12_goDay_126 (by decide) ?_
                    refine li_iadd dX12_goDay_127 ?_
                    refine li_top (fun x104 ex104 => ?_)
                    have z1 : (1 : Int32).toInt = 1 := rfl
                    try (have tx104 : x104.toInt = (x88 : Int32).toInt + (1 : Int32).toInt := tl_add ex104 (by omega))
                    refine li_iald dX12_goDay_128 (snA ha) (shA ha) (tl_in (by omega)) ?_
                    refine li_top (fun x105 ex105 => ?_)
                    have gx105 := tl_rg x105
                    try (have ox105 : (x104 : Int32).toInt % 51 = (x104 : Int32).toInt := by omega)
                    have lx105 : ((x104 : Int32).toInt % 51 = 20 → 0 ≤ x105.toInt ∧ x105.toInt ≤ 6) ∧ (21 ≤ (x104 : Int32).toInt % 51 → ((x104 : Int32).toInt % 51 - 21) % 5 < 2 → 0 ≤ x105.toInt ∧ x105.toInt ≤ 5) := hJ.ldLed (li_la_led ha) ex105 (by omega)
                    try (have kx105 : 0 ≤ x105.toInt ∧ x105.toInt ≤ 6 := lx105.1 (by clear lx105; omega))
                    try (have kx105 : 0 ≤ x105.toInt ∧ x105.toInt ≤ 5 := lx105.2 (by clear lx105; omega) (by clear lx105; omega))
                    clear lx105
                    refine li_aload_n 4 dX12_goDay_129 rfl ?_
                    refine li_iload_n 1 dX12_goDay_130 rfl ?_
                    refine li_iald dX12_goDay_131 (snA ha) (shA ha) (tl_in (by omega)) ?_
                    refine li_top (fun x106 ex106 => ?_)
                    have gx106 := tl_rg x106
                    try (have ox106 : (x88 : Int32).toInt % 51 = (x88 : Int32).toInt := by omega)
                    have lx106 : ((x88 : Int32).toInt % 51 = 20 → 0 ≤ x106.toInt ∧ x106.toInt ≤ 6) ∧ (21 ≤ (x88 : Int32).toInt % 51 → ((x88 : Int32).toInt % 51 - 21) % 5 < 2 → 0 ≤ x106.toInt ∧ x106.toInt ≤ 5) := hJ.ldLed (li_la_led ha) ex106 (by omega)
                    try (have kx106 : 0 ≤ x106.toInt ∧ x106.toInt ≤ 6 := lx106.1 (by clear lx106; omega))
                    try (have kx106 : 0 ≤ x106.toInt ∧ x106.toInt ≤ 5 := lx106.2 (by clear lx106; omega) (by clear lx106; omega))
                    clear lx106
                    refine li_iload 0 dX12_goDay_132 rfl ?_
                    refine li_callS (n := 4) (As := [.ref (Z.2.2 a), .int x105, .int x106, .int x103]) dX12_goDay_134 (k_X12_goGive (d - 1) (by omega) ha x105 x106 x103 M71 hJ (by omega) (by omega)) (by omega) (Nat.le_of_ble_eq_true rfl) w_1768 w_1769 w_112 w_1770 (by decide +kernel) rfl rfl (Nat.le_of_ble_eq_true rfl) (fun r M108 h109 => ?_)
                    obtain ⟨⟨x107, rfl⟩, h109, jM108⟩ := h109
                    have gx107 := tl_rg x107
                    have hf := li_fs_trans hf h109 (fun i k => fun h => Or.inl h)
                    have hJ := jM108
                    refine li_pop dX12_goDay_137 rfl ?_
                    refine li_aload_n 4 dX12_goDay_138 rfl ?_
                    refine li_iload_n 1 dX12_goDay_139 rfl ?_
                    refine li_iconst 4 dX12_goDay_140 (by decide) ?_
                    refine li_iadd dX12_goDay_141 ?_
                    refine li_top (fun x110 ex110 => ?_)
                    have z4 : (4 : Int32).toInt = 4 := rfl
                    try (have tx110 : x110.toInt = (x88 : Int32).toInt + (4 : Int32).toInt := tl_add ex110 (by omega))
                    refine li_iconst 1 dX12_goDay_142 (by decide) ?_
                    have z1 : (1 : Int32).toInt = 1 := rfl
                    refine li_iast dX12_goDay_143 (snA ha) (shA ha) (tl_in (by omega)) ?_
                    refine li_nm (fun M111 eM111 => ?_)
                    have hf := li_fs_ui hf (Or.inl rfl) eM111
                    try (have oM111 : (x110 : Int32).toInt % 51 = (x110 : Int32).toInt := by omega)
                    have hJ := hJ.st (by unfold li_la at ha; omega) (li_el_led (li_la_led ha) (by omega) (show ((x110 : Int32).toInt % 51 = 20 → 0 ≤ (1 : Int32).toInt ∧ (1 : Int32).toInt ≤ 6) ∧ (21 ≤ (x110 : Int32).toInt % 51 → ((x110 : Int32).toInt % 51 - 21) % 5 < 2 → 0 ≤ (1 : Int32).toInt ∧ (1 : Int32).toInt ≤ 5) by omega)) eM111
                    refine li_aload_n 4 dX12_goDay_144 rfl ?_
                    refine li_bipush 12 dX12_goDay_145 (by decide) ?_
                    refine li_aload_n 4 dX12_goDay_147 rfl ?_
                    refine li_iload_n 1 dX12_goDay_148 rfl ?_
                    refine li_iald dX12_goDay_149 (snA ha) (shA ha) (tl_in (by omega)) ?_
                    refine li_top (fun x112 ex112 => ?_)
                    have gx112 := tl_rg x112
                    try (have ox112 : (x88 : Int32).toInt % 51 = (x88 : Int32).toInt := by omega)
                    have lx112 : ((x88 : Int32).toInt % 51 = 20 → 0 ≤ x112.toInt ∧ x112.toInt ≤ 6) ∧ (21 ≤ (x88 : Int32).toInt % 51 → ((x88 : Int32).toInt % 51 - 21) % 5 < 2 → 0 ≤ x112.toInt ∧ x112.toInt ≤ 5) := hJ.ldLed (li_la_led ha) ex112 (by omega)
                    try (have kx112 : 0 ≤ x112.toInt ∧ x112.toInt ≤ 6 := lx112.1 (by clear lx112; omega))
                    try (have kx112 : 0 ≤ x112.toInt ∧ x112.toInt ≤ 5 := lx112.2 (by clear lx112; omega) (by clear lx112; omega))
                    clear lx112
                    refine li_iadd dX12_goDay_150 ?_
                    refine li_top (fun x113 ex113 => ?_)
                    have z12 : (12 : Int32).toInt = 12 := rfl
                    try (have tx113 : x113.toInt = (12 : Int32).toInt + (x112 : Int32).toInt := tl_add ex113 (by omega))
                    refine li_dup2 dX12_goDay_151 rfl rfl ?_
                    refine li_iald dX12_goDay_152 (snA ha) (shA ha) (tl_in (by omega)) ?_
                    refine li_top (fun x114 ex114 => ?_)
                    have gx114 := tl_rg x114
                    try (have ox114 : (x113 : Int32).toInt % 51 = (x113 : Int32).toInt := by omega)
                    have lx114 : ((x113 : Int32).toInt % 51 = 20 → 0 ≤ x114.toInt ∧ x114.toInt ≤ 6) ∧ (21 ≤ (x113 : Int32).toInt % 51 → ((x113 : Int32).toInt % 51 - 21) % 5 < 2 → 0 ≤ x114.toInt ∧ x114.toInt ≤ 5) := hJ.ldLed (li_la_led ha) ex114 (by omega)
                    try (have kx114 : 0 ≤ x114.toInt ∧ x114.toInt ≤ 6 := lx114.1 (by clear lx114; omega))
                    try (have kx114 : 0 ≤ x114.toInt ∧ x114.toInt ≤ 5 := lx114.2 (by clear lx114; omega) (by clear lx114; omega))
                    clear lx114
                    refine li_aload_n 4 dX12_goDay_153 rfl ?_
                    refine li_iload_n 1 dX12_goDay_154 rfl ?_
                    refine li_iconst 2 dX12_goDay_155 (by decide) ?_
                    refine li_iadd dX12_goDay_156 ?_
                    refine li_top (fun x115 ex115 => ?_)
                    have z2 : (2 : Int32).toInt = 2 := rfl
                    try (have tx115 : x115.toInt = (x88 : Int32).toInt + (2 : Int32).toInt := tl_add ex115 (by omega))
                    refine li_iald dX12_goDay_157 (snA ha) (shA ha) (tl_in (by omega)) ?_
                    refine li_top (fun x116 ex116 => ?_)
                    have gx116 := tl_rg x116
                    try (have ox116 : (x115 : Int32).toInt % 51 = (x115 : Int32).toInt := by omega)
                    have lx116 : ((x115 : Int32).toInt % 51 = 20 → 0 ≤ x116.toInt ∧ x116.toInt ≤ 6) ∧ (21 ≤ (x115 : Int32).toInt % 51 → ((x115 : Int32).toInt % 51 - 21) % 5 < 2 → 0 ≤ x116.toInt ∧ x116.toInt ≤ 5) := hJ.ldLed (li_la_led ha) ex116 (by omega)
                    try (have kx116 : 0 ≤ x116.toInt ∧ x116.toInt ≤ 6 := lx116.1 (by clear lx116; omega))
                    try (have kx116 : 0 ≤ x116.toInt ∧ x116.toInt ≤ 5 := lx116.2 (by clear lx116; omega) (by clear lx116; omega))
                    clear lx116
                    refine li_iload 0 dX12_goDay_158 rfl ?_
                    refine li_isub dX12_goDay_160 ?_
                    refine li_top (fun x117 ex117 => ?_)
                    try (have tx117 : x117.toInt = (x116 : Int32).toInt - (x103 : Int32).toInt := tl_sub ex117 (by omega))
                    refine li_iadd dX12_goDay_161 ?_
                    refine li_top (fun x118 ex118 => ?_)
                    try (have tx118 : x118.toInt = (x114 : Int32).toInt + (x117 : Int32).toInt := tl_add ex118 (by omega))
                    refine li_iast dX12_goDay_162 (snA ha) (shA ha) (tl_in (by omega)) ?_
                    refine li_nm (fun M119 eM119 => ?_)
                    have hf := li_fs_ui hf (Or.inl rfl) eM119
                    try (have oM119 : (x113 : Int32).toInt % 51 = (x113 : Int32).toInt := by omega)
                    have hJ := hJ.st (by unfold li_la at ha; omega) (li_el_led (li_la_led ha) (by omega) (show ((x113 : Int32).toInt % 51 = 20 → 0 ≤ (x118 : Int32).toInt ∧ (x118 : Int32).toInt ≤ 6) ∧ (21 ≤ (x113 : Int32).toInt % 51 → ((x113 : Int32).toInt % 51 - 21) % 5 < 2 → 0 ≤ (x118 : Int32).toInt ∧ (x118 : Int32).toInt ≤ 5) by omega)) eM119
                    refine li_aload_n 3 dX12_goDay_163 rfl ?_
                    refine li_dup dX12_goDay_164 rfl ?_
                    refine li_geti (k := 25) (N := 52) (T := TX12) (C0 := RX12) dX12_goDay_165 (by decide) sh_175 rfl rfl (by decide) li_in12 w_1429 ?_
                    refine li_top (fun x120 ex120 => ?_)
                    have gx120 := tl_rg x120
                    have mx120 : x120.toInt = (M119.1 175 25).toInt := tl_slot ex120
                    refine li_iconst 1 dX12_goDay_168 (by decide) ?_
                    refine li_iadd dX12_goDay_169 ?_
                    refine li_top (fun x121 ex121 => ?_)
                    have z1 : (1 : Int32).toInt = 1 := rfl
                    try (have tx121 : x121.toInt = (x120 : Int32).toInt + (1 : Int32).toInt := tl_add ex121 (by omega))
                    refine li_puti (k := 25) (N := 52) (T := TX12) (C0 := RX12) dX12_goDay_170 (by decide) sh_175 rfl rfl (by decide) li_in12 tyX12_ok nmX12 rfl rfl rfl rfl w_1429 ?_
                    refine li_nm (fun M122 eM122 => ?_)
                    have hf := li_fs_ui hf (Or.inr (Or.inl ⟨rfl, rfl⟩)) eM122
                    have hJ := hJ.put (k := 25) (by decide) (rg_free rfl) eM122
                    refine li_aload_n 3 dX12_goDay_173 rfl ?_
                    refine li_dup dX12_goDay_174 rfl ?_
                    refine li_geti (k := 26) (N := 52) (T := TX12) (C0 := RX12) dX12_goDay_175 (by decide) sh_175 rfl rfl (by decide) li_in12 w_1430 ?_
                    refine li_top (fun x123 ex123 => ?_)
                    have gx123 := tl_rg x123
                    have mx123 : x123.toInt = (M122.1 175 26).toInt := tl_slot ex123
                    refine li_aload_n 4 dX12_goDay_178 rfl ?_
                    refine li_iload_n 1 dX12_goDay_179 rfl ?_
                    refine li_iconst 2 dX12_goDay_180 (by decide) ?_
                    refine li_iadd dX12_goDay_181 ?_
                    refine li_top (fun x124 ex124 => ?_)
                    have z2 : (2 : Int32).toInt = 2 := rfl
                    try (have tx124 : x124.toInt = (x88 : Int32).toInt + (2 : Int32).toInt := tl_add ex124 (by omega))
                    refine li_iald dX12_goDay_182 (snA ha) (shA ha) (tl_in (by omega)) ?_
                    refine li_top (fun x125 ex125 => ?_)
                    have gx125 := tl_rg x125
                    try (have ox125 : (x124 : Int32).toInt % 51 = (x124 : Int32).toInt := by omega)
                    have lx125 : ((x124 : Int32).toInt % 51 = 20 → 0 ≤ x125.toInt ∧ x125.toInt ≤ 6) ∧ (21 ≤ (x124 : Int32).toInt % 51 → ((x124 : Int32).toInt % 51 - 21) % 5 < 2 → 0 ≤ x125.toInt ∧ x125.toInt ≤ 5) := hJ.ldLed (li_la_led ha) ex125 (by omega)
                    try (have kx125 : 0 ≤ x125.toInt ∧ x125.toInt ≤ 6 := lx125.1 (by clear lx125; omega))
                    try (have kx125 : 0 ≤ x125.toInt ∧ x125.toInt ≤ 5 := lx125.2 (by clear lx125; omega) (by clear lx125; omega))
                    clear lx125
                    refine li_iload 0 dX12_goDay_183 rfl ?_
                    refine li_isub dX12_goDay_185 ?_
                    refine li_top (fun x126 ex126 => ?_)
                    try (have tx126 : x126.toInt = (x125 : Int32).toInt - (x103 : Int32).toInt := tl_sub ex126 (by omega))
                    refine li_iadd dX12_goDay_186 ?_
                    refine li_top (fun x127 ex127 => ?_)
                    try (have tx127 : x127.toInt = (x123 : Int32).toInt + (x126 : Int32).toInt := tl_add ex127 (by omega))
                    refine li_puti (k := 26) (N := 52) (T := TX12) (C0 := RX12) dX12_goDay_187 (by decide) sh_175 rfl rfl (by decide) li_in12 tyX12_ok nmX12 rfl rfl rfl rfl w_1430 ?_
                    refine li_nm (fun M128 eM128 => ?_)
                    have hf := li_fs_ui hf (Or.inr (Or.inr (⟨rfl, rfl⟩))) eM128
                    have hJ := hJ.put (k := 26) (by decide) (rg_free rfl) eM128
                    refine li_pick [1, 2, 3, 4] [(3, .int x88), (2, .int x70), (0, .ref (Z.2.2 175)), (1, .ref (Z.2.2 a))] rfl ?_
                    exact J190  M128 hf hJ
                  · have tc97 : ¬ x95.toInt = x96.toInt := tl_ne c97
                    refine li_goto 190 dX12_goDay_103 (by decide) ?_
                    refine li_pick [0, 1, 2, 3] [(3, .int x88), (2, .int x70), (0, .ref (Z.2.2 175)), (1, .ref (Z.2.2 a))] rfl ?_
                    exact J190  M71 hf hJ
          have z0 : (0 : Int32).toInt = 0 := rfl
          exact L67 _ 0 M5 (Nat.lt_succ_self _) hf hJ (by omega)
        · have tc69 : x68.toInt = 0 := tl_eq c69
          refine li_bipush 21 dX12_goDay_28 (by decide) ?_
          refine li_iconst 5 dX12_goDay_30 (by decide) ?_
          refine li_iload_n 0 dX12_goDay_31 rfl ?_
          refine li_imul dX12_goDay_32 ?_
          refine li_top (fun x129 ex129 => ?_)
          have z5 : (5 : Int32).toInt = 5 := rfl
          try (have tx129 : x129.toInt = 5 * (x4 : Int32).toInt := tl_mul ex129 (show -2147483648 ≤ 5 * (x4 : Int32).toInt ∧ 5 * (x4 : Int32).toInt ≤ 2147483647 by omega))
          refine li_iadd dX12_goDay_33 ?_
          refine li_top (fun x130 ex130 => ?_)
          have z21 : (21 : Int32).toInt = 21 := rfl
          try (have tx130 : x130.toInt = (21 : Int32).toInt + (x129 : Int32).toInt := tl_add ex130 (by omega))
          refine li_istore_n [(3, .int x130), (2, .int x4), (0, .ref (Z.2.2 175)), (1, .ref (Z.2.2 a))] dX12_goDay_34 (by decide) rfl ?_
          refine li_aload_n 3 dX12_goDay_35 rfl ?_
          refine li_iload_n 0 dX12_goDay_36 rfl ?_
          refine li_iconst 4 dX12_goDay_37 (by decide) ?_
          refine li_iadd dX12_goDay_38 ?_
          refine li_top (fun x131 ex131 => ?_)
          have z4 : (4 : Int32).toInt = 4 := rfl
          try (have tx131 : x131.toInt = (x130 : Int32).toInt + (4 : Int32).toInt := tl_add ex131 (by omega))
          refine li_iald dX12_goDay_39 (snA ha) (shA ha) (tl_in (by omega)) ?_
          refine li_top (fun x132 ex132 => ?_)
          have gx132 := tl_rg x132
          try (have ox132 : (x131 : Int32).toInt % 51 = (x131 : Int32).toInt := by omega)
          have lx132 : ((x131 : Int32).toInt % 51 = 20 → 0 ≤ x132.toInt ∧ x132.toInt ≤ 6) ∧ (21 ≤ (x131 : Int32).toInt % 51 → ((x131 : Int32).toInt % 51 - 21) % 5 < 2 → 0 ≤ x132.toInt ∧ x132.toInt ≤ 5) := hJ.ldLed (li_la_led ha) ex132 (by omega)
          try (have kx132 : 0 ≤ x132.toInt ∧ x132.toInt ≤ 6 := lx132.1 (by clear lx132; omega))
          try (have kx132 : 0 ≤ x132.toInt ∧ x132.toInt ≤ 5 := lx132.2 (by clear lx132; omega) (by clear lx132; omega))
          clear lx132
          have J59 : ∀  (M134 : li_M), li_fs (fun i k => i = a ∨ (i = 175 ∧ k = 25) ∨ (i = 175 ∧ k = 26)) M0 M134 → li_J M134 → li_T l Z YX12_goDay d 59 [(3, .int x130), (2, .int x4), (0, .ref (Z.2.2 175)), (1, .ref (Z.2.2 a))] [] M134 (fun r M' => r = none ∧ li_fs (fun i k => i = a ∨ (i = 175 ∧ k = 25) ∨ (i = 175 ∧ k = 26)) M0 M' ∧ li_J M') := by
            intro  M134 hf hJ
            obtain ⟨x135, ex135⟩ : ∃ y : Int32, y = x4 + 1 := ⟨_, rfl⟩
            have z1 : (1 : Int32).toInt = 1 := rfl
            try (have tx135 : x135.toInt = (x4 : Int32).toInt + (1 : Int32).toInt := tl_add ex135 (by omega))
            refine li_iinc 1 [(2, .int x135), (3, .int x130), (0, .ref (Z.2.2 175)), (1, .ref (Z.2.2 a))] x135 dX12_goDay_59 rfl (by rw [ex135]; rfl) (by decide) rfl ?_
            refine li_goto 10 dX12_goDay_62 (by decide) ?_
            refine li_pick [0, 2, 3] [(2, .int x135), (0, .ref (Z.2.2 175)), (1, .ref (Z.2.2 a))] rfl ?_
            exact ih10 x135 M134 (by omega) hf hJ (by omega)
          refine li_if_ne 59 dX12_goDay_40 (by decide) (fun c133 => ?_) (fun c133 => ?_)
          · have tc133 : ¬ x132.toInt = 0 := tl_ne c133
            refine li_pick [0, 1, 2, 3] [(3, .int x130), (2, .int x4), (0, .ref (Z.2.2 175)), (1, .ref (Z.2.2 a))] rfl ?_
            exact J59  M5 hf hJ
          · have tc133 : x132.toInt = 0 := tl_eq c133
            refine li_aload_n 3 dX12_goDay_43 rfl ?_
            refine li_iload_n 0 dX12_goDay_44 rfl ?_
            refine li_iconst 2 dX12_goDay_45 (by decide) ?_
            refine li_iadd dX12_goDay_46 ?_
            refine li_top (fun x136 ex136 => ?_)
            have z2 : (2 : Int32).toInt = 2 := rfl
            try (have tx136 : x136.toInt = (x130 : Int32).toInt + (2 : Int32).toInt := tl_add ex136 (by omega))
            refine li_dup2 dX12_goDay_47 rfl rfl ?_
            refine li_iald dX12_goDay_48 (snA ha) (shA ha) (tl_in (by omega)) ?_
            refine li_top (fun x137 ex137 => ?_)
            have gx137 := tl_rg x137
            try (have ox137 : (x136 : Int32).toInt % 51 = (x136 : Int32).toInt := by omega)
            have lx137 : ((x136 : Int32).toInt % 51 = 20 → 0 ≤ x137.toInt ∧ x137.toInt ≤ 6) ∧ (21 ≤ (x136 : Int32).toInt % 51 → ((x136 : Int32).toInt % 51 - 21) % 5 < 2 → 0 ≤ x137.toInt ∧ x137.toInt ≤ 5) := hJ.ldLed (li_la_led ha) ex137 (by omega)
            try (have kx137 : 0 ≤ x137.toInt ∧ x137.toInt ≤ 6 := lx137.1 (by clear lx137; omega))
            try (have kx137 : 0 ≤ x137.toInt ∧ x137.toInt ≤ 5 := lx137.2 (by clear lx137; omega) (by clear lx137; omega))
            clear lx137
            refine li_aload_n 3 dX12_goDay_49 rfl ?_
            refine li_iload_n 0 dX12_goDay_50 rfl ?_
            refine li_iconst 2 dX12_goDay_51 (by decide) ?_
            refine li_iadd dX12_goDay_52 ?_
            refine li_top (fun x138 ex138 => ?_)
            have z2 : (2 : Int32).toInt = 2 := rfl
            try (have tx138 : x138.toInt = (x130 : Int32).toInt + (2 : Int32).toInt := tl_add ex138 (by omega))
            refine li_iald dX12_goDay_53 (snA ha) (shA ha) (tl_in (by omega)) ?_
            refine li_top (fun x139 ex139 => ?_)
            have gx139 := tl_rg x139
            try (have ox139 : (x138 : Int32).toInt % 51 = (x138 : Int32).toInt := by omega)
            have lx139 : ((x138 : Int32).toInt % 51 = 20 → 0 ≤ x139.toInt ∧ x139.toInt ≤ 6) ∧ (21 ≤ (x138 : Int32).toInt % 51 → ((x138 : Int32).toInt % 51 - 21) % 5 < 2 → 0 ≤ x139.toInt ∧ x139.toInt ≤ 5) := hJ.ldLed (li_la_led ha) ex139 (by omega)
            try (have kx139 : 0 ≤ x139.toInt ∧ x139.toInt ≤ 6 := lx139.1 (by clear lx139; omega))
            try (have kx139 : 0 ≤ x139.toInt ∧ x139.toInt ≤ 5 := lx139.2 (by clear lx139; omega) (by clear lx139; omega))
            clear lx139
            refine li_bipush 10 dX12_goDay_54 (by decide) ?_
            refine li_idiv dX12_goDay_56 (by decide) ?_
            refine li_top (fun x140 ex140 => ?_)
            refine li_iadd dX12_goDay_57 ?_
            refine li_top (fun x141 ex141 => ?_)
            try (have tx141 : x141.toInt = (x137 : Int32).toInt + (x140 : Int32).toInt := tl_add ex141 (by omega))
            refine li_iast dX12_goDay_58 (snA ha) (shA ha) (tl_in (by omega)) ?_
            refine li_nm (fun M142 eM142 => ?_)
            have hf := li_fs_ui hf (Or.inl rfl) eM142
            try (have oM142 : (x136 : Int32).toInt % 51 = (x136 : Int32).toInt := by omega)
            have hJ := hJ.st (by unfold li_la at ha; omega) (li_el_led (li_la_led ha) (by omega) (show ((x136 : Int32).toInt % 51 = 20 → 0 ≤ (x141 : Int32).toInt ∧ (x141 : Int32).toInt ≤ 6) ∧ (21 ≤ (x136 : Int32).toInt % 51 → ((x136 : Int32).toInt % 51 - 21) % 5 < 2 → 0 ≤ (x141 : Int32).toInt ∧ (x141 : Int32).toInt ≤ 5) by omega)) eM142
            refine li_pick [0, 1, 2, 3] [(3, .int x130), (2, .int x4), (0, .ref (Z.2.2 175)), (1, .ref (Z.2.2 a))] rfl ?_
            exact J59  M142 hf hJ
  have z0 : (0 : Int32).toInt = 0 := rfl
  exact L10 _ 0 M3 (Nat.lt_succ_self _) hf hJ (by omega)
