theorem w_42 : (Jvm.Cond.selects "ClockForTalkModel" ({ cls := "ClockForTalkModel", name := "begin", desc := "([BII)V" } : Jvm.MethodName) ({ cls := "ClockForTalkModel", name := "begin", desc := "([BII)V" } : Jvm.MethodName)) ∈ li_ws := li_mem 42 (by decide +kernel) (by decide +kernel)
theorem w_1407 : (Jvm.Cond.fieldLink "ClockForTalkModel" (16 : Nat) "ClockForTalkModel" "yearly" "[I") ∈ li_ws := li_mem 1407 (by decide +kernel) (by decide +kernel)
theorem w_1420 : (Jvm.Cond.fieldLink "ClockForTalkModel" (29 : Nat) "ClockForTalkModel" "comes" "[I") ∈ li_ws := li_mem 1420 (by decide +kernel) (by decide +kernel)
theorem w_1427 : (Jvm.Cond.fieldLink "ClockForTalkModel" (174 : Nat) "ClockForTalkModel" "undoMany" "I") ∈ li_ws := li_mem 1427 (by decide +kernel) (by decide +kernel)
theorem w_1452 : (Jvm.Cond.fieldLink "ClockForTalkModel" (177 : Nat) "ClockForTalkModel" "came" "I") ∈ li_ws := li_mem 1452 (by decide +kernel) (by decide +kernel)
theorem w_1577 : (Jvm.Cond.methodLink "ClockForTalkModel" (162 : Nat) ({ cls := "ClockForTalkModel", name := "begin", desc := "([BII)V" } : Jvm.MethodName)) ∈ li_ws := li_mem 1577 (by decide +kernel) (by decide +kernel)
theorem w_1579 : (Jvm.Cond.instanceMethod ({ cls := "ClockForTalkModel", name := "begin", desc := "([BII)V" } : Jvm.MethodName)) ∈ li_ws := li_mem 1579 (by decide +kernel) (by decide +kernel)
theorem w_1580 : (Jvm.Cond.code ({ cls := "ClockForTalkModel", name := "begin", desc := "([BII)V" } : Jvm.MethodName) prog_13_method_12_code (4 : Nat) (Option.none : Option Jvm.ClassFile.FieldType)) ∈ li_ws := li_mem 1580 (by decide +kernel) (by decide +kernel)
theorem dX12_people_0 : decode cX12_people 0 = .ok (.aload_n 0, 1) := by decide +kernel
theorem dX12_people_1 : decode cX12_people 1 = .ok (.iconst 0, 1) := by decide +kernel
theorem dX12_people_2 : decode cX12_people 2 = .ok (.putfield 103, 3) := by decide +kernel
theorem dX12_people_5 : decode cX12_people 5 = .ok (.aload_n 0, 1) := by decide +kernel
theorem dX12_people_6 : decode cX12_people 6 = .ok (.aload_n 0, 1) := by decide +kernel
theorem dX12_people_7 : decode cX12_people 7 = .ok (.getfield 22, 3) := by decide +kernel
theorem dX12_people_10 : decode cX12_people 10 = .ok (.aload_n 0, 1) := by decide +kernel
theorem dX12_people_11 : decode cX12_people 11 = .ok (.getfield 124, 3) := by decide +kernel
theorem dX12_people_14 : decode cX12_people 14 = .ok (.bipush 76, 2) := by decide +kernel
theorem dX12_people_16 : decode cX12_people 16 = .ok (.invokevirtual 162, 3) := by decide +kernel
theorem dX12_people_19 : decode cX12_people 19 = .ok (.aload_n 0, 1) := by decide +kernel
theorem dX12_people_20 : decode cX12_people 20 = .ok (.iconst 0, 1) := by decide +kernel
theorem dX12_people_21 : decode cX12_people 21 = .ok (.putfield 124, 3) := by decide +kernel
theorem dX12_people_24 : decode cX12_people 24 = .ok (.aload_n 0, 1) := by decide +kernel
theorem dX12_people_25 : decode cX12_people 25 = .ok (.getfield 130, 3) := by decide +kernel
theorem dX12_people_28 : decode cX12_people 28 = .ok (.ifCond .ne 5, 3) := by decide +kernel
theorem dX12_people_31 : decode cX12_people 31 = .ok (.iconst 0, 1) := by decide +kernel
theorem dX12_people_32 : decode cX12_people 32 = .ok (.ireturn, 1) := by decide +kernel
theorem dX12_people_33 : decode cX12_people 33 = .ok (.iconst 0, 1) := by decide +kernel
theorem dX12_people_34 : decode cX12_people 34 = .ok (.istore_n 1, 1) := by decide +kernel
theorem dX12_people_35 : decode cX12_people 35 = .ok (.iconst 1, 1) := by decide +kernel
theorem dX12_people_36 : decode cX12_people 36 = .ok (.istore_n 2, 1) := by decide +kernel
theorem dX12_people_37 : decode cX12_people 37 = .ok (.iload_n 2, 1) := by decide +kernel
theorem dX12_people_38 : decode cX12_people 38 = .ok (.ifCond .eq 79, 3) := by decide +kernel
theorem dX12_people_41 : decode cX12_people 41 = .ok (.aload_n 0, 1) := by decide +kernel
theorem dX12_people_42 : decode cX12_people 42 = .ok (.invokevirtual 142, 3) := by decide +kernel
theorem dX12_people_45 : decode cX12_people 45 = .ok (.ifCond .eq 72, 3) := by decide +kernel
theorem dX12_people_48 : decode cX12_people 48 = .ok (.aload_n 0, 1) := by decide +kernel
theorem dX12_people_49 : decode cX12_people 49 = .ok (.getfield 110, 3) := by decide +kernel
theorem dX12_people_52 : decode cX12_people 52 = .ok (.iload_n 1, 1) := by decide +kernel
theorem dX12_people_53 : decode cX12_people 53 = .ok (.iadd, 1) := by decide +kernel
theorem dX12_people_54 : decode cX12_people 54 = .ok (.bipush 6, 2) := by decide +kernel
theorem dX12_people_56 : decode cX12_people 56 = .ok (.if_icmp .ne 14, 3) := by decide +kernel
theorem dX12_people_59 : decode cX12_people 59 = .ok (.aload_n 0, 1) := by decide +kernel
theorem dX12_people_60 : decode cX12_people 60 = .ok (.aload_n 0, 1) := by decide +kernel
theorem dX12_people_61 : decode cX12_people 61 = .ok (.getfield 136, 3) := by decide +kernel
theorem dX12_people_64 : decode cX12_people 64 = .ok (.invokevirtual 154, 3) := by decide +kernel
theorem dX12_people_67 : decode cX12_people 67 = .ok (.goto 37, 3) := by decide +kernel
theorem dX12_people_70 : decode cX12_people 70 = .ok (.aload_n 0, 1) := by decide +kernel
theorem dX12_people_71 : decode cX12_people 71 = .ok (.getfield 29, 3) := by decide +kernel
theorem dX12_people_74 : decode cX12_people 74 = .ok (.iconst 2, 1) := by decide +kernel
theorem dX12_people_75 : decode cX12_people 75 = .ok (.iload_n 1, 1) := by decide +kernel
theorem dX12_people_76 : decode cX12_people 76 = .ok (.imul, 1) := by decide +kernel
theorem dX12_people_77 : decode cX12_people 77 = .ok (.aload_n 0, 1) := by decide +kernel
theorem dX12_people_78 : decode cX12_people 78 = .ok (.iconst 2, 1) := by decide +kernel
theorem dX12_people_79 : decode cX12_people 79 = .ok (.invokevirtual 166, 3) := by decide +kernel
theorem dX12_people_82 : decode cX12_people 82 = .ok (.iastore, 1) := by decide +kernel
theorem dX12_people_83 : decode cX12_people 83 = .ok (.aload_n 0, 1) := by decide +kernel
theorem dX12_people_84 : decode cX12_people 84 = .ok (.bipush 58, 2) := by decide +kernel
theorem dX12_people_86 : decode cX12_people 86 = .ok (.invokevirtual 170, 3) := by decide +kernel
theorem dX12_people_89 : decode cX12_people 89 = .ok (.aload_n 0, 1) := by decide +kernel
theorem dX12_people_90 : decode cX12_people 90 = .ok (.getfield 29, 3) := by decide +kernel
theorem dX12_people_93 : decode cX12_people 93 = .ok (.iconst 2, 1) := by decide +kernel
theorem dX12_people_94 : decode cX12_people 94 = .ok (.iload_n 1, 1) := by decide +kernel
theorem dX12_people_95 : decode cX12_people 95 = .ok (.imul, 1) := by decide +kernel
theorem dX12_people_96 : decode cX12_people 96 = .ok (.iconst 1, 1) := by decide +kernel
theorem dX12_people_97 : decode cX12_people 97 = .ok (.iadd, 1) := by decide +kernel
theorem dX12_people_98 : decode cX12_people 98 = .ok (.aload_n 0, 1) := by decide +kernel
theorem dX12_people_99 : decode cX12_people 99 = .ok (.iconst 3, 1) := by decide +kernel
theorem dX12_people_100 : decode cX12_people 100 = .ok (.invokevirtual 166, 3) := by decide +kernel
theorem dX12_people_103 : decode cX12_people 103 = .ok (.iastore, 1) := by decide +kernel
theorem dX12_people_104 : decode cX12_people 104 = .ok (.iinc 1 1, 3) := by decide +kernel
theorem dX12_people_107 : decode cX12_people 107 = .ok (.aload_n 0, 1) := by decide +kernel
theorem dX12_people_108 : decode cX12_people 108 = .ok (.bipush 59, 2) := by decide +kernel
theorem dX12_people_110 : decode cX12_people 110 = .ok (.invokevirtual 150, 3) := by decide +kernel
theorem dX12_people_113 : decode cX12_people 113 = .ok (.istore_n 2, 1) := by decide +kernel
theorem dX12_people_114 : decode cX12_people 114 = .ok (.goto (-77), 3) := by decide +kernel
theorem dX12_people_117 : decode cX12_people 117 = .ok (.aload_n 0, 1) := by decide +kernel
theorem dX12_people_118 : decode cX12_people 118 = .ok (.getfield 136, 3) := by decide +kernel
theorem dX12_people_121 : decode cX12_people 121 = .ok (.aload_n 0, 1) := by decide +kernel
theorem dX12_people_122 : decode cX12_people 122 = .ok (.getfield 130, 3) := by decide +kernel
theorem dX12_people_125 : decode cX12_people 125 = .ok (.if_icmp .ge 11, 3) := by decide +kernel
theorem dX12_people_128 : decode cX12_people 128 = .ok (.aload_n 0, 1) := by decide +kernel
theorem dX12_people_129 : decode cX12_people 129 = .ok (.aload_n 0, 1) := by decide +kernel
theorem dX12_people_130 : decode cX12_people 130 = .ok (.getfield 136, 3) := by decide +kernel
theorem dX12_people_133 : decode cX12_people 133 = .ok (.invokevirtual 154, 3) := by decide +kernel
theorem dX12_people_136 : decode cX12_people 136 = .ok (.aload_n 0, 1) := by decide +kernel
theorem dX12_people_137 : decode cX12_people 137 = .ok (.invokevirtual 142, 3) := by decide +kernel
theorem dX12_people_140 : decode cX12_people 140 = .ok (.ifCond .ne 10, 3) := by decide +kernel
theorem dX12_people_143 : decode cX12_people 143 = .ok (.iconst (-1), 1) := by decide +kernel
theorem dX12_people_144 : decode cX12_people 144 = .ok (.aload_n 0, 1) := by decide +kernel
theorem dX12_people_145 : decode cX12_people 145 = .ok (.getfield 139, 3) := by decide +kernel
theorem dX12_people_148 : decode cX12_people 148 = .ok (.isub, 1) := by decide +kernel
theorem dX12_people_149 : decode cX12_people 149 = .ok (.ireturn, 1) := by decide +kernel
theorem dX12_people_150 : decode cX12_people 150 = .ok (.iconst 0, 1) := by decide +kernel
theorem dX12_people_151 : decode cX12_people 151 = .ok (.istore_n 3, 1) := by decide +kernel
theorem dX12_people_152 : decode cX12_people 152 = .ok (.iload_n 3, 1) := by decide +kernel
theorem dX12_people_153 : decode cX12_people 153 = .ok (.iload_n 1, 1) := by decide +kernel
theorem dX12_people_154 : decode cX12_people 154 = .ok (.if_icmp .ge 100, 3) := by decide +kernel
theorem dX12_people_157 : decode cX12_people 157 = .ok (.aload_n 0, 1) := by decide +kernel
theorem dX12_people_158 : decode cX12_people 158 = .ok (.getfield 13, 3) := by decide +kernel
theorem dX12_people_161 : decode cX12_people 161 = .ok (.aload_n 0, 1) := by decide +kernel
theorem dX12_people_162 : decode cX12_people 162 = .ok (.getfield 110, 3) := by decide +kernel
theorem dX12_people_165 : decode cX12_people 165 = .ok (.aload_n 0, 1) := by decide +kernel
theorem dX12_people_166 : decode cX12_people 166 = .ok (.getfield 29, 3) := by decide +kernel
theorem dX12_people_169 : decode cX12_people 169 = .ok (.iconst 2, 1) := by decide +kernel
theorem dX12_people_170 : decode cX12_people 170 = .ok (.iload_n 3, 1) := by decide +kernel
theorem dX12_people_171 : decode cX12_people 171 = .ok (.imul, 1) := by decide +kernel
theorem dX12_people_172 : decode cX12_people 172 = .ok (.iaload, 1) := by decide +kernel
theorem dX12_people_173 : decode cX12_people 173 = .ok (.iastore, 1) := by decide +kernel
theorem dX12_people_174 : decode cX12_people 174 = .ok (.aload_n 0, 1) := by decide +kernel
theorem dX12_people_175 : decode cX12_people 175 = .ok (.getfield 16, 3) := by decide +kernel
theorem dX12_people_178 : decode cX12_people 178 = .ok (.aload_n 0, 1) := by decide +kernel
theorem dX12_people_179 : decode cX12_people 179 = .ok (.getfield 110, 3) := by decide +kernel
theorem dX12_people_182 : decode cX12_people 182 = .ok (.aload_n 0, 1) := by decide +kernel
theorem dX12_people_183 : decode cX12_people 183 = .ok (.getfield 29, 3) := by decide +kernel
theorem dX12_people_186 : decode cX12_people 186 = .ok (.iconst 2, 1) := by decide +kernel
theorem dX12_people_187 : decode cX12_people 187 = .ok (.iload_n 3, 1) := by decide +kernel
theorem dX12_people_188 : decode cX12_people 188 = .ok (.imul, 1) := by decide +kernel
theorem dX12_people_189 : decode cX12_people 189 = .ok (.iconst 1, 1) := by decide +kernel
theorem dX12_people_190 : decode cX12_people 190 = .ok (.iadd, 1) := by decide +kernel
theorem dX12_people_191 : decode cX12_people 191 = .ok (.iaload, 1) := by decide +kernel
theorem dX12_people_192 : decode cX12_people 192 = .ok (.iastore, 1) := by decide +kernel
theorem dX12_people_193 : decode cX12_people 193 = .ok (.aload_n 0, 1) := by decide +kernel
theorem dX12_people_194 : decode cX12_people 194 = .ok (.getfield 9, 3) := by decide +kernel
theorem dX12_people_197 : decode cX12_people 197 = .ok (.aload_n 0, 1) := by decide +kernel
theorem dX12_people_198 : decode cX12_people 198 = .ok (.getfield 110, 3) := by decide +kernel
theorem dX12_people_201 : decode cX12_people 201 = .ok (.aload_n 0, 1) := by decide +kernel
theorem dX12_people_202 : decode cX12_people 202 = .ok (.getfield 29, 3) := by decide +kernel
theorem dX12_people_205 : decode cX12_people 205 = .ok (.iconst 2, 1) := by decide +kernel
theorem dX12_people_206 : decode cX12_people 206 = .ok (.iload_n 3, 1) := by decide +kernel
theorem dX12_people_207 : decode cX12_people 207 = .ok (.imul, 1) := by decide +kernel
theorem dX12_people_208 : decode cX12_people 208 = .ok (.iconst 1, 1) := by decide +kernel
theorem dX12_people_209 : decode cX12_people 209 = .ok (.iadd, 1) := by decide +kernel
theorem dX12_people_210 : decode cX12_people 210 = .ok (.iaload, 1) := by decide +kernel
theorem dX12_people_211 : decode cX12_people 211 = .ok (.iastore, 1) := by decide +kernel
theorem dX12_people_212 : decode cX12_people 212 = .ok (.aload_n 0, 1) := by decide +kernel
theorem dX12_people_213 : decode cX12_people 213 = .ok (.getfield 9, 3) := by decide +kernel
theorem dX12_people_216 : decode cX12_people 216 = .ok (.bipush 6, 2) := by decide +kernel
theorem dX12_people_218 : decode cX12_people 218 = .ok (.aload_n 0, 1) := by decide +kernel
theorem dX12_people_219 : decode cX12_people 219 = .ok (.getfield 110, 3) := by decide +kernel
theorem dX12_people_222 : decode cX12_people 222 = .ok (.iadd, 1) := by decide +kernel
theorem dX12_people_223 : decode cX12_people 223 = .ok (.iconst 0, 1) := by decide +kernel
theorem dX12_people_224 : decode cX12_people 224 = .ok (.iastore, 1) := by decide +kernel
theorem dX12_people_225 : decode cX12_people 225 = .ok (.aload_n 0, 1) := by decide +kernel
theorem dX12_people_226 : decode cX12_people 226 = .ok (.getfield 9, 3) := by decide +kernel
theorem dX12_people_229 : decode cX12_people 229 = .ok (.bipush 12, 2) := by decide +kernel
theorem dX12_people_231 : decode cX12_people 231 = .ok (.aload_n 0, 1) := by decide +kernel
theorem dX12_people_232 : decode cX12_people 232 = .ok (.getfield 110, 3) := by decide +kernel
theorem dX12_people_235 : decode cX12_people 235 = .ok (.iadd, 1) := by decide +kernel
theorem dX12_people_236 : decode cX12_people 236 = .ok (.iconst 0, 1) := by decide +kernel
theorem dX12_people_237 : decode cX12_people 237 = .ok (.iastore, 1) := by decide +kernel
theorem dX12_people_238 : decode cX12_people 238 = .ok (.aload_n 0, 1) := by decide +kernel
theorem dX12_people_239 : decode cX12_people 239 = .ok (.dup, 1) := by decide +kernel
theorem dX12_people_240 : decode cX12_people 240 = .ok (.getfield 110, 3) := by decide +kernel
theorem dX12_people_243 : decode cX12_people 243 = .ok (.iconst 1, 1) := by decide +kernel
theorem dX12_people_244 : decode cX12_people 244 = .ok (.iadd, 1) := by decide +kernel
theorem dX12_people_245 : decode cX12_people 245 = .ok (.putfield 110, 3) := by decide +kernel
theorem dX12_people_248 : decode cX12_people 248 = .ok (.iinc 3 1, 3) := by decide +kernel
theorem dX12_people_251 : decode cX12_people 251 = .ok (.goto (-99), 3) := by decide +kernel
theorem dX12_people_254 : decode cX12_people 254 = .ok (.aload_n 0, 1) := by decide +kernel
theorem dX12_people_255 : decode cX12_people 255 = .ok (.iconst 0, 1) := by decide +kernel
theorem dX12_people_256 : decode cX12_people 256 = .ok (.putfield 174, 3) := by decide +kernel
theorem dX12_people_259 : decode cX12_people 259 = .ok (.aload_n 0, 1) := by decide +kernel
theorem dX12_people_260 : decode cX12_people 260 = .ok (.dup, 1) := by decide +kernel
theorem dX12_people_261 : decode cX12_people 261 = .ok (.getfield 177, 3) := by decide +kernel
theorem dX12_people_264 : decode cX12_people 264 = .ok (.iconst 1, 1) := by decide +kernel
theorem dX12_people_265 : decode cX12_people 265 = .ok (.iadd, 1) := by decide +kernel
theorem dX12_people_266 : decode cX12_people 266 = .ok (.putfield 177, 3) := by decide +kernel
theorem dX12_people_269 : decode cX12_people 269 = .ok (.iload_n 1, 1) := by decide +kernel
theorem dX12_people_270 : decode cX12_people 270 = .ok (.ireturn, 1) := by decide +kernel
abbrev YX12_people : li_Y := (yX12_people, cX12_people, 4, (some .int))
