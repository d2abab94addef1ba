theorem w_1445 : (Jvm.Cond.fieldLink "ClockForTalkModel" (73 : Nat) "ClockForTalkModel" "fewest" "[I") ∈ li_ws := li_mem 1445 (by decide +kernel) (by decide +kernel)
theorem w_1914 : (Jvm.Cond.methodLink "ClockForTalkModel" (389 : Nat) ({ cls := "java/lang/Integer", name := "numberOfTrailingZeros", desc := "(I)I" } : Jvm.MethodName)) ∈ li_ws := li_mem 1914 (by decide +kernel) (by decide +kernel)
theorem dX12_shorter_0 : decode cX12_shorter 0 = .ok (.aload_n 0, 1) := by decide +kernel
theorem dX12_shorter_1 : decode cX12_shorter 1 = .ok (.iconst 0, 1) := by decide +kernel
theorem dX12_shorter_2 : decode cX12_shorter 2 = .ok (.putfield 103, 3) := by decide +kernel
theorem dX12_shorter_5 : decode cX12_shorter 5 = .ok (.aload_n 0, 1) := by decide +kernel
theorem dX12_shorter_6 : decode cX12_shorter 6 = .ok (.invokevirtual 386, 3) := by decide +kernel
theorem dX12_shorter_9 : decode cX12_shorter 9 = .ok (.istore_n 1, 1) := by decide +kernel
theorem dX12_shorter_10 : decode cX12_shorter 10 = .ok (.iload_n 1, 1) := by decide +kernel
theorem dX12_shorter_11 : decode cX12_shorter 11 = .ok (.ifCond .ge 5, 3) := by decide +kernel
theorem dX12_shorter_14 : decode cX12_shorter 14 = .ok (.iload_n 1, 1) := by decide +kernel
theorem dX12_shorter_15 : decode cX12_shorter 15 = .ok (.ireturn, 1) := by decide +kernel
theorem dX12_shorter_16 : decode cX12_shorter 16 = .ok (.bipush 15, 2) := by decide +kernel
theorem dX12_shorter_18 : decode cX12_shorter 18 = .ok (.istore_n 2, 1) := by decide +kernel
theorem dX12_shorter_19 : decode cX12_shorter 19 = .ok (.aload_n 0, 1) := by decide +kernel
theorem dX12_shorter_20 : decode cX12_shorter 20 = .ok (.getfield 73, 3) := by decide +kernel
theorem dX12_shorter_23 : decode cX12_shorter 23 = .ok (.aload_n 0, 1) := by decide +kernel
theorem dX12_shorter_24 : decode cX12_shorter 24 = .ok (.getfield 380, 3) := by decide +kernel
theorem dX12_shorter_27 : decode cX12_shorter 27 = .ok (.iconst 0, 1) := by decide +kernel
theorem dX12_shorter_28 : decode cX12_shorter 28 = .ok (.iastore, 1) := by decide +kernel
theorem dX12_shorter_29 : decode cX12_shorter 29 = .ok (.aload_n 0, 1) := by decide +kernel
theorem dX12_shorter_30 : decode cX12_shorter 30 = .ok (.getfield 380, 3) := by decide +kernel
theorem dX12_shorter_33 : decode cX12_shorter 33 = .ok (.iconst 1, 1) := by decide +kernel
theorem dX12_shorter_34 : decode cX12_shorter 34 = .ok (.isub, 1) := by decide +kernel
theorem dX12_shorter_35 : decode cX12_shorter 35 = .ok (.istore_n 3, 1) := by decide +kernel
theorem dX12_shorter_36 : decode cX12_shorter 36 = .ok (.iload_n 3, 1) := by decide +kernel
theorem dX12_shorter_37 : decode cX12_shorter 37 = .ok (.ifCond .lt 76, 3) := by decide +kernel
theorem dX12_shorter_40 : decode cX12_shorter 40 = .ok (.aload_n 0, 1) := by decide +kernel
theorem dX12_shorter_41 : decode cX12_shorter 41 = .ok (.getfield 73, 3) := by decide +kernel
theorem dX12_shorter_44 : decode cX12_shorter 44 = .ok (.iload_n 3, 1) := by decide +kernel
theorem dX12_shorter_45 : decode cX12_shorter 45 = .ok (.ldc_w 358, 3) := by decide +kernel
theorem dX12_shorter_48 : decode cX12_shorter 48 = .ok (.iastore, 1) := by decide +kernel
theorem dX12_shorter_49 : decode cX12_shorter 49 = .ok (.iload_n 3, 1) := by decide +kernel
theorem dX12_shorter_50 : decode cX12_shorter 50 = .ok (.iconst 1, 1) := by decide +kernel
theorem dX12_shorter_51 : decode cX12_shorter 51 = .ok (.iadd, 1) := by decide +kernel
theorem dX12_shorter_52 : decode cX12_shorter 52 = .ok (.istore 4, 2) := by decide +kernel
theorem dX12_shorter_54 : decode cX12_shorter 54 = .ok (.iload 4, 2) := by decide +kernel
theorem dX12_shorter_56 : decode cX12_shorter 56 = .ok (.aload_n 0, 1) := by decide +kernel
theorem dX12_shorter_57 : decode cX12_shorter 57 = .ok (.getfield 380, 3) := by decide +kernel
theorem dX12_shorter_60 : decode cX12_shorter 60 = .ok (.if_icmp .gt 47, 3) := by decide +kernel
theorem dX12_shorter_63 : decode cX12_shorter 63 = .ok (.aload_n 0, 1) := by decide +kernel
theorem dX12_shorter_64 : decode cX12_shorter 64 = .ok (.getfield 70, 3) := by decide +kernel
theorem dX12_shorter_67 : decode cX12_shorter 67 = .ok (.iload_n 2, 1) := by decide +kernel
theorem dX12_shorter_68 : decode cX12_shorter 68 = .ok (.iload_n 3, 1) := by decide +kernel
theorem dX12_shorter_69 : decode cX12_shorter 69 = .ok (.imul, 1) := by decide +kernel
theorem dX12_shorter_70 : decode cX12_shorter 70 = .ok (.iload 4, 2) := by decide +kernel
theorem dX12_shorter_72 : decode cX12_shorter 72 = .ok (.iadd, 1) := by decide +kernel
theorem dX12_shorter_73 : decode cX12_shorter 73 = .ok (.iaload, 1) := by decide +kernel
theorem dX12_shorter_74 : decode cX12_shorter 74 = .ok (.ifCond .eq 27, 3) := by decide +kernel
theorem dX12_shorter_77 : decode cX12_shorter 77 = .ok (.aload_n 0, 1) := by decide +kernel
theorem dX12_shorter_78 : decode cX12_shorter 78 = .ok (.getfield 73, 3) := by decide +kernel
theorem dX12_shorter_81 : decode cX12_shorter 81 = .ok (.iload_n 3, 1) := by decide +kernel
theorem dX12_shorter_82 : decode cX12_shorter 82 = .ok (.aload_n 0, 1) := by decide +kernel
theorem dX12_shorter_83 : decode cX12_shorter 83 = .ok (.getfield 73, 3) := by decide +kernel
theorem dX12_shorter_86 : decode cX12_shorter 86 = .ok (.iload_n 3, 1) := by decide +kernel
theorem dX12_shorter_87 : decode cX12_shorter 87 = .ok (.iaload, 1) := by decide +kernel
theorem dX12_shorter_88 : decode cX12_shorter 88 = .ok (.iconst 1, 1) := by decide +kernel
theorem dX12_shorter_89 : decode cX12_shorter 89 = .ok (.aload_n 0, 1) := by decide +kernel
theorem dX12_shorter_90 : decode cX12_shorter 90 = .ok (.getfield 73, 3) := by decide +kernel
theorem dX12_shorter_93 : decode cX12_shorter 93 = .ok (.iload 4, 2) := by decide +kernel
theorem dX12_shorter_95 : decode cX12_shorter 95 = .ok (.iaload, 1) := by decide +kernel
theorem dX12_shorter_96 : decode cX12_shorter 96 = .ok (.iadd, 1) := by decide +kernel
theorem dX12_shorter_97 : decode cX12_shorter 97 = .ok (.invokestatic 208, 3) := by decide +kernel
theorem dX12_shorter_100 : decode cX12_shorter 100 = .ok (.iastore, 1) := by decide +kernel
theorem dX12_shorter_101 : decode cX12_shorter 101 = .ok (.iinc 4 1, 3) := by decide +kernel
theorem dX12_shorter_104 : decode cX12_shorter 104 = .ok (.goto (-50), 3) := by decide +kernel
theorem dX12_shorter_107 : decode cX12_shorter 107 = .ok (.iinc 3 (-1), 3) := by decide +kernel
theorem dX12_shorter_110 : decode cX12_shorter 110 = .ok (.goto (-74), 3) := by decide +kernel
theorem dX12_shorter_113 : decode cX12_shorter 113 = .ok (.aload_n 0, 1) := by decide +kernel
theorem dX12_shorter_114 : decode cX12_shorter 114 = .ok (.getfield 73, 3) := by decide +kernel
theorem dX12_shorter_117 : decode cX12_shorter 117 = .ok (.iconst 0, 1) := by decide +kernel
theorem dX12_shorter_118 : decode cX12_shorter 118 = .ok (.iaload, 1) := by decide +kernel
theorem dX12_shorter_119 : decode cX12_shorter 119 = .ok (.istore_n 3, 1) := by decide +kernel
theorem dX12_shorter_120 : decode cX12_shorter 120 = .ok (.iconst 1, 1) := by decide +kernel
theorem dX12_shorter_121 : decode cX12_shorter 121 = .ok (.istore 4, 2) := by decide +kernel
theorem dX12_shorter_123 : decode cX12_shorter 123 = .ok (.aload_n 0, 1) := by decide +kernel
theorem dX12_shorter_124 : decode cX12_shorter 124 = .ok (.iconst 0, 1) := by decide +kernel
theorem dX12_shorter_125 : decode cX12_shorter 125 = .ok (.putfield 107, 3) := by decide +kernel
theorem dX12_shorter_128 : decode cX12_shorter 128 = .ok (.iconst 0, 1) := by decide +kernel
theorem dX12_shorter_129 : decode cX12_shorter 129 = .ok (.istore 5, 2) := by decide +kernel
theorem dX12_shorter_131 : decode cX12_shorter 131 = .ok (.iload 5, 2) := by decide +kernel
theorem dX12_shorter_133 : decode cX12_shorter 133 = .ok (.iload_n 3, 1) := by decide +kernel
theorem dX12_shorter_134 : decode cX12_shorter 134 = .ok (.if_icmp .ge 168, 3) := by decide +kernel
theorem dX12_shorter_137 : decode cX12_shorter 137 = .ok (.bipush 7, 2) := by decide +kernel
theorem dX12_shorter_139 : decode cX12_shorter 139 = .ok (.istore 6, 2) := by decide +kernel
theorem dX12_shorter_141 : decode cX12_shorter 141 = .ok (.iconst 0, 1) := by decide +kernel
theorem dX12_shorter_142 : decode cX12_shorter 142 = .ok (.istore 7, 2) := by decide +kernel
theorem dX12_shorter_144 : decode cX12_shorter 144 = .ok (.iconst 0, 1) := by decide +kernel
theorem dX12_shorter_145 : decode cX12_shorter 145 = .ok (.istore 8, 2) := by decide +kernel
theorem dX12_shorter_147 : decode cX12_shorter 147 = .ok (.iload 8, 2) := by decide +kernel
theorem dX12_shorter_149 : decode cX12_shorter 149 = .ok (.aload_n 0, 1) := by decide +kernel
theorem dX12_shorter_150 : decode cX12_shorter 150 = .ok (.getfield 380, 3) := by decide +kernel
theorem dX12_shorter_153 : decode cX12_shorter 153 = .ok (.if_icmp .ge 133, 3) := by decide +kernel
theorem dX12_shorter_156 : decode cX12_shorter 156 = .ok (.iload 4, 2) := by decide +kernel
theorem dX12_shorter_158 : decode cX12_shorter 158 = .ok (.iload 8, 2) := by decide +kernel
theorem dX12_shorter_160 : decode cX12_shorter 160 = .ok (.invokestatic 251, 3) := by decide +kernel
theorem dX12_shorter_163 : decode cX12_shorter 163 = .ok (.ifCond .ne 6, 3) := by decide +kernel
theorem dX12_shorter_166 : decode cX12_shorter 166 = .ok (.goto 114, 3) := by decide +kernel
theorem dX12_shorter_169 : decode cX12_shorter 169 = .ok (.iload 8, 2) := by decide +kernel
theorem dX12_shorter_171 : decode cX12_shorter 171 = .ok (.iconst 1, 1) := by decide +kernel
theorem dX12_shorter_172 : decode cX12_shorter 172 = .ok (.iadd, 1) := by decide +kernel
theorem dX12_shorter_173 : decode cX12_shorter 173 = .ok (.istore 9, 2) := by decide +kernel
theorem dX12_shorter_175 : decode cX12_shorter 175 = .ok (.iload 9, 2) := by decide +kernel
theorem dX12_shorter_177 : decode cX12_shorter 177 = .ok (.aload_n 0, 1) := by decide +kernel
theorem dX12_shorter_178 : decode cX12_shorter 178 = .ok (.getfield 380, 3) := by decide +kernel
theorem dX12_shorter_181 : decode cX12_shorter 181 = .ok (.if_icmp .gt 99, 3) := by decide +kernel
theorem dX12_shorter_184 : decode cX12_shorter 184 = .ok (.aload_n 0, 1) := by decide +kernel
theorem dX12_shorter_185 : decode cX12_shorter 185 = .ok (.getfield 70, 3) := by decide +kernel
theorem dX12_shorter_188 : decode cX12_shorter 188 = .ok (.iload_n 2, 1) := by decide +kernel
theorem dX12_shorter_189 : decode cX12_shorter 189 = .ok (.iload 8, 2) := by decide +kernel
theorem dX12_shorter_191 : decode cX12_shorter 191 = .ok (.imul, 1) := by decide +kernel
theorem dX12_shorter_192 : decode cX12_shorter 192 = .ok (.iload 9, 2) := by decide +kernel
theorem dX12_shorter_194 : decode cX12_shorter 194 = .ok (.iadd, 1) := by decide +kernel
theorem dX12_shorter_195 : decode cX12_shorter 195 = .ok (.iaload, 1) := by decide +kernel
theorem dX12_shorter_196 : decode cX12_shorter 196 = .ok (.ifCond .eq 78, 3) := by decide +kernel
theorem dX12_shorter_199 : decode cX12_shorter 199 = .ok (.aload_n 0, 1) := by decide +kernel
theorem dX12_shorter_200 : decode cX12_shorter 200 = .ok (.getfield 73, 3) := by decide +kernel
theorem dX12_shorter_203 : decode cX12_shorter 203 = .ok (.iload 9, 2) := by decide +kernel
theorem dX12_shorter_205 : decode cX12_shorter 205 = .ok (.iaload, 1) := by decide +kernel
theorem dX12_shorter_206 : decode cX12_shorter 206 = .ok (.iload_n 3, 1) := by decide +kernel
theorem dX12_shorter_207 : decode cX12_shorter 207 = .ok (.iload 5, 2) := by decide +kernel
theorem dX12_shorter_209 : decode cX12_shorter 209 = .ok (.isub, 1) := by decide +kernel
theorem dX12_shorter_210 : decode cX12_shorter 210 = .ok (.iconst 1, 1) := by decide +kernel
theorem dX12_shorter_211 : decode cX12_shorter 211 = .ok (.isub, 1) := by decide +kernel
theorem dX12_shorter_212 : decode cX12_shorter 212 = .ok (.if_icmp .eq 6, 3) := by decide +kernel
theorem dX12_shorter_215 : decode cX12_shorter 215 = .ok (.goto 59, 3) := by decide +kernel
theorem dX12_shorter_218 : decode cX12_shorter 218 = .ok (.aload_n 0, 1) := by decide +kernel
theorem dX12_shorter_219 : decode cX12_shorter 219 = .ok (.getfield 70, 3) := by decide +kernel
theorem dX12_shorter_222 : decode cX12_shorter 222 = .ok (.iload_n 2, 1) := by decide +kernel
theorem dX12_shorter_223 : decode cX12_shorter 223 = .ok (.iload 8, 2) := by decide +kernel
theorem dX12_shorter_225 : decode cX12_shorter 225 = .ok (.imul, 1) := by decide +kernel
theorem dX12_shorter_226 : decode cX12_shorter 226 = .ok (.iload 9, 2) := by decide +kernel
theorem dX12_shorter_228 : decode cX12_shorter 228 = .ok (.iadd, 1) := by decide +kernel
theorem dX12_shorter_229 : decode cX12_shorter 229 = .ok (.iaload, 1) := by decide +kernel
theorem dX12_shorter_230 : decode cX12_shorter 230 = .ok (.invokestatic 389, 3) := by decide +kernel
theorem dX12_shorter_233 : decode cX12_shorter 233 = .ok (.istore 10, 2) := by decide +kernel
theorem dX12_shorter_235 : decode cX12_shorter 235 = .ok (.iload 10, 2) := by decide +kernel
theorem dX12_shorter_237 : decode cX12_shorter 237 = .ok (.iload 6, 2) := by decide +kernel
theorem dX12_shorter_239 : decode cX12_shorter 239 = .ok (.if_icmp .ge 6, 3) := by decide +kernel
theorem dX12_shorter_242 : decode cX12_shorter 242 = .ok (.iconst 0, 1) := by decide +kernel
theorem dX12_shorter_243 : decode cX12_shorter 243 = .ok (.istore 7, 2) := by decide +kernel
theorem dX12_shorter_245 : decode cX12_shorter 245 = .ok (.iload 6, 2) := by decide +kernel
theorem dX12_shorter_247 : decode cX12_shorter 247 = .ok (.iload 10, 2) := by decide +kernel
theorem dX12_shorter_249 : decode cX12_shorter 249 = .ok (.invokestatic 208, 3) := by decide +kernel
theorem dX12_shorter_252 : decode cX12_shorter 252 = .ok (.istore 6, 2) := by decide +kernel
theorem dX12_shorter_254 : decode cX12_shorter 254 = .ok (.iload 7, 2) := by decide +kernel
theorem dX12_shorter_256 : decode cX12_shorter 256 = .ok (.iload 10, 2) := by decide +kernel
theorem dX12_shorter_258 : decode cX12_shorter 258 = .ok (.iload 6, 2) := by decide +kernel
theorem dX12_shorter_260 : decode cX12_shorter 260 = .ok (.if_icmp .ne 10, 3) := by decide +kernel
theorem dX12_shorter_263 : decode cX12_shorter 263 = .ok (.iconst 1, 1) := by decide +kernel
theorem dX12_shorter_264 : decode cX12_shorter 264 = .ok (.iload 9, 2) := by decide +kernel
theorem dX12_shorter_266 : decode cX12_shorter 266 = .ok (.ishl, 1) := by decide +kernel
theorem dX12_shorter_267 : decode cX12_shorter 267 = .ok (.goto 4, 3) := by decide +kernel
theorem dX12_shorter_270 : decode cX12_shorter 270 = .ok (.iconst 0, 1) := by decide +kernel
theorem dX12_shorter_271 : decode cX12_shorter 271 = .ok (.ior, 1) := by decide +kernel
theorem dX12_shorter_272 : decode cX12_shorter 272 = .ok (.istore 7, 2) := by decide +kernel
theorem dX12_shorter_274 : decode cX12_shorter 274 = .ok (.iinc 9 1, 3) := by decide +kernel
theorem dX12_shorter_277 : decode cX12_shorter 277 = .ok (.goto (-102), 3) := by decide +kernel
theorem dX12_shorter_280 : decode cX12_shorter 280 = .ok (.iinc 8 1, 3) := by decide +kernel
theorem dX12_shorter_283 : decode cX12_shorter 283 = .ok (.goto (-136), 3) := by decide +kernel
theorem dX12_shorter_286 : decode cX12_shorter 286 = .ok (.aload_n 0, 1) := by decide +kernel
theorem dX12_shorter_287 : decode cX12_shorter 287 = .ok (.iload 6, 2) := by decide +kernel
theorem dX12_shorter_289 : decode cX12_shorter 289 = .ok (.invokevirtual 308, 3) := by decide +kernel
theorem dX12_shorter_292 : decode cX12_shorter 292 = .ok (.iload 7, 2) := by decide +kernel
theorem dX12_shorter_294 : decode cX12_shorter 294 = .ok (.istore 4, 2) := by decide +kernel
theorem dX12_shorter_296 : decode cX12_shorter 296 = .ok (.iinc 5 1, 3) := by decide +kernel
theorem dX12_shorter_299 : decode cX12_shorter 299 = .ok (.goto (-168), 3) := by decide +kernel
theorem dX12_shorter_302 : decode cX12_shorter 302 = .ok (.iload_n 3, 1) := by decide +kernel
theorem dX12_shorter_303 : decode cX12_shorter 303 = .ok (.ireturn, 1) := by decide +kernel
abbrev YX12_shorter : li_Y := (yX12_shorter, cX12_shorter, 11, (some .int))
