theorem w_42 : (Jvm.Cond.selects "ClockForTalkModel" ({ cls := "ClockForTalkModel", name := "begin", desc := "([BII)V" } : Jvm.MethodName) ({ cls := "ClockForTalkModel", name := "begin", desc := "([BII)V" } : Jvm.MethodName)) ∈ li_ws := li_mem 42 (by decide +kernel) (by decide +kernel)
theorem w_1407 : (Jvm.Cond.fieldLink "ClockForTalkModel" (16 : Nat) "ClockForTalkModel" "yearly" "[I") ∈ li_ws := li_mem 1407 (by decide +kernel) (by decide +kernel)
theorem w_1420 : (Jvm.Cond.fieldLink "ClockForTalkModel" (29 : Nat) "ClockForTalkModel" "comes" "[I") ∈ li_ws := li_mem 1420 (by decide +kernel) (by decide +kernel)
theorem w_1427 : (Jvm.Cond.fieldLink "ClockForTalkModel" (174 : Nat) "ClockForTalkModel" "undoMany" "I") ∈ li_ws := li_mem 1427 (by decide +kernel) (by decide +kernel)
theorem w_1452 : (Jvm.Cond.fieldLink "ClockForTalkModel" (177 : Nat) "ClockForTalkModel" "came" "I") ∈ li_ws := li_mem 1452 (by decide +kernel) (by decide +kernel)
theorem w_1577 : (Jvm.Cond.methodLink "ClockForTalkModel" (162 : Nat) ({ cls := "ClockForTalkModel", name := "begin", desc := "([BII)V" } : Jvm.MethodName)) ∈ li_ws := li_mem 1577 (by decide +kernel) (by decide +kernel)
theorem w_1579 : (Jvm.Cond.instanceMethod ({ cls := "ClockForTalkModel", name := "begin", desc := "([BII)V" } : Jvm.MethodName)) ∈ li_ws := li_mem 1579 (by decide +kernel) (by decide +kernel)
theorem w_1580 : (Jvm.Cond.code ({ cls := "ClockForTalkModel", name := "begin", desc := "([BII)V" } : Jvm.MethodName) prog_13_method_12_code (4 : Nat) (Option.none : Option Jvm.ClassFile.FieldType)) ∈ li_ws := li_mem 1580 (by decide +kernel) (by decide +kernel)
theorem dX12_people_0 : decode cX12_people 0 = .ok (.aload_n 0, 1) := by decide +kernel
theorem dX12_people_1 : decode cX12_people 1 = .ok (.iconst 0, 1) := by decide +kernel
theorem dX12_people_2 : decode cX12_people 2 = .ok (.putfield 103, 3) := by decide +kernel
theorem dX12_people_5 : decode cX12_people 5 = .ok (.aload_n 0, 1) := by decide +kernel
theorem dX12_people_6 : decode cX12_people 6 = .ok (.aload_n 0, 1) := by decide +kernel
theorem dX12_people_7 : decode cX12_people 7 = .ok (.getfield 22, 3) := by decide +kernel
theorem dX12_people_10 : decode cX12_people 10 = .ok (.aload_n 0, 1) := by decide +kernel
theorem dX12_people_11 : decode cX12_people 11 = .ok (.getfield 124, 3) := by decide +kernel
theorem dX12_people_14 : decode cX12_people 14 = .ok (.bipush 76, 2) := by decide +kernel
theorem dX12_people_16 : decode cX12_people 16 = .ok (.invokevirtual 162, 3) := by decide +kernel
theorem dX12_people_19 : decode cX12_people 19 = .ok (.aload_n 0, 1) := by decide +kernel
theorem dX12_people_20 : decode cX12_people 20 = .ok (.iconst 0, 1) := by decide +kernel
theorem dX12_people_21 : decode cX12_people 21 = .ok (.putfield 124, 3) := by decide +kernel
theorem dX12_people_24 : decode cX12_people 24 = .ok (.aload_n 0, 1) := by decide +kernel
theorem dX12_people_25 : decode cX12_people 25 = .ok (.getfield 130, 3) := by decide +kernel
theorem dX12_people_28 : decode cX12_people 28 = .ok (.ifCond .ne 5, 3) := by decide +kernel
theorem dX12_people_31 : decode cX12_people 31 = .ok (.iconst 0, 1) := by decide +kernel
theorem dX12_people_32 : decode cX12_people 32 = .ok (.ireturn, 1) := by decide +kernel
theorem dX12_people_33 : decode cX12_people 33 = .ok (.iconst 0, 1) := by decide +kernel
theorem dX12_people_34 : decode cX12_people 34 = .ok (.istore_n 1, 1) := by decide +kernel
theorem dX12_people_35 : decode cX12_people 35 = .ok (.iconst 1, 1) := by decide +kernel
theorem dX12_people_36 : decode cX12_people 36 = .ok (.istore_n 2, 1) := by decide +kernel
theorem dX12_people_37 : decode cX12_people 37 = .ok (.iload_n 2, 1) := by decide +kernel
theorem dX12_people_38 : decode cX12_people 38 = .ok (.ifCond .eq 79, 3) := by decide +kernel
theorem dX12_people_41 : decode cX12_people 41 = .ok (.aload_n 0, 1) := by decide +kernel
theorem dX12_people_42 : decode cX12_people 42 = .ok (.invokevirtual 142, 3) := by decide +kernel
theorem dX12_people_45 : decode cX12_people 45 = .ok (.ifCond .eq 72, 3) := by decide +kernel
theorem dX12_people_48 : decode cX12_people 48 = .ok (.aload_n 0, 1) := by decide +kernel
theorem dX12_people_49 : decode cX12_people 49 = .ok (.getfield 110, 3) := by decide +kernel
theorem dX12_people_52 : decode cX12_people 52 = .ok (.iload_n 1, 1) := by decide +kernel
theorem dX12_people_53 : decode cX12_people 53 = .ok (.iadd, 1) := by decide +kernel
theorem dX12_people_54 : decode cX12_people 54 = .ok (.bipush 6, 2) := by decide +kernel
theorem dX12_people_56 : decode cX12_people 56 = .ok (.if_icmp .ne 14, 3) := by decide +kernel
theorem dX12_people_59 : decode cX12_people 59 = .ok (.aload_n 0, 1) := by decide +kernel
theorem dX12_people_60 : decode cX12_people 60 = .ok (.aload_n 0, 1) := by decide +kernel
theorem dX12_people_61 : decode cX12_people 61 = .ok (.getfield 136, 3) := by decide +kernel
theorem dX12_people_64 : decode cX12_people 64 = .ok (.invokevirtual 154, 3) := by decide +kernel
theorem dX12_people_67 : decode cX12_people 67 = .ok (.goto 37, 3) := by decide +kernel
theorem dX12_people_70 : decode cX12_people 70 = .ok (.aload_n 0, 1) := by decide +kernel
theorem dX12_people_71 : decode cX12_people 71 = .ok (.getfield 29, 3) := by decide +kernel
theorem dX12_people_74 : decode cX12_people 74 = .ok (.iconst 2, 1) := by decide +kernel
theorem dX12_people_75 : decode cX12_people 75 = .ok (.iload_n 1, 1) := by decide +kernel
theorem dX12_people_76 : decode cX12_people 76 = .ok (.imul, 1) := by decide +kernel
theorem dX12_people_77 : decode cX12_people 77 = .ok (.aload_n 0, 1) := by decide +kernel
theorem dX12_people_78 : decode cX12_people 78 = .ok (.iconst 2, 1) := by decide +kernel
theorem dX12_people_79 : decode cX12_people 79 = .ok (.invokevirtual 166, 3) := by decide +kernel
theorem dX12_people_82 : decode cX12_people 82 = .ok (.iastore, 1) := by decide +kernel
theorem dX12_people_83 : decode cX12_people 83 = .ok (.aload_n 0, 1) := by decide +kernel
theorem dX12_people_84 : decode cX12_people 84 = .ok (.bipush 58, 2) := by decide +kernel
theorem dX12_people_86 : decode cX12_people 86 = .ok (.invokevirtual 170, 3) := by decide +kernel
theorem dX12_people_89 : decode cX12_people 89 = .ok (.aload_n 0, 1) := by decide +kernel
theorem dX12_people_90 : decode cX12_people 90 = .ok (.getfield 29, 3) := by decide +kernel
theorem dX12_people_93 : decode cX12_people 93 = .ok (.iconst 2, 1) := by decide +kernel
theorem dX12_people_94 : decode cX12_people 94 = .ok (.iload_n 1, 1) := by decide +kernel
theorem dX12_people_95 : decode cX12_people 95 = .ok (.imul, 1) := by decide +kernel
theorem dX12_people_96 : decode cX12_people 96 = .ok (.iconst 1, 1) := by decide +kernel
theorem dX12_people_97 : decode cX12_people 97 = .ok (.iadd, 1) := by decide +kernel
theorem dX12_people_98 : decode cX12_people 98 = .ok (.aload_n 0, 1) := by decide +kernel
theorem dX12_people_99 : decode cX12_people 99 = .ok (.iconst 3, 1) := by decide +kernel
theorem dX12_people_100 : decode cX12_people 100 = .ok (.invokevirtual 166, 3) := by decide +kernel
theorem dX12_people_103 : decode cX12_people 103 = .ok (.iastore, 1) := by decide +kernel
theorem dX12_people_104 : decode cX12_people 104 = .ok (.iinc 1 1, 3) := by decide +kernel
theorem dX12_people_107 : decode cX12_people 107 = .ok (.aload_n 0, 1) := by decide +kernel
theorem dX12_people_108 : decode cX12_people 108 = .ok (.bipush 59, 2) := by decide +kernel
theorem dX12_people_110 : decode cX12_people 110 = .ok (.invokevirtual 150, 3) := by decide +kernel
theorem dX12_people_113 : decode cX12_people 113 = .ok (.istore_n 2, 1) := by decide +kernel
theorem dX12_people_114 : decode cX12_people 114 = .ok (.goto (-77), 3) := by decide +kernel
theorem dX12_people_117 : decode cX12_people 117 = .ok (.aload_n 0, 1) := by decide +kernel
theorem dX12_people_118 : decode cX12_people 118 = .ok (.getfield 136, 3) := by decide +kernel
theorem dX12_people_121 : decode cX12_people 121 = .ok (.aload_n 0, 1) := by decide +kernel
theorem dX12_people_122 : decode cX12_people 122 = .ok (.getfield 130, 3) := by decide +kernel
theorem dX12_people_125 : decode cX12_people 125 = .ok (.if_icmp .ge 11, 3) := by decide +kernel
theorem dX12_people_128 : decode cX12_people 128 = .ok (.aload_n 0, 1) := by decide +kernel
theorem dX12_people_129 : decode cX12_people 129 = .ok (.aload_n 0, 1) := by decide +kernel
theorem dX12_people_130 : decode cX12_people 130 = .ok (.getfield 136, 3) := by decide +kernel
theorem dX12_people_133 : decode cX12_people 133 = .ok (.invokevirtual 154, 3) := by decide +kernel
theorem dX12_people_136 : decode cX12_people 136 = .ok (.aload_n 0, 1) := by decide +kernel
theorem dX12_people_137 : decode cX12_people 137 = .ok (.invokevirtual 142, 3) := by decide +kernel
theorem dX12_people_140 : decode cX12_people 140 = .ok (.ifCond .ne 10, 3) := by decide +kernel
theorem dX12_people_143 : decode cX12_people 143 = .ok (.iconst (-1), 1) := by decide +kernel
theorem dX12_people_144 : decode cX12_people 144 = .ok (.aload_n 0, 1) := by decide +kernel
theorem dX12_people_145 : decode cX12_people 145 = .ok (.getfield 139, 3) := by decide +kernel
theorem dX12_people_148 : decode cX12_people 148 = .ok (.isub, 1) := by decide +kernel
theorem dX12_people_149 : decode cX12_people 149 = .ok (.ireturn, 1) := by decide +kernel
theorem dX12_people_150 : decode cX12_people 150 = .ok (.iconst 0, 1) := by decide +kernel
theorem dX12_people_151 : decode cX12_people 151 = .ok (.istore_n 3, 1) := by decide +kernel
theorem dX12_people_152 : decode cX12_people 152 = .ok (.iload_n 3, 1) := by decide +kernel
theorem dX12_people_153 : decode cX12_people 153 = .ok (.iload_n 1, 1) := by decide +kernel
theorem dX12_people_154 : decode cX12_people 154 = .ok (.if_icmp .ge 100, 3) := by decide +kernel
theorem dX12_people_157 : decode cX12_people 157 = .ok (.aload_n 0, 1) := by decide +kernel
theorem dX12_people_158 : decode cX12_people 158 = .ok (.getfield 13, 3) := by decide +kernel
theorem dX12_people_161 : decode cX12_people 161 = .ok (.aload_n 0, 1) := by decide +kernel
theorem dX12_people_162 : decode cX12_people 162 = .ok (.getfield 110, 3) := by decide +kernel
theorem dX12_people_165 : decode cX12_people 165 = .ok (.aload_n 0, 1) := by decide +kernel
theorem dX12_people_166 : decode cX12_people 166 = .ok (.getfield 29, 3) := by decide +kernel
theorem dX12_people_169 : decode cX12_people 169 = .ok (.iconst 2, 1) := by decide +kernel
theorem dX12_people_170 : decode cX12_people 170 = .ok (.iload_n 3, 1) := by decide +kernel
theorem dX12_people_171 : decode cX12_people 171 = .ok (.imul, 1) := by decide +kernel
theorem dX12_people_172 : decode cX12_people 172 = .ok (.iaload, 1) := by decide +kernel
theorem dX12_people_173 : decode cX12_people 173 = .ok (.iastore, 1) := by decide +kernel
theorem dX12_people_174 : decode cX12_people 174 = .ok (.aload_n 0, 1) := by decide +kernel
theorem dX12_people_175 : decode cX12_people 175 = .ok (.getfield 16, 3) := by decide +kernel
theorem dX12_people_178 : decode cX12_people 178 = .ok (.aload_n 0, 1) := by decide +kernel
theorem dX12_people_179 : decode cX12_people 179 = .ok (.getfield 110, 3) := by decide +kernel
theorem dX12_people_182 : decode cX12_people 182 = .ok (.aload_n 0, 1) := by decide +kernel
theorem dX12_people_183 : decode cX12_people 183 = .ok (.getfield 29, 3) := by decide +kernel
theorem dX12_people_186 : decode cX12_people 186 = .ok (.iconst 2, 1) := by decide +kernel
theorem dX12_people_187 : decode cX12_people 187 = .ok (.iload_n 3, 1) := by decide +kernel
theorem dX12_people_188 : decode cX12_people 188 = .ok (.imul, 1) := by decide +kernel
theorem dX12_people_189 : decode cX12_people 189 = .ok (.iconst 1, 1) := by decide +kernel
theorem dX12_people_190 : decode cX12_people 190 = .ok (.iadd, 1) := by decide +kernel
theorem dX12_people_191 : decode cX12_people 191 = .ok (.iaload, 1) := by decide +kernel
theorem dX12_people_192 : decode cX12_people 192 = .ok (.iastore, 1) := by decide +kernel
theorem dX12_people_193 : decode cX12_people 193 = .ok (.aload_n 0, 1) := by decide +kernel
theorem dX12_people_194 : decode cX12_people 194 = .ok (.getfield 9, 3) := by decide +kernel
theorem dX12_people_197 : decode cX12_people 197 = .ok (.aload_n 0, 1) := by decide +kernel
theorem dX12_people_198 : decode cX12_people 198 = .ok (.getfield 110, 3) := by decide +kernel
theorem dX12_people_201 : decode cX12_people 201 = .ok (.aload_n 0, 1) := by decide +kernel
theorem dX12_people_202 : decode cX12_people 202 = .ok (.getfield 29, 3) := by decide +kernel
theorem dX12_people_205 : decode cX12_people 205 = .ok (.iconst 2, 1) := by decide +kernel
theorem dX12_people_206 : decode cX12_people 206 = .ok (.iload_n 3, 1) := by decide +kernel
theorem dX12_people_207 : decode cX12_people 207 = .ok (.imul, 1) := by decide +kernel
theorem dX12_people_208 : decode cX12_people 208 = .ok (.iconst 1, 1) := by decide +kernel
theorem dX12_people_209 : decode cX12_people 209 = .ok (.iadd, 1) := by decide +kernel
theorem dX12_people_210 : decode cX12_people 210 = .ok (.iaload, 1) := by decide +kernel
theorem dX12_people_211 : decode cX12_people 211 = .ok (.iastore, 1) := by decide +kernel
theorem dX12_people_212 : decode cX12_people 212 = .ok (.aload_n 0, 1) := by decide +kernel
theorem dX12_people_213 : decode cX12_people 213 = .ok (.getfield 9, 3) := by decide +kernel
theorem dX12_people_216 : decode cX12_people 216 = .ok (.bipush 6, 2) := by decide +kernel
theorem dX12_people_218 : decode cX12_people 218 = .ok (.aload_n 0, 1) := by decide +kernel
theorem dX12_people_219 : decode cX12_people 219 = .ok (.getfield 110, 3) := by decide +kernel
theorem dX12_people_222 : decode cX12_people 222 = .ok (.iadd, 1) := by decide +kernel
theorem dX12_people_223 : decode cX12_people 223 = .ok (.iconst 0, 1) := by decide +kernel
theorem dX12_people_224 : decode cX12_people 224 = .ok (.iastore, 1) := by decide +kernel
theorem dX12_people_225 : decode cX12_people 225 = .ok (.aload_n 0, 1) := by decide +kernel
theorem dX12_people_226 : decode cX12_people 226 = .ok (.getfield 9, 3) := by decide +kernel
theorem dX12_people_229 : decode cX12_people 229 = .ok (.bipush 12, 2) := by decide +kernel
theorem dX12_people_231 : decode cX12_people 231 = .ok (.aload_n 0, 1) := by decide +kernel
theorem dX12_people_232 : decode cX12_people 232 = .ok (.getfield 110, 3) := by decide +kernel
theorem dX12_people_235 : decode cX12_people 235 = .ok (.iadd, 1) := by decide +kernel
theorem dX12_people_236 : decode cX12_people 236 = .ok (.iconst 0, 1) := by decide +kernel
theorem dX12_people_237 : decode cX12_people 237 = .ok (.iastore, 1) := by decide +kernel
theorem dX12_people_238 : decode cX12_people 238 = .ok (.aload_n 0, 1) := by decide +kernel
theorem dX12_people_239 : decode cX12_people 239 = .ok (.dup, 1) := by decide +kernel
theorem dX12_people_240 : decode cX12_people 240 = .ok (.getfield 110, 3) := by decide +kernel
theorem dX12_people_243 : decode cX12_people 243 = .ok (.iconst 1, 1) := by decide +kernel
theorem dX12_people_244 : decode cX12_people 244 = .ok (.iadd, 1) := by decide +kernel
theorem dX12_people_245 : decode cX12_people 245 = .ok (.putfield 110, 3) := by decide +kernel
theorem dX12_people_248 : decode cX12_people 248 = .ok (.iinc 3 1, 3) := by decide +kernel
theorem dX12_people_251 : decode cX12_people 251 = .ok (.goto (-99), 3) := by decide +kernel
theorem dX12_people_254 : decode cX12_people 254 = .ok (.aload_n 0, 1) := by decide +kernel
theorem dX12_people_255 : decode cX12_people 255 = .ok (.iconst 0, 1) := by decide +kernel
theorem dX12_people_256 : decode cX12_people 256 = .ok (.putfield 174, 3) := by decide +kernel
theorem dX12_people_259 : decode cX12_people 259 = .ok (.aload_n 0, 1) := by decide +kernel
theorem dX12_people_260 : decode cX12_people 260 = .ok (.dup, 1) := by decide +kernel
theorem dX12_people_261 : decode cX12_people 261 = .ok (.getfield 177, 3) := by decide +kernel
theorem dX12_people_264 : decode cX12_people 264 = .ok (.iconst 1, 1) := by decide +kernel
theorem dX12_people_265 : decode cX12_people 265 = .ok (.iadd, 1) := by decide +kernel
theorem dX12_people_266 : decode cX12_people 266 = .ok (.putfield 177, 3) := by decide +kernel
theorem dX12_people_269 : decode cX12_people 269 = .ok (.iload_n 1, 1) := by decide +kernel
theorem dX12_people_270 : decode cX12_people 270 = .ok (.ireturn, 1) := by decide +kernel
abbrev YX12_people : li_Y := (yX12_people, cX12_people, 4, (some .int))
set_option maxRecDepth 100000 in
set_option maxHeartbeats 4000000 in
theorem k_X12_people {l : Launch} {Z : li_Z} (d : Nat) (hd : 5 ≤ d) (M0 : li_M) (hJ : li_J M0) : li_Met l Z YX12_people d [.ref (Z.2.2 175)] M0 (fun r M' => (∃ x : Int32, r = some (.int x)) ∧ li_fs (fun i k => i = 176 ∨ i = 177 ∨ i = 178 ∨ i = 182 ∨ i = 1000 ∨ (i = 175 ∧ k = 1) ∨ (i = 175 ∧ k = 10) ∨ (i = 175 ∧ k = 12) ∨ (i = 175 ∧ k = 13) ∨ (i = 175 ∧ k = 14) ∨ (i = 175 ∧ k = 15) ∨ (i = 175 ∧ k = 23) ∨ (i = 175 ∧ k = 48) ∨ (i = 175 ∧ k = 7)) M0 M' ∧ li_J M') := by
  refine li_enter (by decide +kernel) (Nat.le_of_ble_eq_true rfl) ?_
  show li_T l Z YX12_people d 0 [(0, .ref (Z.2.2 175))] [] M0 _
  have hf : li_fs (fun i k => i = 176 ∨ i = 177 ∨ i = 178 ∨ i = 182 ∨ i = 1000 ∨ (i = 175 ∧ k = 1) ∨ (i = 175 ∧ k = 10) ∨ (i = 175 ∧ k = 12) ∨ (i = 175 ∧ k = 13) ∨ (i = 175 ∧ k = 14) ∨ (i = 175 ∧ k = 15) ∨ (i = 175 ∧ k = 23) ∨ (i = 175 ∧ k = 48) ∨ (i = 175 ∧ k = 7)) M0 M0 := li_fs_refl
  have rM0_1 := J_sl1 (M := M0) hJ
  have rM0_15 := J_sl15 (M := M0) hJ
  refine li_aload_n 0 dX12_people_0 rfl ?_
  refine li_iconst 0 dX12_people_1 (by decide) ?_
  refine li_puti (k := 10) (N := 52) (T := TX12) (C0 := RX12) dX12_people_2 (by decide) sh_175 rfl rfl (by decide) li_in12 tyX12_ok nmX12 rfl rfl rfl rfl w_1414 ?_
  refine li_nm (fun M1 eM1 => ?_)
  have hf := li_fs_ui hf (Or.inr (Or.inr (Or.inr (Or.inr (Or.inr (Or.inr (Or.inl ⟨rfl, rfl⟩))))))) eM1
  have z0 : (0 : Int32).toInt = 0 := rfl
  have hJ := hJ.put (k := 10) (by decide) (rg_free rfl) eM1
  have rM1_1 := J_sl1 (M := M1) hJ
  have rM1_15 := J_sl15 (M := M1) hJ
  have mM1_1 : (M1.1 175 1).toInt = (M0.1 175 1).toInt := by rw [eM1, li_ui_at, if_pos rfl, if_neg (by decide)]
  have mM1_15 : (M1.1 175 15).toInt = (M0.1 175 15).toInt := by rw [eM1, li_ui_at, if_pos rfl, if_neg (by decide)]
  refine li_aload_n 0 dX12_people_5 rfl ?_
  refine li_aload_n 0 dX12_people_6 rfl ?_
  refine li_getr (k := 6) (N := 52) (T := TX12) (C0 := RX12) dX12_people_7 (by decide) sh_175 rfl rfl (by decide) (by decide) li_in12 w_1410 ?_
  refine li_aload_n 0 dX12_people_10 rfl ?_
  refine li_geti (k := 7) (N := 52) (T := TX12) (C0 := RX12) dX12_people_11 (by decide) sh_175 rfl rfl (by decide) li_in12 w_1411 ?_
  refine li_top (fun x2 ex2 => ?_)
  have gx2 : 0 ≤ x2.toInt ∧ x2.toInt ≤ 80 := by rw [ex2]; exact J_sl7 hJ
  have mx2 : x2.toInt = (M1.1 175 7).toInt := tl_slot ex2
  refine li_bipush 76 dX12_people_14 (by decide) ?_
  have z76 : (76 : Int32).toInt = 76 := rfl
  refine li_callV (n := 3) (As := [.ref (Z.2.2 180), .int x2, .int 76]) dX12_people_16 (k_X12_begin (d - 1) (by unfold li_rq; omega) x2 76 M1 hJ (show 0 ≤ (x2 : Int32).toInt ∧ (x2 : Int32).toInt ≤ (li_qn 180 : Int) by have := li_qn_fix; omega) (by omega)) (by omega) (Nat.le_of_ble_eq_true rfl) w_1577 w_1579 w_42 w_112 w_1580 (by decide +kernel) rfl (by decide) sh_175 rfl rfl (Nat.le_of_ble_eq_true rfl) (fun r M4 h5 => ?_)
  obtain ⟨rfl, h5, jM4, nM4⟩ := h5
  have hf := li_fs_trans hf h5 (fun i k => fun h => Or.elim h (fun h => Or.inr (Or.inr (Or.inr (Or.inr (Or.inr (Or.inr (Or.inr (Or.inl h)))))))) (fun h => Or.elim h (fun h => Or.inr (Or.inr (Or.inr (Or.inr (Or.inr (Or.inr (Or.inr (Or.inr (Or.inl h))))))))) (fun h => Or.elim h (fun h => Or.inr (Or.inr (Or.inr (Or.inr (Or.inr (Or.inr (Or.inr (Or.inr (Or.inr (Or.inl h)))))))))) (fun h => Or.elim h (fun h => Or.inr (Or.inr (Or.inr (Or.inr (Or.inr (Or.inr (Or.inr (Or.inr (Or.inr (Or.inr (Or.inl h))))))))))) (fun h => Or.inr (Or.inr (Or.inr (Or.inr (Or.inl h)))))))))
  have hJ := jM4
  have rM4_1 := J_sl1 (M := M4) hJ
  have rM4_15 := J_sl15 (M := M4) hJ
  have mM4_1 : (M4.1 175 1).toInt = (M1.1 175 1).toInt := tl_slot (h5.1 175 1 (show ¬ ((175 = 175 ∧ 1 = 12) ∨ (175 = 175 ∧ 1 = 13) ∨ (175 = 175 ∧ 1 = 14) ∨ (175 = 175 ∧ 1 = 15) ∨ 175 = 1000) by decide))
  refine li_aload_n 0 dX12_people_19 rfl ?_
  refine li_iconst 0 dX12_people_20 (by decide) ?_
  refine li_puti (k := 7) (N := 52) (T := TX12) (C0 := RX12) dX12_people_21 (by decide) sh_175 rfl rfl (by decide) li_in12 tyX12_ok nmX12 rfl rfl rfl rfl w_1411 ?_
  refine li_nm (fun M6 eM6 => ?_)
  have hf := li_fs_ui hf (Or.inr (Or.inr (Or.inr (Or.inr (Or.inr (Or.inr (Or.inr (Or.inr (Or.inr (Or.inr (Or.inr (Or.inr (Or.inr (⟨rfl, rfl⟩)))))))))))))) eM6
  have z0 : (0 : Int32).toInt = 0 := rfl
  have hJ := J_pt7 hJ (show 0 ≤ (0 : Int32).toInt ∧ (0 : Int32).toInt ≤ 80 by omega) eM6
  have rM6_1 := J_sl1 (M := M6) hJ
  have rM6_15 := J_sl15 (M := M6) hJ
  have mM6_1 : (M6.1 175 1).toInt = (M4.1 175 1).toInt := by rw [eM6, li_ui_at, if_pos rfl, if_neg (by decide)]
  have mM6_15 : (M6.1 175 15).toInt = (M4.1 175 15).toInt := by rw [eM6, li_ui_at, if_pos rfl, if_neg (by decide)]
  refine li_aload_n 0 dX12_people_24 rfl ?_
  refine li_geti (k := 12) (N := 52) (T := TX12) (C0 := RX12) dX12_people_25 (by decide) sh_175 rfl rfl (by decide) li_in12 w_1416 ?_
  refine li_top (fun x7 ex7 => ?_)
  have gx7 : 0 ≤ x7.toInt ∧ x7.toInt ≤ 80 := by rw [ex7]; exact J_sl12 hJ
  have mx7 : x7.toInt = (M6.1 175 12).toInt := tl_slot ex7
  refine li_if_ne 33 dX12_people_28 (by decide) (fun c8 => ?_) (fun c8 => ?_)
  · have tc8 : ¬ x7.toInt = 0 := tl_ne c8
    refine li_iconst 0 dX12_people_33 (by decide) ?_
    refine li_istore_n [(1, .int 0), (0, .ref (Z.2.2 175))] dX12_people_34 (by decide) rfl ?_
    refine li_iconst 1 dX12_people_35 (by decide) ?_
    refine li_istore_n [(2, .int 1), (1, .int 0), (0, .ref (Z.2.2 175))] dX12_people_36 (by decide) rfl ?_
    have J117 : ∀ (x9 : Int32) (x10 : Int32) (M11 : li_M), li_fs (fun i k => i = 176 ∨ i = 177 ∨ i = 178 ∨ i = 182 ∨ i = 1000 ∨ (i = 175 ∧ k = 1) ∨ (i = 175 ∧ k = 10) ∨ (i = 175 ∧ k = 12) ∨ (i = 175 ∧ k = 13) ∨ (i = 175 ∧ k = 14) ∨ (i = 175 ∧ k = 15) ∨ (i = 175 ∧ k = 23) ∨ (i = 175 ∧ k = 48) ∨ (i = 175 ∧ k = 7)) M0 M11 → li_J M11 → 0 ≤ (x10 : Int32).toInt ∧ (M11.1 175 1).toInt + (x10 : Int32).toInt ≤ 7 ∧ (M11.1 175 1).toInt + (x10 : Int32).toInt ≤ 7 + (M11.1 175 15).toInt → li_T l Z YX12_people d 117 [(2, .int x9), (1, .int x10), (0, .ref (Z.2.2 175))] [] M11 (fun r M' => (∃ x : Int32, r = some (.int x)) ∧ li_fs (fun i k => i = 176 ∨ i = 177 ∨ i = 178 ∨ i = 182 ∨ i = 1000 ∨ (i = 175 ∧ k = 1) ∨ (i = 175 ∧ k = 10) ∨ (i = 175 ∧ k = 12) ∨ (i = 175 ∧ k = 13) ∨ (i = 175 ∧ k = 14) ∨ (i = 175 ∧ k = 15) ∨ (i = 175 ∧ k = 23) ∨ (i = 175 ∧ k = 48) ∨ (i = 175 ∧ k = 7)) M0 M' ∧ li_J M') := by
      intro x9 x10 M11 hf hJ hi
      have gx9 := tl_rg x9
      have gx10 := tl_rg x10
      have rM11_1 := J_sl1 (M := M11) hJ
      have rM11_15 := J_sl15 (M := M11) hJ
      refine li_aload_n 2 dX12_people_117 rfl ?_
      refine li_geti (k := 14) (N := 52) (T := TX12) (C0 := RX12) dX12_people_118 (by decide) sh_175 rfl rfl (by decide) li_in12 w_1418 ?_
      refine li_top (fun x12 ex12 => ?_)
      have gx12 : 0 ≤ x12.toInt ∧ x12.toInt ≤ 81 := by rw [ex12]; exact J_sl14 hJ
      have mx12 : x12.toInt = (M11.1 175 14).toInt := tl_slot ex12
      refine li_aload_n 2 dX12_people_121 rfl ?_
      refine li_geti (k := 12) (N := 52) (T := TX12) (C0 := RX12) dX12_people_122 (by decide) sh_175 rfl rfl (by decide) li_in12 w_1416 ?_
      refine li_top (fun x13 ex13 => ?_)
      have gx13 : 0 ≤ x13.toInt ∧ x13.toInt ≤ 80 := by rw [ex13]; exact J_sl12 hJ
      have mx13 : x13.toInt = (M11.1 175 12).toInt := tl_slot ex13
      have J136 : ∀  (M15 : li_M), li_fs (fun i k => i = 176 ∨ i = 177 ∨ i = 178 ∨ i = 182 ∨ i = 1000 ∨ (i = 175 ∧ k = 1) ∨ (i = 175 ∧ k = 10) ∨ (i = 175 ∧ k = 12) ∨ (i = 175 ∧ k = 13) ∨ (i = 175 ∧ k = 14) ∨ (i = 175 ∧ k = 15) ∨ (i = 175 ∧ k = 23) ∨ (i = 175 ∧ k = 48) ∨ (i = 175 ∧ k = 7)) M0 M15 → li_J M15 → (M15.1 175 1).toInt + (x10 : Int32).toInt ≤ 7 ∧ (M15.1 175 1).toInt + (x10 : Int32).toInt ≤ 7 + (M15.1 175 15).toInt → li_T l Z YX12_people d 136 [(2, .int x9), (1, .int x10), (0, .ref (Z.2.2 175))] [] M15 (fun r M' => (∃ x : Int32, r = some (.int x)) ∧ li_fs (fun i k => i = 176 ∨ i = 177 ∨ i = 178 ∨ i = 182 ∨ i = 1000 ∨ (i = 175 ∧ k = 1) ∨ (i = 175 ∧ k = 10) ∨ (i = 175 ∧ k = 12) ∨ (i = 175 ∧ k = 13) ∨ (i = 175 ∧ k = 14) ∨ (i = 175 ∧ k = 15) ∨ (i = 175 ∧ k = 23) ∨ (i = 175 ∧ k = 48) ∨ (i = 175 ∧ k = 7)) M0 M' ∧ li_J M') := by
        intro  M15 hf hJ hi
        have rM15_1 := J_sl1 (M := M15) hJ
        have rM15_15 := J_sl15 (M := M15) hJ
        refine li_aload_n 2 dX12_people_136 rfl ?_
        refine li_callV (n := 0) (As := []) dX12_people_137 (k_X12_fineW (d - 1) (by omega)  M15 hJ ) (by omega) (Nat.le_of_ble_eq_true rfl) w_1581 w_1583 w_43 w_112 w_1584 (by decide +kernel) rfl (by decide) sh_175 rfl rfl (Nat.le_of_ble_eq_true rfl) (fun r M17 h18 => ?_)
        obtain ⟨qx16, h18, jM17⟩ := h18
        have hf := li_fs_trans hf h18 (fun i k h => False.elim h)
        have hJ := jM17
        have rM17_1 := J_sl1 (M := M17) hJ
        have rM17_15 := J_sl15 (M := M17) hJ
        have mM17_1 : (M17.1 175 1).toInt = (M15.1 175 1).toInt := tl_slot (h18.1 175 1 id)
        have mM17_15 : (M17.1 175 15).toInt = (M15.1 175 15).toInt := tl_slot (h18.1 175 15 id)
        rcases qx16 with ⟨rfl, qx16⟩ | ⟨rfl, qx16⟩
        · skip
          refine li_if_ne 150 dX12_people_140 (by decide) (fun c => ?_) (fun c => absurd c (by decide))
          refine li_iconst 0 dX12_people_150 (by decide) ?_
          refine li_istore_n [(3, .int 0), (2, .int x9), (1, .int x10), (0, .ref (Z.2.2 175))] dX12_people_151 (by decide) rfl ?_
          have L152 : ∀ (n : Nat) (x20 : Int32) (M21 : li_M), ((x10 : Int32).toInt - (x20 : Int32).toInt).toNat < n → li_fs (fun i k => i = 176 ∨ i = 177 ∨ i = 178 ∨ i = 182 ∨ i = 1000 ∨ (i = 175 ∧ k = 1) ∨ (i = 175 ∧ k = 10) ∨ (i = 175 ∧ k = 12) ∨ (i = 175 ∧ k = 13) ∨ (i = 175 ∧ k = 14) ∨ (i = 175 ∧ k = 15) ∨ (i = 175 ∧ k = 23) ∨ (i = 175 ∧ k = 48) ∨ (i = 175 ∧ k = 7)) M0 M21 → li_J M21 → 0 ≤ (x20 : Int32).toInt ∧ (x20 : Int32).toInt ≤ (x10 : Int32).toInt ∧ (M21.1 175 1).toInt + (x10 : Int32).toInt - (x20 : Int32).toInt ≤ 6 → li_T l Z YX12_people d 152 [(3, .int x20), (2, .int x9), (1, .int x10), (0, .ref (Z.2.2 175))] [] M21 (fun r M' => (∃ x : Int32, r = some (.int x)) ∧ li_fs (fun i k => i = 176 ∨ i = 177 ∨ i = 178 ∨ i = 182 ∨ i = 1000 ∨ (i = 175 ∧ k = 1) ∨ (i = 175 ∧ k = 10) ∨ (i = 175 ∧ k = 12) ∨ (i = 175 ∧ k = 13) ∨ (i = 175 ∧ k = 14) ∨ (i = 175 ∧ k = 15) ∨ (i = 175 ∧ k = 23) ∨ (i = 175 ∧ k = 48) ∨ (i = 175 ∧ k = 7)) M0 M' ∧ li_J M') := by
            intro n
            induction n with
            | zero => intro x20 M21 hn; exact absurd hn (Nat.not_lt_zero _)
            | succ n ih152 =>
              intro x20 M21 hn hf hJ hi
              have gx20 := tl_rg x20
              have rM21_1 := J_sl1 (M := M21) hJ
              have rM21_15 := J_sl15 (M := M21) hJ
              refine li_iload_n 0 dX12_people_152 rfl ?_
              refine li_iload_n 2 dX12_people_153 rfl ?_
              refine li_icmp_ge 254 dX12_people_154 (by decide) (fun c22 => ?_) (fun c22 => ?_)
              · have tc22 : x10.toInt ≤ x20.toInt := tl_le c22
                refine li_aload_n 3 dX12_people_254 rfl ?_
                refine li_iconst 0 dX12_people_255 (by decide) ?_
                refine li_puti (k := 23) (N := 52) (T := TX12) (C0 := RX12) dX12_people_256 (by decide) sh_175 rfl rfl (by decide) li_in12 tyX12_ok nmX12 rfl rfl rfl rfl w_1427 ?_
                refine li_nm (fun M23 eM23 => ?_)
                have hf := li_fs_ui hf (Or.inr (Or.inr (Or.inr (Or.inr (Or.inr (Or.inr (Or.inr (Or.inr (Or.inr (Or.inr (Or.inr (Or.inl ⟨rfl, rfl⟩)))))))))))) eM23
                have z0 : (0 : Int32).toInt = 0 := rfl
                have hJ := J_pt23 hJ (show 0 ≤ (0 : Int32).toInt ∧ (0 : Int32).toInt ≤ 12 by omega) eM23
                have rM23_1 := J_sl1 (M := M23) hJ
                have rM23_15 := J_sl15 (M := M23) hJ
                have mM23_1 : (M23.1 175 1).toInt = (M21.1 175 1).toInt := by rw [eM23, li_ui_at, if_pos rfl, if_neg (by decide)]
                have mM23_15 : (M23.1 175 15).toInt = (M21.1 175 15).toInt := by rw [eM23, li_ui_at, if_pos rfl, if_neg (by decide)]
                refine li_aload_n 3 dX12_people_259 rfl ?_
                refine li_dup dX12_people_260 rfl ?_
                refine li_geti (k := 48) (N := 52) (T := TX12) (C0 := RX12) dX12_people_261 (by decide) sh_175 rfl rfl (by decide) li_in12 w_1452 ?_
                refine li_top (fun x24 ex24 => ?_)
                have gx24 := tl_rg x24
                have mx24 : x24.toInt = (M23.1 175 48).toInt := tl_slot ex24
                refine li_iconst 1 dX12_people_264 (by decide) ?_
                refine li_iadd dX12_people_265 ?_
                refine li_top (fun x25 ex25 => ?_)
                have z1 : (1 : Int32).toInt = 1 := rfl
                try (have tx25 : x25.toInt = (x24 : Int32).toInt + (1 : Int32).toInt := tl_add ex25 (by omega))
                refine li_puti (k := 48) (N := 52) (T := TX12) (C0 := RX12) dX12_people_266 (by decide) sh_175 rfl rfl (by decide) li_in12 tyX12_ok nmX12 rfl rfl rfl rfl w_1452 ?_
                refine li_nm (fun M26 eM26 => ?_)
                have hf := li_fs_ui hf (Or.inr (Or.inr (Or.inr (Or.inr (Or.inr (Or.inr (Or.inr (Or.inr (Or.inr (Or.inr (Or.inr (Or.inr (Or.inl ⟨rfl, rfl⟩))))))))))))) eM26
                have hJ := hJ.put (k := 48) (by decide) (rg_free rfl) eM26
                have rM26_1 := J_sl1 (M := M26) hJ
                have rM26_15 := J_sl15 (M := M26) hJ
                have mM26_1 : (M26.1 175 1).toInt = (M23.1 175 1).toInt := by rw [eM26, li_ui_at, if_pos rfl, if_neg (by decide)]
                have mM26_15 : (M26.1 175 15).toInt = (M23.1 175 15).toInt := by rw [eM26, li_ui_at, if_pos rfl, if_neg (by decide)]
                refine li_iload_n 2 dX12_people_269 rfl ?_
                exact li_iret dX12_people_270 rfl rfl ⟨⟨_, rfl⟩, hf, hJ⟩
              · have tc22 : x20.toInt < x10.toInt := tl_nle c22
                refine li_aload_n 3 dX12_people_157 rfl ?_
                refine li_getr (k := 2) (N := 52) (T := TX12) (C0 := RX12) dX12_people_158 (by decide) sh_175 rfl rfl (by decide) (by decide) li_in12 w_1406 ?_
                refine li_aload_n 3 dX12_people_161 rfl ?_
                refine li_geti (k := 1) (N := 52) (T := TX12) (C0 := RX12) dX12_people_162 (by decide) sh_175 rfl rfl (by decide) li_in12 w_1405 ?_
                refine li_top (fun x27 ex27 => ?_)
                have gx27 : 0 ≤ x27.toInt ∧ x27.toInt ≤ 6 := by rw [ex27]; exact J_sl1 hJ
                have mx27 : x27.toInt = (M21.1 175 1).toInt := tl_slot ex27
                refine li_aload_n 3 dX12_people_165 rfl ?_
                refine li_getr (k := 16) (N := 52) (T := TX12) (C0 := RX12) dX12_people_166 (by decide) sh_175 rfl rfl (by decide) (by decide) li_in12 w_1420 ?_
                refine li_iconst 2 dX12_people_169 (by decide) ?_
                refine li_iload_n 0 dX12_people_170 rfl ?_
                refine li_imul dX12_people_171 ?_
                refine li_top (fun x28 ex28 => ?_)
                have z2 : (2 : Int32).toInt = 2 := rfl
                try (have tx28 : x28.toInt = 2 * (x20 : Int32).toInt := tl_mul ex28 (show -2147483648 ≤ 2 * (x20 : Int32).toInt ∧ 2 * (x20 : Int32).toInt ≤ 2147483647 by omega))
                refine li_iald dX12_people_172 (by decide) sh_182 (tl_in (by omega)) ?_
                refine li_top (fun x29 ex29 => ?_)
                have gx29 := tl_rg x29
                refine li_iast dX12_people_173 (by decide) sh_177 (tl_in (by omega)) ?_
                refine li_nm (fun M30 eM30 => ?_)
                have hf := li_fs_ui hf (Or.inr (Or.inl rfl)) eM30
                have hJ := hJ.st (by decide) (li_el_free (by unfold li_led; omega) (by decide) (by decide) (by unfold li_rq; omega)) eM30
                have rM30_1 := J_sl1 (M := M30) hJ
                have rM30_15 := J_sl15 (M := M30) hJ
                have mM30_1 : (M30.1 175 1).toInt = (M21.1 175 1).toInt := by rw [eM30, li_ui_at, if_neg (by decide)]
                have mM30_15 : (M30.1 175 15).toInt = (M21.1 175 15).toInt := by rw [eM30, li_ui_at, if_neg (by decide)]
                refine li_aload_n 3 dX12_people_174 rfl ?_
                refine li_getr (k := 3) (N := 52) (T := TX12) (C0 := RX12) dX12_people_175 (by decide) sh_175 rfl rfl (by decide) (by decide) li_in12 w_1407 ?_
                refine li_aload_n 3 dX12_people_178 rfl ?_
                refine li_geti (k := 1) (N := 52) (T := TX12) (C0 := RX12) dX12_people_179 (by decide) sh_175 rfl rfl (by decide) li_in12 w_1405 ?_
                refine li_top (fun x31 ex31 => ?_)
                have gx31 : 0 ≤ x31.toInt ∧ x31.toInt ≤ 6 := by rw [ex31]; exact J_sl1 hJ
                have mx31 : x31.toInt = (M30.1 175 1).toInt := tl_slot ex31
                refine li_aload_n 3 dX12_people_182 rfl ?_
                refine li_getr (k := 16) (N := 52) (T := TX12) (C0 := RX12) dX12_people_183 (by decide) sh_175 rfl rfl (by decide) (by decide) li_in12 w_1420 ?_
                refine li_iconst 2 dX12_people_186 (by decide) ?_
                refine li_iload_n 0 dX12_people_187 rfl ?_
                refine li_imul dX12_people_188 ?_
                refine li_top (fun x32 ex32 => ?_)
                have z2 : (2 : Int32).toInt = 2 := rfl
                try (have tx32 : x32.toInt = 2 * (x20 : Int32).toInt := tl_mul ex32 (show -2147483648 ≤ 2 * (x20 : Int32).toInt ∧ 2 * (x20 : Int32).toInt ≤ 2147483647 by omega))
                refine li_iconst 1 dX12_people_189 (by decide) ?_
                refine li_iadd dX12_people_190 ?_
                refine li_top (fun x33 ex33 => ?_)
                have z1 : (1 : Int32).toInt = 1 := rfl
                try (have tx33 : x33.toInt = (x32 : Int32).toInt + (1 : Int32).toInt := tl_add ex33 (by omega))
                refine li_iald dX12_people_191 (by decide) sh_182 (tl_in (by omega)) ?_
                refine li_top (fun x34 ex34 => ?_)
                have gx34 := tl_rg x34
                refine li_iast dX12_people_192 (by decide) sh_178 (tl_in (by omega)) ?_
                refine li_nm (fun M35 eM35 => ?_)
                have hf := li_fs_ui hf (Or.inr (Or.inr (Or.inl rfl))) eM35
                have hJ := hJ.st (by decide) (li_el_free (by unfold li_led; omega) (by decide) (by decide) (by unfold li_rq; omega)) eM35
                have rM35_1 := J_sl1 (M := M35) hJ
                have rM35_15 := J_sl15 (M := M35) hJ
                have mM35_1 : (M35.1 175 1).toInt = (M30.1 175 1).toInt := by rw [eM35, li_ui_at, if_neg (by decide)]
                have mM35_15 : (M35.1 175 15).toInt = (M30.1 175 15).toInt := by rw [eM35, li_ui_at, if_neg (by decide)]
                refine li_aload_n 3 dX12_people_193 rfl ?_
                refine li_getr (k := 0) (N := 52) (T := TX12) (C0 := RX12) dX12_people_194 (by decide) sh_175 rfl rfl (by decide) (by decide) li_in12 w_1404 ?_
                refine li_aload_n 3 dX12_people_197 rfl ?_
                refine li_geti (k := 1) (N := 52) (T := TX12) (C0 := RX12) dX12_people_198 (by decide) sh_175 rfl rfl (by decide) li_in12 w_1405 ?_
                refine li_top (fun x36 ex36 => ?_)
                have gx36 : 0 ≤ x36.toInt ∧ x36.toInt ≤ 6 := by rw [ex36]; exact J_sl1 hJ
                have mx36 : x36.toInt = (M35.1 175 1).toInt := tl_slot ex36
                refine li_aload_n 3 dX12_people_201 rfl ?_
                refine li_getr (k := 16) (N := 52) (T := TX12) (C0 := RX12) dX12_people_202 (by decide) sh_175 rfl rfl (by decide) (by decide) li_in12 w_1420 ?_
                refine li_iconst 2 dX12_people_205 (by decide) ?_
                refine li_iload_n 0 dX12_people_206 rfl ?_
                refine li_imul dX12_people_207 ?_
                refine li_top (fun x37 ex37 => ?_)
                have z2 : (2 : Int32).toInt = 2 := rfl
                try (have tx37 : x37.toInt = 2 * (x20 : Int32).toInt := tl_mul ex37 (show -2147483648 ≤ 2 * (x20 : Int32).toInt ∧ 2 * (x20 : Int32).toInt ≤ 2147483647 by omega))
                refine li_iconst 1 dX12_people_208 (by decide) ?_
                refine li_iadd dX12_people_209 ?_
                refine li_top (fun x38 ex38 => ?_)
                have z1 : (1 : Int32).toInt = 1 := rfl
                try (have tx38 : x38.toInt = (x37 : Int32).toInt + (1 : Int32).toInt := tl_add ex38 (by omega))
                refine li_iald dX12_people_210 (by decide) sh_182 (tl_in (by omega)) ?_
                refine li_top (fun x39 ex39 => ?_)
                have gx39 := tl_rg x39
                refine li_iast dX12_people_211 (by decide) sh_176 (tl_in (by omega)) ?_
                refine li_nm (fun M40 eM40 => ?_)
                have hf := li_fs_ui hf (Or.inl rfl) eM40
                try (have oM40 : (x36 : Int32).toInt % 51 = (x36 : Int32).toInt := by omega)
                have hJ := hJ.st (by decide) (li_el_led (by unfold li_led; omega) (by omega) (show ((x36 : Int32).toInt % 51 = 20 → 0 ≤ (x39 : Int32).toInt ∧ (x39 : Int32).toInt ≤ 6) ∧ (21 ≤ (x36 : Int32).toInt % 51 → ((x36 : Int32).toInt % 51 - 21) % 5 < 2 → 0 ≤ (x39 : Int32).toInt ∧ (x39 : Int32).toInt ≤ 5) by omega)) eM40
                have rM40_1 := J_sl1 (M := M40) hJ
                have rM40_15 := J_sl15 (M := M40) hJ
                have mM40_1 : (M40.1 175 1).toInt = (M35.1 175 1).toInt := by rw [eM40, li_ui_at, if_neg (by decide)]
                have mM40_15 : (M40.1 175 15).toInt = (M35.1 175 15).toInt := by rw [eM40, li_ui_at, if_neg (by decide)]
                refine li_aload_n 3 dX12_people_212 rfl ?_
                refine li_getr (k := 0) (N := 52) (T := TX12) (C0 := RX12) dX12_people_213 (by decide) sh_175 rfl rfl (by decide) (by decide) li_in12 w_1404 ?_
                refine li_bipush 6 dX12_people_216 (by decide) ?_
                refine li_aload_n 3 dX12_people_218 rfl ?_
                refine li_geti (k := 1) (N := 52) (T := TX12) (C0 := RX12) dX12_people_219 (by decide) sh_175 rfl rfl (by decide) li_in12 w_1405 ?_
                refine li_top (fun x41 ex41 => ?_)
                have gx41 : 0 ≤ x41.toInt ∧ x41.toInt ≤ 6 := by rw [ex41]; exact J_sl1 hJ
                have mx41 : x41.toInt = (M40.1 175 1).toInt := tl_slot ex41
                refine li_iadd dX12_people_222 ?_
                refine li_top (fun x42 ex42 => ?_)
                have z6 : (6 : Int32).toInt = 6 := rfl
                try (have tx42 : x42.toInt = (6 : Int32).toInt + (x41 : Int32).toInt := tl_add ex42 (by omega))
                refine li_iconst 0 dX12_people_223 (by decide) ?_
                have z0 : (0 : Int32).toInt = 0 := rfl
                refine li_iast dX12_people_224 (by decide) sh_176 (tl_in (by omega)) ?_
                refine li_nm (fun M43 eM43 => ?_)
                have hf := li_fs_ui hf (Or.inl rfl) eM43
                try (have oM43 : (x42 : Int32).toInt % 51 = (x42 : Int32).toInt := by omega)
                have hJ := hJ.st (by decide) (li_el_led (by unfold li_led; omega) (by omega) (show ((x42 : Int32).toInt % 51 = 20 → 0 ≤ (0 : Int32).toInt ∧ (0 : Int32).toInt ≤ 6) ∧ (21 ≤ (x42 : Int32).toInt % 51 → ((x42 : Int32).toInt % 51 - 21) % 5 < 2 → 0 ≤ (0 : Int32).toInt ∧ (0 : Int32).toInt ≤ 5) by omega)) eM43
                have rM43_1 := J_sl1 (M := M43) hJ
                have rM43_15 := J_sl15 (M := M43) hJ
                have mM43_1 : (M43.1 175 1).toInt = (M40.1 175 1).toInt := by rw [eM43, li_ui_at, if_neg (by decide)]
                have mM43_15 : (M43.1 175 15).toInt = (M40.1 175 15).toInt := by rw [eM43, li_ui_at, if_neg (by decide)]
                refine li_aload_n 3 dX12_people_225 rfl ?_
                refine li_getr (k := 0) (N := 52) (T := TX12) (C0 := RX12) dX12_people_226 (by decide) sh_175 rfl rfl (by decide) (by decide) li_in12 w_1404 ?_
                refine li_bipush 12 dX12_people_229 (by decide) ?_
                refine li_aload_n 3 dX12_people_231 rfl ?_
                refine li_geti (k := 1) (N := 52) (T := TX12) (C0 := RX12) dX12_people_232 (by decide) sh_175 rfl rfl (by decide) li_in12 w_1405 ?_
                refine li_top (fun x44 ex44 => ?_)
                have gx44 : 0 ≤ x44.toInt ∧ x44.toInt ≤ 6 := by rw [ex44]; exact J_sl1 hJ
                have mx44 : x44.toInt = (M43.1 175 1).toInt := tl_slot ex44
                refine li_iadd dX12_people_235 ?_
                refine li_top (fun x45 ex45 => ?_)
                have z12 : (12 : Int32).toInt = 12 := rfl
                try (have tx45 : x45.toInt = (12 : Int32).toInt + (x44 : Int32).toInt := tl_add ex45 (by omega))
                refine li_iconst 0 dX12_people_236 (by decide) ?_
                have z0 : (0 : Int32).toInt = 0 := rfl
                refine li_iast dX12_people_237 (by decide) sh_176 (tl_in (by omega)) ?_
                refine li_nm (fun M46 eM46 => ?_)
                have hf := li_fs_ui hf (Or.inl rfl) eM46
                try (have oM46 : (x45 : Int32).toInt % 51 = (x45 : Int32).toInt := by omega)
                have hJ := hJ.st (by decide) (li_el_led (by unfold li_led; omega) (by omega) (show ((x45 : Int32).toInt % 51 = 20 → 0 ≤ (0 : Int32).toInt ∧ (0 : Int32).toInt ≤ 6) ∧ (21 ≤ (x45 : Int32).toInt % 51 → ((x45 : Int32).toInt % 51 - 21) % 5 < 2 → 0 ≤ (0 : Int32).toInt ∧ (0 : Int32).toInt ≤ 5) by omega)) eM46
                have rM46_1 := J_sl1 (M := M46) hJ
                have rM46_15 := J_sl15 (M := M46) hJ
                have mM46_1 : (M46.1 175 1).toInt = (M43.1 175 1).toInt := by rw [eM46, li_ui_at, if_neg (by decide)]
                have mM46_15 : (M46.1 175 15).toInt = (M43.1 175 15).toInt := by rw [eM46, li_ui_at, if_neg (by decide)]
                refine li_aload_n 3 dX12_people_238 rfl ?_
                refine li_dup dX12_people_239 rfl ?_
                refine li_geti (k := 1) (N := 52) (T := TX12) (C0 := RX12) dX12_people_240 (by decide) sh_175 rfl rfl (by decide) li_in12 w_1405 ?_
                refine li_top (fun x47 ex47 => ?_)
                have gx47 : 0 ≤ x47.toInt ∧ x47.toInt ≤ 6 := by rw [ex47]; exact J_sl1 hJ
                have mx47 : x47.toInt = (M46.1 175 1).toInt := tl_slot ex47
                refine li_iconst 1 dX12_people_243 (by decide) ?_
                refine li_iadd dX12_people_244 ?_
                refine li_top (fun x48 ex48 => ?_)
                have z1 : (1 : Int32).toInt = 1 := rfl
                try (have tx48 : x48.toInt = (x47 : Int32).toInt + (1 : Int32).toInt := tl_add ex48 (by omega))
                refine li_puti (k := 1) (N := 52) (T := TX12) (C0 := RX12) dX12_people_245 (by decide) sh_175 rfl rfl (by decide) li_in12 tyX12_ok nmX12 rfl rfl rfl rfl w_1405 ?_
                refine li_nm (fun M49 eM49 => ?_)
                have hf := li_fs_ui hf (Or.inr (Or.inr (Or.inr (Or.inr (Or.inr (Or.inl ⟨rfl, rfl⟩)))))) eM49
                have hJ := J_pt1 hJ (show 0 ≤ (x48 : Int32).toInt ∧ (x48 : Int32).toInt ≤ 6 by omega) eM49
                have rM49_1 := J_sl1 (M := M49) hJ
                have rM49_15 := J_sl15 (M := M49) hJ
                have mM49_1 : (M49.1 175 1).toInt = x48.toInt := by rw [eM49, li_ui_at, if_pos rfl, if_pos rfl]
                have mM49_15 : (M49.1 175 15).toInt = (M46.1 175 15).toInt := by rw [eM49, li_ui_at, if_pos rfl, if_neg (by decide)]
                obtain ⟨x50, ex50⟩ : ∃ y : Int32, y = x20 + 1 := ⟨_, rfl⟩
                have z1 : (1 : Int32).toInt = 1 := rfl
                try (have tx50 : x50.toInt = (x20 : Int32).toInt + (1 : Int32).toInt := tl_add ex50 (by omega))
                refine li_iinc 0 [(3, .int x50), (2, .int x9), (1, .int x10), (0, .ref (Z.2.2 175))] x50 dX12_people_248 rfl (by rw [ex50]; rfl) (by decide) rfl ?_
                refine li_goto 152 dX12_people_251 (by decide) ?_
                refine li_pick [0, 1, 2, 3] [(3, .int x50), (2, .int x9), (1, .int x10), (0, .ref (Z.2.2 175))] rfl ?_
                exact ih152 x50 M49 (by omega) hf hJ (by omega)
          have z0 : (0 : Int32).toInt = 0 := rfl
          exact L152 _ 0 M17 (Nat.lt_succ_self _) hf hJ (by omega)
        · skip
          refine li_if_ne 150 dX12_people_140 (by decide) (fun c => absurd rfl c) (fun c => ?_)
          refine li_iconst (-1) dX12_people_143 (by decide) ?_
          refine li_aload_n 2 dX12_people_144 rfl ?_
          refine li_geti (k := 15) (N := 52) (T := TX12) (C0 := RX12) dX12_people_145 (by decide) sh_175 rfl rfl (by decide) li_in12 w_1419 ?_
          refine li_top (fun x52 ex52 => ?_)
          have gx52 : -1 ≤ x52.toInt ∧ x52.toInt ≤ 81 := by rw [ex52]; exact J_sl15 hJ
          have mx52 : x52.toInt = (M17.1 175 15).toInt := tl_slot ex52
          refine li_isub dX12_people_148 ?_
          refine li_top (fun x53 ex53 => ?_)
          have zm1 : ((-1) : Int32).toInt = -1 := rfl
          try (have tx53 : x53.toInt = ((-1) : Int32).toInt - (x52 : Int32).toInt := tl_sub ex53 (by omega))
          exact li_iret dX12_people_149 rfl rfl ⟨⟨_, rfl⟩, hf, hJ⟩
      refine li_icmp_ge 136 dX12_people_125 (by decide) (fun c14 => ?_) (fun c14 => ?_)
      · have tc14 : x13.toInt ≤ x12.toInt := tl_le c14
        refine li_pick [0, 1, 2] [(2, .int x9), (1, .int x10), (0, .ref (Z.2.2 175))] rfl ?_
        exact J136  M11 hf hJ (by omega)
      · have tc14 : x12.toInt < x13.toInt := tl_nle c14
        refine li_aload_n 2 dX12_people_128 rfl ?_
        refine li_aload_n 2 dX12_people_129 rfl ?_
        refine li_geti (k := 14) (N := 52) (T := TX12) (C0 := RX12) dX12_people_130 (by decide) sh_175 rfl rfl (by decide) li_in12 w_1418 ?_
        refine li_top (fun x54 ex54 => ?_)
        have gx54 : 0 ≤ x54.toInt ∧ x54.toInt ≤ 81 := by rw [ex54]; exact J_sl14 hJ
        have mx54 : x54.toInt = (M11.1 175 14).toInt := tl_slot ex54
        refine li_callV (n := 1) (As := [.int x54]) dX12_people_133 (k_X12_faultW (d - 1) (by omega) x54 M11 hJ (by omega)) (by omega) (Nat.le_of_ble_eq_true rfl) w_1585 w_1587 w_44 w_112 w_1588 (by decide +kernel) rfl (by decide) sh_175 rfl rfl (Nat.le_of_ble_eq_true rfl) (fun r M56 h57 => ?_)
        obtain ⟨rfl, h57, jM56, nM56⟩ := h57
        have hf := li_fs_trans hf h57 (fun i k => fun h => Or.inr (Or.inr (Or.inr (Or.inr (Or.inr (Or.inr (Or.inr (Or.inr (Or.inr (Or.inr (Or.inl h)))))))))))
        have hJ := jM56
        have rM56_1 := J_sl1 (M := M56) hJ
        have rM56_15 := J_sl15 (M := M56) hJ
        have mM56_1 : (M56.1 175 1).toInt = (M11.1 175 1).toInt := tl_slot (h57.1 175 1 (show ¬ ((175 = 175 ∧ 1 = 15)) by decide))
        refine li_pick [0, 1, 2] [(2, .int x9), (1, .int x10), (0, .ref (Z.2.2 175))] rfl ?_
        exact J136  M56 hf hJ (by omega)
    have L37 : ∀ (n : Nat) (x58 : Int32) (x59 : Int32) (M60 : li_M), (8 - (x59 : Int32).toInt).toNat < n → li_fs (fun i k => i = 176 ∨ i = 177 ∨ i = 178 ∨ i = 182 ∨ i = 1000 ∨ (i = 175 ∧ k = 1) ∨ (i = 175 ∧ k = 10) ∨ (i = 175 ∧ k = 12) ∨ (i = 175 ∧ k = 13) ∨ (i = 175 ∧ k = 14) ∨ (i = 175 ∧ k = 15) ∨ (i = 175 ∧ k = 23) ∨ (i = 175 ∧ k = 48) ∨ (i = 175 ∧ k = 7)) M0 M60 → li_J M60 → 0 ≤ (x59 : Int32).toInt ∧ (M60.1 175 1).toInt + (x59 : Int32).toInt ≤ 7 ∧ (M60.1 175 1).toInt + (x59 : Int32).toInt ≤ 7 + (M60.1 175 15).toInt → li_T l Z YX12_people d 37 [(2, .int x58), (1, .int x59), (0, .ref (Z.2.2 175))] [] M60 (fun r M' => (∃ x : Int32, r = some (.int x)) ∧ li_fs (fun i k => i = 176 ∨ i = 177 ∨ i = 178 ∨ i = 182 ∨ i = 1000 ∨ (i = 175 ∧ k = 1) ∨ (i = 175 ∧ k = 10) ∨ (i = 175 ∧ k = 12) ∨ (i = 175 ∧ k = 13) ∨ (i = 175 ∧ k = 14) ∨ (i = 175 ∧ k = 15) ∨ (i = 175 ∧ k = 23) ∨ (i = 175 ∧ k = 48) ∨ (i = 175 ∧ k = 7)) M0 M' ∧ li_J M') := by
      intro n
      induction n with
      | zero => intro x58 x59 M60 hn; exact absurd hn (Nat.not_lt_zero _)
      | succ n ih37 =>
        intro x58 x59 M60 hn hf hJ hi
        have gx58 := tl_rg x58
        have gx59 := tl_rg x59
        have rM60_1 := J_sl1 (M := M60) hJ
        have rM60_15 := J_sl15 (M := M60) hJ
        refine li_iload_n 0 dX12_people_37 rfl ?_
        refine li_if_eq 117 dX12_people_38 (by decide) (fun c61 => ?_) (fun c61 => ?_)
        · have tc61 : x58.toInt = 0 := tl_eq c61
          refine li_pick [0, 1, 2] [(2, .int x58), (1, .int x59), (0, .ref (Z.2.2 175))] rfl ?_
          exact J117 x58 x59 M60 hf hJ (by omega)
        · have tc61 : ¬ x58.toInt = 0 := tl_ne c61
          refine li_aload_n 2 dX12_people_41 rfl ?_
          refine li_callV (n := 0) (As := []) dX12_people_42 (k_X12_fineW (d - 1) (by omega)  M60 hJ ) (by omega) (Nat.le_of_ble_eq_true rfl) w_1581 w_1583 w_43 w_112 w_1584 (by decide +kernel) rfl (by decide) sh_175 rfl rfl (Nat.le_of_ble_eq_true rfl) (fun r M63 h64 => ?_)
          obtain ⟨qx62, h64, jM63⟩ := h64
          have hf := li_fs_trans hf h64 (fun i k h => False.elim h)
          have hJ := jM63
          have rM63_1 := J_sl1 (M := M63) hJ
          have rM63_15 := J_sl15 (M := M63) hJ
          have mM63_1 : (M63.1 175 1).toInt = (M60.1 175 1).toInt := tl_slot (h64.1 175 1 id)
          have mM63_15 : (M63.1 175 15).toInt = (M60.1 175 15).toInt := tl_slot (h64.1 175 15 id)
          rcases qx62 with ⟨rfl, qx62⟩ | ⟨rfl, qx62⟩
          · skip
            refine li_if_eq 117 dX12_people_45 (by decide) (fun c => absurd c (by decide)) (fun c => ?_)
            refine li_aload_n 2 dX12_people_48 rfl ?_
            refine li_geti (k := 1) (N := 52) (T := TX12) (C0 := RX12) dX12_people_49 (by decide) sh_175 rfl rfl (by decide) li_in12 w_1405 ?_
            refine li_top (fun x66 ex66 => ?_)
            have gx66 : 0 ≤ x66.toInt ∧ x66.toInt ≤ 6 := by rw [ex66]; exact J_sl1 hJ
            have mx66 : x66.toInt = (M63.1 175 1).toInt := tl_slot ex66
            refine li_iload_n 1 dX12_people_52 rfl ?_
            refine li_iadd dX12_people_53 ?_
            refine li_top (fun x67 ex67 => ?_)
            try (have tx67 : x67.toInt = (x66 : Int32).toInt + (x59 : Int32).toInt := tl_add ex67 (by omega))
            refine li_bipush 6 dX12_people_54 (by decide) ?_
            have J104 : ∀  (M69 : li_M), li_fs (fun i k => i = 176 ∨ i = 177 ∨ i = 178 ∨ i = 182 ∨ i = 1000 ∨ (i = 175 ∧ k = 1) ∨ (i = 175 ∧ k = 10) ∨ (i = 175 ∧ k = 12) ∨ (i = 175 ∧ k = 13) ∨ (i = 175 ∧ k = 14) ∨ (i = 175 ∧ k = 15) ∨ (i = 175 ∧ k = 23) ∨ (i = 175 ∧ k = 48) ∨ (i = 175 ∧ k = 7)) M0 M69 → li_J M69 → (M69.1 175 1).toInt + (x59 : Int32).toInt ≤ 6 ∧ (M69.1 175 1).toInt + (x59 : Int32).toInt ≤ 6 + (M69.1 175 15).toInt → li_T l Z YX12_people d 104 [(2, .int x58), (1, .int x59), (0, .ref (Z.2.2 175))] [] M69 (fun r M' => (∃ x : Int32, r = some (.int x)) ∧ li_fs (fun i k => i = 176 ∨ i = 177 ∨ i = 178 ∨ i = 182 ∨ i = 1000 ∨ (i = 175 ∧ k = 1) ∨ (i = 175 ∧ k = 10) ∨ (i = 175 ∧ k = 12) ∨ (i = 175 ∧ k = 13) ∨ (i = 175 ∧ k = 14) ∨ (i = 175 ∧ k = 15) ∨ (i = 175 ∧ k = 23) ∨ (i = 175 ∧ k = 48) ∨ (i = 175 ∧ k = 7)) M0 M' ∧ li_J M') := by
              intro  M69 hf hJ hi
              have rM69_1 := J_sl1 (M := M69) hJ
              have rM69_15 := J_sl15 (M := M69) hJ
              obtain ⟨x70, ex70⟩ : ∃ y : Int32, y = x59 + 1 := ⟨_, rfl⟩
              have z1 : (1 : Int32).toInt = 1 := rfl
              try (have tx70 : x70.toInt = (x59 : Int32).toInt + (1 : Int32).toInt := tl_add ex70 (by omega))
              refine li_iinc 1 [(1, .int x70), (2, .int x58), (0, .ref (Z.2.2 175))] x70 dX12_people_104 rfl (by rw [ex70]; rfl) (by decide) rfl ?_
              refine li_aload_n 2 dX12_people_107 rfl ?_
              refine li_bipush 59 dX12_people_108 (by decide) ?_
              have z59 : (59 : Int32).toInt = 59 := rfl
              refine li_callV (n := 1) (As := [.int 59]) dX12_people_110 (k_X12_passesW (d - 1) (by omega) 59 M69 hJ (by omega)) (by omega) (Nat.le_of_ble_eq_true rfl) w_1605 w_1607 w_49 w_112 w_1608 (by decide +kernel) rfl (by decide) sh_175 rfl rfl (Nat.le_of_ble_eq_true rfl) (fun r M72 h73 => ?_)
              obtain ⟨qx71, h73, jM72⟩ := h73
              have hf := li_fs_trans hf h73 (fun i k => fun h => Or.inr (Or.inr (Or.inr (Or.inr (Or.inr (Or.inr (Or.inr (Or.inr (Or.inr (Or.inl h))))))))))
              have hJ := jM72
              have rM72_1 := J_sl1 (M := M72) hJ
              have rM72_15 := J_sl15 (M := M72) hJ
              have mM72_1 : (M72.1 175 1).toInt = (M69.1 175 1).toInt := tl_slot (h73.1 175 1 (show ¬ ((175 = 175 ∧ 1 = 14)) by decide))
              have mM72_15 : (M72.1 175 15).toInt = (M69.1 175 15).toInt := tl_slot (h73.1 175 15 (show ¬ ((175 = 175 ∧ 15 = 14)) by decide))
              rcases qx71 with ⟨rfl, qx71⟩ | ⟨rfl, qx71⟩
              · skip
                refine li_istore_n [(2, .int 1), (1, .int x70), (0, .ref (Z.2.2 175))] dX12_people_113 (by decide) rfl ?_
                refine li_goto 37 dX12_people_114 (by decide) ?_
                refine li_pick [0, 1, 2] [(2, .int 1), (1, .int x70), (0, .ref (Z.2.2 175))] rfl ?_
                have z1 : (1 : Int32).toInt = 1 := rfl
                exact ih37 1 x70 M72 (by omega) hf hJ (by omega)
              · skip
                refine li_istore_n [(2, .int 0), (1, .int x70), (0, .ref (Z.2.2 175))] dX12_people_113 (by decide) rfl ?_
                refine li_goto 37 dX12_people_114 (by decide) ?_
                refine li_pick [0, 1, 2] [(2, .int 0), (1, .int x70), (0, .ref (Z.2.2 175))] rfl ?_
                have z0 : (0 : Int32).toInt = 0 := rfl
                exact ih37 0 x70 M72 (by omega) hf hJ (by omega)
            refine li_icmp_ne 70 dX12_people_56 (by decide) (fun c68 => ?_) (fun c68 => ?_)
            · have tc68 : ¬ x67.toInt = 6 := tl_ne c68
              refine li_aload_n 2 dX12_people_70 rfl ?_
              refine li_getr (k := 16) (N := 52) (T := TX12) (C0 := RX12) dX12_people_71 (by decide) sh_175 rfl rfl (by decide) (by decide) li_in12 w_1420 ?_
              refine li_iconst 2 dX12_people_74 (by decide) ?_
              refine li_iload_n 1 dX12_people_75 rfl ?_
              refine li_imul dX12_people_76 ?_
              refine li_top (fun x74 ex74 => ?_)
              have z2 : (2 : Int32).toInt = 2 := rfl
              try (have tx74 : x74.toInt = 2 * (x59 : Int32).toInt := tl_mul ex74 (show -2147483648 ≤ 2 * (x59 : Int32).toInt ∧ 2 * (x59 : Int32).toInt ≤ 2147483647 by omega))
              refine li_aload_n 2 dX12_people_77 rfl ?_
              refine li_iconst 2 dX12_people_78 (by decide) ?_
              have z2 : (2 : Int32).toInt = 2 := rfl
              refine li_callV (n := 1) (As := [.int 2]) dX12_people_79 (k_X12_numberW (d - 1) (by omega) 2 M63 hJ ) (by omega) (Nat.le_of_ble_eq_true rfl) w_1589 w_1591 w_45 w_112 w_1592 (by decide +kernel) rfl (by decide) sh_175 rfl rfl (Nat.le_of_ble_eq_true rfl) (fun r M76 h77 => ?_)
              obtain ⟨⟨x75, rfl, qx75⟩, h77, jM76⟩ := h77
              have gx75 := tl_rg x75
              have hf := li_fs_trans hf h77 (fun i k => fun h => Or.elim h (fun h => Or.inr (Or.inr (Or.inr (Or.inr (Or.inr (Or.inr (Or.inr (Or.inr (Or.inr (Or.inl h)))))))))) (fun h => Or.inr (Or.inr (Or.inr (Or.inr (Or.inr (Or.inr (Or.inr (Or.inr (Or.inr (Or.inr (Or.inl h))))))))))))
              have hJ := jM76
              have rM76_1 := J_sl1 (M := M76) hJ
              have rM76_15 := J_sl15 (M := M76) hJ
              have mM76_1 : (M76.1 175 1).toInt = (M63.1 175 1).toInt := tl_slot (h77.1 175 1 (show ¬ ((175 = 175 ∧ 1 = 14) ∨ (175 = 175 ∧ 1 = 15)) by decide))
              refine li_iast dX12_people_82 (by decide) sh_182 (tl_in (by omega)) ?_
              refine li_nm (fun M78 eM78 => ?_)
              have hf := li_fs_ui hf (Or.inr (Or.inr (Or.inr (Or.inl rfl)))) eM78
              have hJ := hJ.st (by decide) (li_el_free (by unfold li_led; omega) (by decide) (by decide) (by unfold li_rq; omega)) eM78
              have rM78_1 := J_sl1 (M := M78) hJ
              have rM78_15 := J_sl15 (M := M78) hJ
              have mM78_1 : (M78.1 175 1).toInt = (M76.1 175 1).toInt := by rw [eM78, li_ui_at, if_neg (by decide)]
              have mM78_15 : (M78.1 175 15).toInt = (M76.1 175 15).toInt := by rw [eM78, li_ui_at, if_neg (by decide)]
              refine li_aload_n 2 dX12_people_83 rfl ?_
              refine li_bipush 58 dX12_people_84 (by decide) ?_
              have z58 : (58 : Int32).toInt = 58 := rfl
              refine li_callV (n := 1) (As := [.int 58]) dX12_people_86 (k_X12_needW (d - 1) (by omega) 58 M78 hJ (by omega)) (by omega) (Nat.le_of_ble_eq_true rfl) w_1601 w_1603 w_48 w_112 w_1604 (by decide +kernel) rfl (by decide) sh_175 rfl rfl (Nat.le_of_ble_eq_true rfl) (fun r M80 h81 => ?_)
              obtain ⟨rfl, h81, jM80, nM80⟩ := h81
              have hf := li_fs_trans hf h81 (fun i k => fun h => Or.elim h (fun h => Or.inr (Or.inr (Or.inr (Or.inr (Or.inr (Or.inr (Or.inr (Or.inr (Or.inr (Or.inl h)))))))))) (fun h => Or.inr (Or.inr (Or.inr (Or.inr (Or.inr (Or.inr (Or.inr (Or.inr (Or.inr (Or.inr (Or.inl h))))))))))))
              have hJ := jM80
              have rM80_1 := J_sl1 (M := M80) hJ
              have rM80_15 := J_sl15 (M := M80) hJ
              have mM80_1 : (M80.1 175 1).toInt = (M78.1 175 1).toInt := tl_slot (h81.1 175 1 (show ¬ ((175 = 175 ∧ 1 = 14) ∨ (175 = 175 ∧ 1 = 15)) by decide))
              refine li_aload_n 2 dX12_people_89 rfl ?_
              refine li_getr (k := 16) (N := 52) (T := TX12) (C0 := RX12) dX12_people_90 (by decide) sh_175 rfl rfl (by decide) (by decide) li_in12 w_1420 ?_
              refine li_iconst 2 dX12_people_93 (by decide) ?_
              refine li_iload_n 1 dX12_people_94 rfl ?_
              refine li_imul dX12_people_95 ?_
              refine li_top (fun x82 ex82 => ?_)
              have z2 : (2 : Int32).toInt = 2 := rfl
              try (have tx82 : x82.toInt = 2 * (x59 : Int32).toInt := tl_mul ex82 (show -2147483648 ≤ 2 * (x59 : Int32).toInt ∧ 2 * (x59 : Int32).toInt ≤ 2147483647 by omega))
              refine li_iconst 1 dX12_people_96 (by decide) ?_
              refine li_iadd dX12_people_97 ?_
              refine li_top (fun x83 ex83 => ?_)
              have z1 : (1 : Int32).toInt = 1 := rfl
              try (have tx83 : x83.toInt = (x82 : Int32).toInt + (1 : Int32).toInt := tl_add ex83 (by omega))
              refine li_aload_n 2 dX12_people_98 rfl ?_
              refine li_iconst 3 dX12_people_99 (by decide) ?_
              have z3 : (3 : Int32).toInt = 3 := rfl
              refine li_callV (n := 1) (As := [.int 3]) dX12_people_100 (k_X12_numberW (d - 1) (by omega) 3 M80 hJ ) (by omega) (Nat.le_of_ble_eq_true rfl) w_1589 w_1591 w_45 w_112 w_1592 (by decide +kernel) rfl (by decide) sh_175 rfl rfl (Nat.le_of_ble_eq_true rfl) (fun r M85 h86 => ?_)
              obtain ⟨⟨x84, rfl, qx84⟩, h86, jM85⟩ := h86
              have gx84 := tl_rg x84
              have hf := li_fs_trans hf h86 (fun i k => fun h => Or.elim h (fun h => Or.inr (Or.inr (Or.inr (Or.inr (Or.inr (Or.inr (Or.inr (Or.inr (Or.inr (Or.inl h)))))))))) (fun h => Or.inr (Or.inr (Or.inr (Or.inr (Or.inr (Or.inr (Or.inr (Or.inr (Or.inr (Or.inr (Or.inl h))))))))))))
              have hJ := jM85
              have rM85_1 := J_sl1 (M := M85) hJ
              have rM85_15 := J_sl15 (M := M85) hJ
              have mM85_1 : (M85.1 175 1).toInt = (M80.1 175 1).toInt := tl_slot (h86.1 175 1 (show ¬ ((175 = 175 ∧ 1 = 14) ∨ (175 = 175 ∧ 1 = 15)) by decide))
              refine li_iast dX12_people_103 (by decide) sh_182 (tl_in (by omega)) ?_
              refine li_nm (fun M87 eM87 => ?_)
              have hf := li_fs_ui hf (Or.inr (Or.inr (Or.inr (Or.inl rfl)))) eM87
              have hJ := hJ.st (by decide) (li_el_free (by unfold li_led; omega) (by decide) (by decide) (by unfold li_rq; omega)) eM87
              have rM87_1 := J_sl1 (M := M87) hJ
              have rM87_15 := J_sl15 (M := M87) hJ
              have mM87_1 : (M87.1 175 1).toInt = (M85.1 175 1).toInt := by rw [eM87, li_ui_at, if_neg (by decide)]
              have mM87_15 : (M87.1 175 15).toInt = (M85.1 175 15).toInt := by rw [eM87, li_ui_at, if_neg (by decide)]
              refine li_pick [0, 1, 2] [(2, .int x58), (1, .int x59), (0, .ref (Z.2.2 175))] rfl ?_
              exact J104  M87 hf hJ (by omega)
            · have tc68 : x67.toInt = 6 := tl_eq c68
              refine li_aload_n 2 dX12_people_59 rfl ?_
              refine li_aload_n 2 dX12_people_60 rfl ?_
              refine li_geti (k := 14) (N := 52) (T := TX12) (C0 := RX12) dX12_people_61 (by decide) sh_175 rfl rfl (by decide) li_in12 w_1418 ?_
              refine li_top (fun x88 ex88 => ?_)
              have gx88 : 0 ≤ x88.toInt ∧ x88.toInt ≤ 81 := by rw [ex88]; exact J_sl14 hJ
              have mx88 : x88.toInt = (M63.1 175 14).toInt := tl_slot ex88
              refine li_callV (n := 1) (As := [.int x88]) dX12_people_64 (k_X12_faultW (d - 1) (by omega) x88 M63 hJ (by omega)) (by omega) (Nat.le_of_ble_eq_true rfl) w_1585 w_1587 w_44 w_112 w_1588 (by decide +kernel) rfl (by decide) sh_175 rfl rfl (Nat.le_of_ble_eq_true rfl) (fun r M90 h91 => ?_)
              obtain ⟨rfl, h91, jM90, nM90⟩ := h91
              have hf := li_fs_trans hf h91 (fun i k => fun h => Or.inr (Or.inr (Or.inr (Or.inr (Or.inr (Or.inr (Or.inr (Or.inr (Or.inr (Or.inr (Or.inl h)))))))))))
              have hJ := jM90
              have rM90_1 := J_sl1 (M := M90) hJ
              have rM90_15 := J_sl15 (M := M90) hJ
              have mM90_1 : (M90.1 175 1).toInt = (M63.1 175 1).toInt := tl_slot (h91.1 175 1 (show ¬ ((175 = 175 ∧ 1 = 15)) by decide))
              refine li_goto 104 dX12_people_67 (by decide) ?_
              refine li_pick [0, 1, 2] [(2, .int x58), (1, .int x59), (0, .ref (Z.2.2 175))] rfl ?_
              exact J104  M90 hf hJ (by omega)
          · skip
            refine li_if_eq 117 dX12_people_45 (by decide) (fun c => ?_) (fun c => absurd rfl c)
            refine li_pick [0, 1, 2] [(2, .int x58), (1, .int x59), (0, .ref (Z.2.2 175))] rfl ?_
            exact J117 x58 x59 M63 hf hJ (by omega)
    have z1 : (1 : Int32).toInt = 1 := rfl
    have z0 : (0 : Int32).toInt = 0 := rfl
    exact L37 _ 1 0 M6 (Nat.lt_succ_self _) hf hJ (by omega)
  · have tc8 : x7.toInt = 0 := tl_eq c8
    refine li_iconst 0 dX12_people_31 (by decide) ?_
    have z0 : (0 : Int32).toInt = 0 := rfl
    exact li_iret dX12_people_32 rfl rfl ⟨⟨_, rfl⟩, hf, hJ⟩
