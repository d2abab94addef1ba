theorem w_108 : (Jvm.Cond.initialized "ClockForTalk$Wordings") ∈ li_ws := li_mem 108 (by decide +kernel) (by decide +kernel)
theorem w_335 : (Jvm.Cond.fieldLink "ClockForTalk$Wordings" (11 : Nat) "ClockForTalk$Wordings" "grammar" "[I") ∈ li_ws := li_mem 335 (by decide +kernel) (by decide +kernel)
theorem w_336 : (Jvm.Cond.fieldLink "ClockForTalk$Wordings" (15 : Nat) "ClockForTalk$Wordings" "draft" "[I") ∈ li_ws := li_mem 336 (by decide +kernel) (by decide +kernel)
theorem w_337 : (Jvm.Cond.fieldLink "ClockForTalk$Wordings" (18 : Nat) "ClockForTalk$Wordings" "letters" "[I") ∈ li_ws := li_mem 337 (by decide +kernel) (by decide +kernel)
theorem w_338 : (Jvm.Cond.fieldLink "ClockForTalk$Wordings" (21 : Nat) "ClockForTalk$Wordings" "masks" "[I") ∈ li_ws := li_mem 338 (by decide +kernel) (by decide +kernel)
theorem w_339 : (Jvm.Cond.fieldLink "ClockForTalk$Wordings" (24 : Nat) "ClockForTalk$Wordings" "fewest" "[I") ∈ li_ws := li_mem 339 (by decide +kernel) (by decide +kernel)
theorem w_340 : (Jvm.Cond.fieldLink "ClockForTalk$Wordings" (27 : Nat) "ClockForTalk$Wordings" "rows" "[I") ∈ li_ws := li_mem 340 (by decide +kernel) (by decide +kernel)
theorem w_342 : (Jvm.Cond.fieldLink "ClockForTalk$Wordings" (30 : Nat) "ClockForTalk$Wordings" "trial" "[I") ∈ li_ws := li_mem 342 (by decide +kernel) (by decide +kernel)
theorem w_343 : (Jvm.Cond.fieldLink "ClockForTalk$Wordings" (53 : Nat) "ClockForTalk$Wordings" "lines" "I") ∈ li_ws := li_mem 343 (by decide +kernel) (by decide +kernel)
theorem w_545 : (Jvm.Cond.instanceMethod ({ cls := "ClockForTalk$Text", name := "atEnd", desc := "()Z" } : Jvm.MethodName)) ∈ li_ws := li_mem 545 (by decide +kernel) (by decide +kernel)
theorem w_546 : (Jvm.Cond.selects "ClockForTalk$Text" ({ cls := "ClockForTalk$Text", name := "atEnd", desc := "()Z" } : Jvm.MethodName) ({ cls := "ClockForTalk$Text", name := "atEnd", desc := "()Z" } : Jvm.MethodName)) ∈ li_ws := li_mem 546 (by decide +kernel) (by decide +kernel)
theorem w_547 : (Jvm.Cond.code ({ cls := "ClockForTalk$Text", name := "atEnd", desc := "()Z" } : Jvm.MethodName) prog_8_method_4_code (1 : Nat) (Option.some Jvm.ClassFile.FieldType.boolean)) ∈ li_ws := li_mem 547 (by decide +kernel) (by decide +kernel)
theorem w_657 : (Jvm.Cond.methodLink "ClockForTalk$Wordings" (57 : Nat) ({ cls := "ClockForTalk$Text", name := "atEnd", desc := "()Z" } : Jvm.MethodName)) ∈ li_ws := li_mem 657 (by decide +kernel) (by decide +kernel)
theorem w_1120 : (Jvm.Cond.methodLink "ClockForTalk$Wordings" (47 : Nat) ({ cls := "java/lang/System", name := "arraycopy", desc := "(Ljava/lang/Object;ILjava/lang/Object;II)V" } : Jvm.MethodName)) ∈ li_ws := li_mem 1120 (by decide +kernel) (by decide +kernel)
theorem dX10_adopt_0 : decode cX10_adopt 0 = .ok (.aload_n 0, 1) := by decide +kernel
theorem dX10_adopt_1 : decode cX10_adopt 1 = .ok (.getfield 15, 3) := by decide +kernel
theorem dX10_adopt_4 : decode cX10_adopt 4 = .ok (.iconst 0, 1) := by decide +kernel
theorem dX10_adopt_5 : decode cX10_adopt 5 = .ok (.aload_n 0, 1) := by decide +kernel
theorem dX10_adopt_6 : decode cX10_adopt 6 = .ok (.getfield 11, 3) := by decide +kernel
theorem dX10_adopt_9 : decode cX10_adopt 9 = .ok (.iconst 0, 1) := by decide +kernel
theorem dX10_adopt_10 : decode cX10_adopt 10 = .ok (.bipush 30, 2) := by decide +kernel
theorem dX10_adopt_12 : decode cX10_adopt 12 = .ok (.invokestatic 47, 3) := by decide +kernel
theorem dX10_adopt_15 : decode cX10_adopt 15 = .ok (.aload_n 0, 1) := by decide +kernel
theorem dX10_adopt_16 : decode cX10_adopt 16 = .ok (.iload_n 1, 1) := by decide +kernel
theorem dX10_adopt_17 : decode cX10_adopt 17 = .ok (.putfield 53, 3) := by decide +kernel
theorem dX10_adopt_20 : decode cX10_adopt 20 = .ok (.return_, 1) := by decide +kernel
abbrev YX10_adopt : li_Y := (yX10_adopt, cX10_adopt, 2, none)
theorem dX10_readWording_0 : decode cX10_readWording 0 = .ok (.iconst 0, 1) := by decide +kernel
theorem dX10_readWording_1 : decode cX10_readWording 1 = .ok (.istore_n 2, 1) := by decide +kernel
theorem dX10_readWording_2 : decode cX10_readWording 2 = .ok (.iconst 0, 1) := by decide +kernel
theorem dX10_readWording_3 : decode cX10_readWording 3 = .ok (.istore_n 3, 1) := by decide +kernel
theorem dX10_readWording_4 : decode cX10_readWording 4 = .ok (.iload_n 3, 1) := by decide +kernel
theorem dX10_readWording_5 : decode cX10_readWording 5 = .ok (.bipush 80, 2) := by decide +kernel
theorem dX10_readWording_7 : decode cX10_readWording 7 = .ok (.if_icmp .ge 46, 3) := by decide +kernel
theorem dX10_readWording_10 : decode cX10_readWording 10 = .ok (.aload_n 1, 1) := by decide +kernel
theorem dX10_readWording_11 : decode cX10_readWording 11 = .ok (.invokevirtual 57, 3) := by decide +kernel
theorem dX10_readWording_14 : decode cX10_readWording 14 = .ok (.ifCond .ne 39, 3) := by decide +kernel
theorem dX10_readWording_53 : decode cX10_readWording 53 = .ok (.iload_n 2, 1) := by decide +kernel
theorem dX10_readWording_54 : decode cX10_readWording 54 = .ok (.ifCond .le 7, 3) := by decide +kernel
theorem dX10_readWording_61 : decode cX10_readWording 61 = .ok (.iconst (-1), 1) := by decide +kernel
theorem dX10_readWording_62 : decode cX10_readWording 62 = .ok (.ireturn, 1) := by decide +kernel
abbrev YX10_readWording : li_Y := (yX10_readWording, cX10_readWording, 5, (some .int))
set_option maxRecDepth 100000 in
set_option maxHeartbeats 4000000 in
theorem k_X10_adopt {l : Launch} {Z : li_Z} (d : Nat) (hd : 1 ≤ d) (p1 : Int32) (M0 : li_M) : li_Met l Z YX10_adopt d [.ref (Z.2.2 163), .int p1] M0 (li_SV (fun i => i = 163 ∨ i = 164) M0) := by
  refine li_enter (by decide +kernel) (Nat.le_of_ble_eq_true rfl) ?_
  show li_T l Z YX10_adopt d 0 [(0, .ref (Z.2.2 163)), (1, .int p1)] [] M0 _
  have hf : li_fr (fun i => i = 163 ∨ i = 164) M0 M0 := li_fr_refl
  refine li_aload_n 0 dX10_adopt_0 rfl ?_
  refine li_getr (k := 1) (N := 8) (T := TX10) (C0 := RX10) dX10_adopt_1 (by decide) sh_163 rfl rfl (by decide) (by decide) li_in10 w_336 ?_
  refine li_iconst 0 dX10_adopt_4 (by decide) ?_
  refine li_aload_n 0 dX10_adopt_5 rfl ?_
  refine li_getr (k := 0) (N := 8) (T := TX10) (C0 := RX10) dX10_adopt_6 (by decide) sh_163 rfl rfl (by decide) (by decide) li_in10 w_335 ?_
  refine li_iconst 0 dX10_adopt_9 (by decide) ?_
  refine li_bipush 30 dX10_adopt_10 (by decide) ?_
  refine li_copyI dX10_adopt_12 (by omega) w_1120 w_753 w_752 w_118 (by decide) sh_165 (by decide) sh_164 (by decide) (by decide) (by decide) (Nat.le_of_ble_eq_true rfl) ?_
  refine li_nm (fun M1 eM1 => ?_)
  have hf := li_fr_uc hf (show 164 = 163 ∨ 164 = 164 by omega) eM1
  refine li_aload_n 0 dX10_adopt_15 rfl ?_
  refine li_iload_n 1 dX10_adopt_16 rfl ?_
  refine li_puti (k := 7) (N := 8) (T := TX10) (C0 := RX10) dX10_adopt_17 (by decide) sh_163 rfl rfl (by decide) li_in10 tyX10_ok nmX10 rfl rfl rfl rfl w_343 ?_
  refine li_nm (fun M2 eM2 => ?_)
  have hf := li_fr_ui hf (show 163 = 163 ∨ 163 = 164 by omega) eM2
  exact li_vret dX10_adopt_20 rfl ⟨rfl, hf⟩
