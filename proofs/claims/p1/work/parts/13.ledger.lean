theorem w_19 : (Jvm.Cond.selects "ClockForTalk$Ledger" ({ cls := "ClockForTalk$Ledger", name := "addTenths", desc := "()V" } : Jvm.MethodName) ({ cls := "ClockForTalk$Ledger", name := "addTenths", desc := "()V" } : Jvm.MethodName)) ∈ li_ws := li_mem 19 (by decide +kernel) (by decide +kernel)
theorem w_21 : (Jvm.Cond.selects "ClockForTalk$Ledger" ({ cls := "ClockForTalk$Ledger", name := "beginYear", desc := "(LClockForTalk$Town;)V" } : Jvm.MethodName) ({ cls := "ClockForTalk$Ledger", name := "beginYear", desc := "(LClockForTalk$Town;)V" } : Jvm.MethodName)) ∈ li_ws := li_mem 21 (by decide +kernel) (by decide +kernel)
theorem w_105 : (Jvm.Cond.initialized "ClockForTalk$Ledger") ∈ li_ws := li_mem 105 (by decide +kernel) (by decide +kernel)
theorem w_123 : (Jvm.Cond.initialized "java/lang/Integer") ∈ li_ws := li_mem 123 (by decide +kernel) (by decide +kernel)
theorem w_176 : (Jvm.Cond.fieldLink "ClockForTalk$Ledger" (53 : Nat) "ClockForTalk$Town" "persons" "I") ∈ li_ws := li_mem 176 (by decide +kernel) (by decide +kernel)
theorem w_186 : (Jvm.Cond.fieldLink "ClockForTalk$Ledger" (58 : Nat) "ClockForTalk$Town" "yearly" "[I") ∈ li_ws := li_mem 186 (by decide +kernel) (by decide +kernel)
theorem w_229 : (Jvm.Cond.fieldLink "ClockForTalk$Ledger" (34 : Nat) "ClockForTalk$Ledger" "day" "I") ∈ li_ws := li_mem 229 (by decide +kernel) (by decide +kernel)
theorem w_232 : (Jvm.Cond.fieldLink "ClockForTalk$Ledger" (38 : Nat) "ClockForTalk$Ledger" "said" "I") ∈ li_ws := li_mem 232 (by decide +kernel) (by decide +kernel)
theorem w_235 : (Jvm.Cond.fieldLink "ClockForTalk$Ledger" (41 : Nat) "ClockForTalk$Ledger" "loans" "I") ∈ li_ws := li_mem 235 (by decide +kernel) (by decide +kernel)
theorem w_237 : (Jvm.Cond.fieldLink "ClockForTalk$Ledger" (44 : Nat) "ClockForTalk$Ledger" "ended" "I") ∈ li_ws := li_mem 237 (by decide +kernel) (by decide +kernel)
theorem w_239 : (Jvm.Cond.fieldLink "ClockForTalk$Ledger" (9 : Nat) "ClockForTalk$Ledger" "clocks" "[I") ∈ li_ws := li_mem 239 (by decide +kernel) (by decide +kernel)
theorem w_244 : (Jvm.Cond.fieldLink "ClockForTalk$Ledger" (15 : Nat) "ClockForTalk$Ledger" "spent" "[I") ∈ li_ws := li_mem 244 (by decide +kernel) (by decide +kernel)
theorem w_246 : (Jvm.Cond.fieldLink "ClockForTalk$Ledger" (18 : Nat) "ClockForTalk$Ledger" "losses" "[J") ∈ li_ws := li_mem 246 (by decide +kernel) (by decide +kernel)
theorem w_248 : (Jvm.Cond.fieldLink "ClockForTalk$Ledger" (22 : Nat) "ClockForTalk$Ledger" "lenders" "[I") ∈ li_ws := li_mem 248 (by decide +kernel) (by decide +kernel)
theorem w_250 : (Jvm.Cond.fieldLink "ClockForTalk$Ledger" (25 : Nat) "ClockForTalk$Ledger" "debtors" "[I") ∈ li_ws := li_mem 250 (by decide +kernel) (by decide +kernel)
theorem w_252 : (Jvm.Cond.fieldLink "ClockForTalk$Ledger" (28 : Nat) "ClockForTalk$Ledger" "due" "[I") ∈ li_ws := li_mem 252 (by decide +kernel) (by decide +kernel)
theorem w_254 : (Jvm.Cond.fieldLink "ClockForTalk$Ledger" (31 : Nat) "ClockForTalk$Ledger" "owed" "[J") ∈ li_ws := li_mem 254 (by decide +kernel) (by decide +kernel)
theorem w_822 : (Jvm.Cond.static ({ cls := "java/lang/Integer", name := "bitCount", desc := "(I)I" } : Jvm.MethodName)) ∈ li_ws := li_mem 822 (by decide +kernel) (by decide +kernel)
theorem w_823 : (Jvm.Cond.code ({ cls := "java/lang/Integer", name := "bitCount", desc := "(I)I" } : Jvm.MethodName) prog_18_method_49_code (1 : Nat) (Option.some Jvm.ClassFile.FieldType.int)) ∈ li_ws := li_mem 823 (by decide +kernel) (by decide +kernel)
theorem w_857 : (Jvm.Cond.static ({ cls := "ClockForTalk", name := "holds", desc := "(II)Z" } : Jvm.MethodName)) ∈ li_ws := li_mem 857 (by decide +kernel) (by decide +kernel)
theorem w_858 : (Jvm.Cond.code ({ cls := "ClockForTalk", name := "holds", desc := "(II)Z" } : Jvm.MethodName) prog_1_method_63_code (2 : Nat) (Option.some Jvm.ClassFile.FieldType.boolean)) ∈ li_ws := li_mem 858 (by decide +kernel) (by decide +kernel)
theorem w_913 : (Jvm.Cond.methodLink "ClockForTalk$Ledger" (102 : Nat) ({ cls := "java/lang/Integer", name := "bitCount", desc := "(I)I" } : Jvm.MethodName)) ∈ li_ws := li_mem 913 (by decide +kernel) (by decide +kernel)
theorem w_919 : (Jvm.Cond.static ({ cls := "ClockForTalk", name := "wordAt", desc := "([JI)J" } : Jvm.MethodName)) ∈ li_ws := li_mem 919 (by decide +kernel) (by decide +kernel)
theorem w_920 : (Jvm.Cond.code ({ cls := "ClockForTalk", name := "wordAt", desc := "([JI)J" } : Jvm.MethodName) prog_1_method_59_code (2 : Nat) (Option.some Jvm.ClassFile.FieldType.long)) ∈ li_ws := li_mem 920 (by decide +kernel) (by decide +kernel)
theorem w_929 : (Jvm.Cond.methodLink "ClockForTalk$Ledger" (108 : Nat) ({ cls := "ClockForTalk$Ledger", name := "addTenths", desc := "()V" } : Jvm.MethodName)) ∈ li_ws := li_mem 929 (by decide +kernel) (by decide +kernel)
theorem w_931 : (Jvm.Cond.instanceMethod ({ cls := "ClockForTalk$Ledger", name := "addTenths", desc := "()V" } : Jvm.MethodName)) ∈ li_ws := li_mem 931 (by decide +kernel) (by decide +kernel)
theorem w_932 : (Jvm.Cond.code ({ cls := "ClockForTalk$Ledger", name := "addTenths", desc := "()V" } : Jvm.MethodName) prog_5_method_17_code (2 : Nat) (Option.none : Option Jvm.ClassFile.FieldType)) ∈ li_ws := li_mem 932 (by decide +kernel) (by decide +kernel)
theorem w_947 : (Jvm.Cond.methodLink "ClockForTalk$Ledger" (115 : Nat) ({ cls := "ClockForTalk$Ledger", name := "beginYear", desc := "(LClockForTalk$Town;)V" } : Jvm.MethodName)) ∈ li_ws := li_mem 947 (by decide +kernel) (by decide +kernel)
theorem w_949 : (Jvm.Cond.instanceMethod ({ cls := "ClockForTalk$Ledger", name := "beginYear", desc := "(LClockForTalk$Town;)V" } : Jvm.MethodName)) ∈ li_ws := li_mem 949 (by decide +kernel) (by decide +kernel)
theorem w_950 : (Jvm.Cond.code ({ cls := "ClockForTalk$Ledger", name := "beginYear", desc := "(LClockForTalk$Town;)V" } : Jvm.MethodName) prog_5_method_19_code (3 : Nat) (Option.none : Option Jvm.ClassFile.FieldType)) ∈ li_ws := li_mem 950 (by decide +kernel) (by decide +kernel)
theorem dX4_allClocks_0 : decode cX4_allClocks 0 = .ok (.iconst 0, 1) := by decide +kernel
theorem dX4_allClocks_1 : decode cX4_allClocks 1 = .ok (.istore_n 2, 1) := by decide +kernel
theorem dX4_allClocks_2 : decode cX4_allClocks 2 = .ok (.iconst 0, 1) := by decide +kernel
theorem dX4_allClocks_3 : decode cX4_allClocks 3 = .ok (.istore_n 3, 1) := by decide +kernel
theorem dX4_allClocks_4 : decode cX4_allClocks 4 = .ok (.iload_n 3, 1) := by decide +kernel
theorem dX4_allClocks_5 : decode cX4_allClocks 5 = .ok (.iload_n 1, 1) := by decide +kernel
theorem dX4_allClocks_6 : decode cX4_allClocks 6 = .ok (.if_icmp .ge 20, 3) := by decide +kernel
theorem dX4_allClocks_9 : decode cX4_allClocks 9 = .ok (.iload_n 2, 1) := by decide +kernel
theorem dX4_allClocks_10 : decode cX4_allClocks 10 = .ok (.aload_n 0, 1) := by decide +kernel
theorem dX4_allClocks_11 : decode cX4_allClocks 11 = .ok (.getfield 9, 3) := by decide +kernel
theorem dX4_allClocks_14 : decode cX4_allClocks 14 = .ok (.iload_n 3, 1) := by decide +kernel
theorem dX4_allClocks_15 : decode cX4_allClocks 15 = .ok (.invokestatic 61, 3) := by decide +kernel
theorem dX4_allClocks_18 : decode cX4_allClocks 18 = .ok (.iadd, 1) := by decide +kernel
theorem dX4_allClocks_19 : decode cX4_allClocks 19 = .ok (.istore_n 2, 1) := by decide +kernel
theorem dX4_allClocks_20 : decode cX4_allClocks 20 = .ok (.iinc 3 1, 3) := by decide +kernel
theorem dX4_allClocks_23 : decode cX4_allClocks 23 = .ok (.goto (-19), 3) := by decide +kernel
theorem dX4_allClocks_26 : decode cX4_allClocks 26 = .ok (.iload_n 2, 1) := by decide +kernel
theorem dX4_allClocks_27 : decode cX4_allClocks 27 = .ok (.ireturn, 1) := by decide +kernel
abbrev YX4_allClocks : li_Y := (yX4_allClocks, cX4_allClocks, 4, (some .int))
theorem dX4_endedLoans_0 : decode cX4_endedLoans 0 = .ok (.aload_n 0, 1) := by decide +kernel
theorem dX4_endedLoans_1 : decode cX4_endedLoans 1 = .ok (.getfield 44, 3) := by decide +kernel
theorem dX4_endedLoans_4 : decode cX4_endedLoans 4 = .ok (.invokestatic 102, 3) := by decide +kernel
theorem dX4_endedLoans_7 : decode cX4_endedLoans 7 = .ok (.ireturn, 1) := by decide +kernel
abbrev YX4_endedLoans : li_Y := (yX4_endedLoans, cX4_endedLoans, 1, (some .int))
theorem dX4_allLosses_0 : decode cX4_allLosses 0 = .ok (.lconst 0, 1) := by decide +kernel
theorem dX4_allLosses_1 : decode cX4_allLosses 1 = .ok (.lstore_n 1, 1) := by decide +kernel
theorem dX4_allLosses_2 : decode cX4_allLosses 2 = .ok (.iconst 0, 1) := by decide +kernel
theorem dX4_allLosses_3 : decode cX4_allLosses 3 = .ok (.istore_n 3, 1) := by decide +kernel
theorem dX4_allLosses_4 : decode cX4_allLosses 4 = .ok (.iload_n 3, 1) := by decide +kernel
theorem dX4_allLosses_5 : decode cX4_allLosses 5 = .ok (.bipush 6, 2) := by decide +kernel
theorem dX4_allLosses_7 : decode cX4_allLosses 7 = .ok (.if_icmp .ge 20, 3) := by decide +kernel
theorem dX4_allLosses_10 : decode cX4_allLosses 10 = .ok (.lload_n 1, 1) := by decide +kernel
theorem dX4_allLosses_11 : decode cX4_allLosses 11 = .ok (.aload_n 0, 1) := by decide +kernel
theorem dX4_allLosses_12 : decode cX4_allLosses 12 = .ok (.getfield 18, 3) := by decide +kernel
theorem dX4_allLosses_15 : decode cX4_allLosses 15 = .ok (.iload_n 3, 1) := by decide +kernel
theorem dX4_allLosses_16 : decode cX4_allLosses 16 = .ok (.invokestatic 94, 3) := by decide +kernel
theorem dX4_allLosses_19 : decode cX4_allLosses 19 = .ok (.ladd, 1) := by decide +kernel
theorem dX4_allLosses_20 : decode cX4_allLosses 20 = .ok (.lstore_n 1, 1) := by decide +kernel
theorem dX4_allLosses_21 : decode cX4_allLosses 21 = .ok (.iinc 3 1, 3) := by decide +kernel
theorem dX4_allLosses_24 : decode cX4_allLosses 24 = .ok (.goto (-20), 3) := by decide +kernel
theorem dX4_allLosses_27 : decode cX4_allLosses 27 = .ok (.lload_n 1, 1) := by decide +kernel
theorem dX4_allLosses_28 : decode cX4_allLosses 28 = .ok (.lreturn, 1) := by decide +kernel
abbrev YX4_allLosses : li_Y := (yX4_allLosses, cX4_allLosses, 4, (some .long))
theorem dX4_addTenths_0 : decode cX4_addTenths 0 = .ok (.iconst 0, 1) := by decide +kernel
theorem dX4_addTenths_1 : decode cX4_addTenths 1 = .ok (.istore_n 1, 1) := by decide +kernel
theorem dX4_addTenths_2 : decode cX4_addTenths 2 = .ok (.iload_n 1, 1) := by decide +kernel
theorem dX4_addTenths_3 : decode cX4_addTenths 3 = .ok (.aload_n 0, 1) := by decide +kernel
theorem dX4_addTenths_4 : decode cX4_addTenths 4 = .ok (.getfield 41, 3) := by decide +kernel
theorem dX4_addTenths_7 : decode cX4_addTenths 7 = .ok (.if_icmp .ge 46, 3) := by decide +kernel
theorem dX4_addTenths_53 : decode cX4_addTenths 53 = .ok (.return_, 1) := by decide +kernel
abbrev YX4_addTenths : li_Y := (yX4_addTenths, cX4_addTenths, 2, none)
theorem dX4_beginYear_0 : decode cX4_beginYear 0 = .ok (.aload_n 0, 1) := by decide +kernel
theorem dX4_beginYear_1 : decode cX4_beginYear 1 = .ok (.iconst 0, 1) := by decide +kernel
theorem dX4_beginYear_2 : decode cX4_beginYear 2 = .ok (.putfield 38, 3) := by decide +kernel
theorem dX4_beginYear_5 : decode cX4_beginYear 5 = .ok (.iconst 0, 1) := by decide +kernel
theorem dX4_beginYear_6 : decode cX4_beginYear 6 = .ok (.istore_n 2, 1) := by decide +kernel
theorem dX4_beginYear_7 : decode cX4_beginYear 7 = .ok (.iload_n 2, 1) := by decide +kernel
theorem dX4_beginYear_8 : decode cX4_beginYear 8 = .ok (.bipush 6, 2) := by decide +kernel
theorem dX4_beginYear_10 : decode cX4_beginYear 10 = .ok (.if_icmp .ge 46, 3) := by decide +kernel
theorem dX4_beginYear_13 : decode cX4_beginYear 13 = .ok (.aload_n 0, 1) := by decide +kernel
theorem dX4_beginYear_14 : decode cX4_beginYear 14 = .ok (.getfield 9, 3) := by decide +kernel
theorem dX4_beginYear_17 : decode cX4_beginYear 17 = .ok (.iload_n 2, 1) := by decide +kernel
theorem dX4_beginYear_18 : decode cX4_beginYear 18 = .ok (.iload_n 2, 1) := by decide +kernel
theorem dX4_beginYear_19 : decode cX4_beginYear 19 = .ok (.aload_n 1, 1) := by decide +kernel
theorem dX4_beginYear_20 : decode cX4_beginYear 20 = .ok (.getfield 53, 3) := by decide +kernel
theorem dX4_beginYear_23 : decode cX4_beginYear 23 = .ok (.if_icmp .ge 14, 3) := by decide +kernel
theorem dX4_beginYear_26 : decode cX4_beginYear 26 = .ok (.aload_n 1, 1) := by decide +kernel
theorem dX4_beginYear_27 : decode cX4_beginYear 27 = .ok (.getfield 58, 3) := by decide +kernel
theorem dX4_beginYear_30 : decode cX4_beginYear 30 = .ok (.iload_n 2, 1) := by decide +kernel
theorem dX4_beginYear_31 : decode cX4_beginYear 31 = .ok (.invokestatic 61, 3) := by decide +kernel
theorem dX4_beginYear_34 : decode cX4_beginYear 34 = .ok (.goto 4, 3) := by decide +kernel
theorem dX4_beginYear_37 : decode cX4_beginYear 37 = .ok (.iconst 0, 1) := by decide +kernel
theorem dX4_beginYear_38 : decode cX4_beginYear 38 = .ok (.invokestatic 65, 3) := by decide +kernel
theorem dX4_beginYear_41 : decode cX4_beginYear 41 = .ok (.aload_n 0, 1) := by decide +kernel
theorem dX4_beginYear_42 : decode cX4_beginYear 42 = .ok (.getfield 15, 3) := by decide +kernel
theorem dX4_beginYear_45 : decode cX4_beginYear 45 = .ok (.iload_n 2, 1) := by decide +kernel
theorem dX4_beginYear_46 : decode cX4_beginYear 46 = .ok (.iconst 0, 1) := by decide +kernel
theorem dX4_beginYear_47 : decode cX4_beginYear 47 = .ok (.invokestatic 65, 3) := by decide +kernel
theorem dX4_beginYear_50 : decode cX4_beginYear 50 = .ok (.iinc 2 1, 3) := by decide +kernel
theorem dX4_beginYear_53 : decode cX4_beginYear 53 = .ok (.goto (-46), 3) := by decide +kernel
theorem dX4_beginYear_56 : decode cX4_beginYear 56 = .ok (.return_, 1) := by decide +kernel
abbrev YX4_beginYear : li_Y := (yX4_beginYear, cX4_beginYear, 3, none)
theorem dX4_passDay_0 : decode cX4_passDay 0 = .ok (.aload_n 0, 1) := by decide +kernel
theorem dX4_passDay_1 : decode cX4_passDay 1 = .ok (.dup, 1) := by decide +kernel
theorem dX4_passDay_2 : decode cX4_passDay 2 = .ok (.getfield 34, 3) := by decide +kernel
theorem dX4_passDay_5 : decode cX4_passDay 5 = .ok (.iconst 1, 1) := by decide +kernel
theorem dX4_passDay_6 : decode cX4_passDay 6 = .ok (.iadd, 1) := by decide +kernel
theorem dX4_passDay_7 : decode cX4_passDay 7 = .ok (.putfield 34, 3) := by decide +kernel
theorem dX4_passDay_10 : decode cX4_passDay 10 = .ok (.aload_n 0, 1) := by decide +kernel
theorem dX4_passDay_11 : decode cX4_passDay 11 = .ok (.getfield 34, 3) := by decide +kernel
theorem dX4_passDay_14 : decode cX4_passDay 14 = .ok (.bipush 30, 2) := by decide +kernel
theorem dX4_passDay_16 : decode cX4_passDay 16 = .ok (.irem, 1) := by decide +kernel
theorem dX4_passDay_17 : decode cX4_passDay 17 = .ok (.ifCond .ne 7, 3) := by decide +kernel
theorem dX4_passDay_20 : decode cX4_passDay 20 = .ok (.aload_n 0, 1) := by decide +kernel
theorem dX4_passDay_21 : decode cX4_passDay 21 = .ok (.invokevirtual 108, 3) := by decide +kernel
theorem dX4_passDay_24 : decode cX4_passDay 24 = .ok (.iconst 0, 1) := by decide +kernel
theorem dX4_passDay_25 : decode cX4_passDay 25 = .ok (.istore_n 2, 1) := by decide +kernel
theorem dX4_passDay_26 : decode cX4_passDay 26 = .ok (.iload_n 2, 1) := by decide +kernel
theorem dX4_passDay_27 : decode cX4_passDay 27 = .ok (.aload_n 0, 1) := by decide +kernel
theorem dX4_passDay_28 : decode cX4_passDay 28 = .ok (.getfield 41, 3) := by decide +kernel
theorem dX4_passDay_31 : decode cX4_passDay 31 = .ok (.if_icmp .ge 37, 3) := by decide +kernel
theorem dX4_passDay_68 : decode cX4_passDay 68 = .ok (.aload_n 0, 1) := by decide +kernel
theorem dX4_passDay_69 : decode cX4_passDay 69 = .ok (.getfield 34, 3) := by decide +kernel
theorem dX4_passDay_72 : decode cX4_passDay 72 = .ok (.bipush 100, 2) := by decide +kernel
theorem dX4_passDay_74 : decode cX4_passDay 74 = .ok (.irem, 1) := by decide +kernel
theorem dX4_passDay_75 : decode cX4_passDay 75 = .ok (.ifCond .ne 8, 3) := by decide +kernel
theorem dX4_passDay_78 : decode cX4_passDay 78 = .ok (.aload_n 0, 1) := by decide +kernel
theorem dX4_passDay_79 : decode cX4_passDay 79 = .ok (.aload_n 1, 1) := by decide +kernel
theorem dX4_passDay_80 : decode cX4_passDay 80 = .ok (.invokevirtual 115, 3) := by decide +kernel
theorem dX4_passDay_83 : decode cX4_passDay 83 = .ok (.return_, 1) := by decide +kernel
abbrev YX4_passDay : li_Y := (yX4_passDay, cX4_passDay, 3, none)
set_option maxRecDepth 100000 in
set_option maxHeartbeats 4000000 in
theorem k_X4_endedLoans {l : Launch} {Z : li_Z} (d : Nat) (hd : 2 ≤ d) (M0 : li_M) : li_Met l Z YX4_endedLoans d [.ref (Z.2.2 13)] M0 (li_SI (fun i => False) M0) := by
  refine li_enter (by decide +kernel) (Nat.le_of_ble_eq_true rfl) ?_
  show li_T l Z YX4_endedLoans d 0 [(0, .ref (Z.2.2 13))] [] M0 _
  have hf : li_fr (fun i => False) M0 M0 := li_fr_refl
  refine li_aload_n 0 dX4_endedLoans_0 rfl ?_
  refine li_geti (k := 3) (N := 11) (T := TX4) (C0 := RX4) dX4_endedLoans_1 (by decide) sh_13 rfl rfl (by decide) li_in4 w_237 ?_
  refine li_top (fun x1 ex1 => ?_)
  refine li_callS (n := 1) (As := [.int x1]) dX4_endedLoans_4 (k_J6_bitCount_0f7a4 (d - 1) (by omega) x1 M0) (by omega) (Nat.le_of_ble_eq_true rfl) w_913 w_822 w_123 w_823 (by decide +kernel) rfl rfl (Nat.le_of_ble_eq_true rfl) (fun r M3 h4 => ?_)
  obtain ⟨⟨x2, rfl⟩, h4⟩ := h4
  have hf := li_fr_trans hf h4 (fun i h => False.elim h)
  exact li_iret dX4_endedLoans_7 rfl rfl ⟨⟨_, rfl⟩, hf⟩
set_option maxRecDepth 100000 in
set_option maxHeartbeats 4000000 in
theorem k_X4_allLosses {l : Launch} {Z : li_Z} (d : Nat) (hd : 2 ≤ d) (M0 : li_M) : li_Met l Z YX4_allLosses d [.ref (Z.2.2 13)] M0 (li_SL (fun i => False) M0) := by
  refine li_enter (by decide +kernel) (Nat.le_of_ble_eq_true rfl) ?_
  show li_T l Z YX4_allLosses d 0 [(0, .ref (Z.2.2 13))] [] M0 _
  have hf : li_fr (fun i => False) M0 M0 := li_fr_refl
  refine li_lconst 0 dX4_allLosses_0 (by decide) ?_
  refine li_lstore_n [(1, .long 0), (0, .ref (Z.2.2 13))] dX4_allLosses_1 (by decide) rfl ?_
  refine li_iconst 0 dX4_allLosses_2 (by decide) ?_
  refine li_istore_n [(3, .int 0), (1, .long 0), (0, .ref (Z.2.2 13))] dX4_allLosses_3 (by decide) rfl ?_
  have L4 : ∀ (n : Nat) (x1 : Int32) (x2 : Int64) (M3 : li_M), (2147483647 - (x1 : Int32).toInt).toNat < n → li_fr (fun i => False) M0 M3 → li_T l Z YX4_allLosses d 4 [(3, .int x1), (1, .long x2), (0, .ref (Z.2.2 13))] [] M3 (li_SL (fun i => False) M0) := by
    intro n
    induction n with
    | zero => intro x1 x2 M3 hn; exact absurd hn (Nat.not_lt_zero _)
    | succ n ih4 =>
      intro x1 x2 M3 hn hf
      refine li_iload_n 0 dX4_allLosses_4 rfl ?_
      refine li_bipush 6 dX4_allLosses_5 (by decide) ?_
      refine li_icmp_ge 27 dX4_allLosses_7 (by decide) (fun c4 => ?_) (fun c4 => ?_)
      · refine li_lload_n 1 dX4_allLosses_27 rfl ?_
        exact li_lret dX4_allLosses_28 rfl ⟨⟨_, rfl⟩, hf⟩
      · refine li_lload_n 1 dX4_allLosses_10 rfl ?_
        refine li_aload_n 2 dX4_allLosses_11 rfl ?_
        refine li_getr (k := 6) (N := 11) (T := TX4) (C0 := RX4) dX4_allLosses_12 (by decide) sh_13 rfl rfl (by decide) (by decide) li_in4 w_246 ?_
        refine li_iload_n 0 dX4_allLosses_15 rfl ?_
        refine li_callN (n := 2) (As := [.ref (Z.2.2 16), .int x1]) dX4_allLosses_16 (k_X11_wordAt (d - 1) (by omega) (by decide) sh_16 (by decide) x1 M3) (by omega) (Nat.le_of_ble_eq_true rfl) nw_21 w_919 w_101 w_920 (by decide +kernel) rfl rfl (Nat.le_of_ble_eq_true rfl) (fun r M6 h7 => ?_)
        obtain ⟨⟨x5, rfl⟩, h7⟩ := h7
        have hf := li_fr_trans hf h7 (fun i h => False.elim h)
        refine li_ladd dX4_allLosses_19 ?_
        refine li_topL (fun x8 ex8 => ?_)
        refine li_lstore_n [(1, .long x8), (3, .int x1), (0, .ref (Z.2.2 13))] dX4_allLosses_20 (by decide) rfl ?_
        obtain ⟨x9, ex9⟩ : ∃ y : Int32, y = x1 + 1 := ⟨_, rfl⟩
        refine li_iinc 1 [(3, .int x9), (1, .long x8), (0, .ref (Z.2.2 13))] x9 dX4_allLosses_21 rfl (by rw [ex9]; rfl) (by decide) rfl ?_
        refine li_goto 4 dX4_allLosses_24 (by decide) ?_
        refine li_pick [0, 1, 2] [(3, .int x9), (1, .long x8), (0, .ref (Z.2.2 13))] rfl ?_
        exact ih4 x9 x8 M6 (by have h9 := li_up (li_gt c4); rw [← ex9] at h9; omega) hf
  exact L4 _ 0 0 M0 (Nat.lt_succ_self _) hf
