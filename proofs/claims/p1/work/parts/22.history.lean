theorem w_289 : (Jvm.Cond.fieldLink "ClockForTalk$History" (11 : Nat) "ClockForTalk$History" "ring" "[LClockForTalk$Ledger;") ∈ li_ws := li_mem 289 (by decide +kernel) (by decide +kernel)
theorem w_290 : (Jvm.Cond.fieldLink "ClockForTalk$History" (15 : Nat) "ClockForTalk$History" "kept" "[LClockForTalk$Ledger;") ∈ li_ws := li_mem 290 (by decide +kernel) (by decide +kernel)
theorem w_291 : (Jvm.Cond.fieldLink "ClockForTalk$History" (19 : Nat) "ClockForTalk$History" "ahead" "LClockForTalk$Ledger;") ∈ li_ws := li_mem 291 (by decide +kernel) (by decide +kernel)
theorem w_292 : (Jvm.Cond.fieldLink "ClockForTalk$History" (27 : Nat) "ClockForTalk$History" "keptBits" "I") ∈ li_ws := li_mem 292 (by decide +kernel) (by decide +kernel)
theorem w_293 : (Jvm.Cond.fieldLink "ClockForTalk$History" (23 : Nat) "ClockForTalk$History" "held" "I") ∈ li_ws := li_mem 293 (by decide +kernel) (by decide +kernel)
theorem w_295 : (Jvm.Cond.fieldLink "ClockForTalk$History" (34 : Nat) "ClockForTalk$History" "next" "I") ∈ li_ws := li_mem 295 (by decide +kernel) (by decide +kernel)
theorem w_847 : (Jvm.Cond.methodLink "ClockForTalk$History" (30 : Nat) ({ cls := "ClockForTalk$Ledger", name := "copyFrom", desc := "(LClockForTalk$Ledger;)V" } : Jvm.MethodName)) ∈ li_ws := li_mem 847 (by decide +kernel) (by decide +kernel)
theorem w_848 : (Jvm.Cond.instanceMethod ({ cls := "ClockForTalk$Ledger", name := "copyFrom", desc := "(LClockForTalk$Ledger;)V" } : Jvm.MethodName)) ∈ li_ws := li_mem 848 (by decide +kernel) (by decide +kernel)
theorem w_849 : (Jvm.Cond.selects "ClockForTalk$Ledger" ({ cls := "ClockForTalk$Ledger", name := "copyFrom", desc := "(LClockForTalk$Ledger;)V" } : Jvm.MethodName) ({ cls := "ClockForTalk$Ledger", name := "copyFrom", desc := "(LClockForTalk$Ledger;)V" } : Jvm.MethodName)) ∈ li_ws := li_mem 849 (by decide +kernel) (by decide +kernel)
theorem w_850 : (Jvm.Cond.code ({ cls := "ClockForTalk$Ledger", name := "copyFrom", desc := "(LClockForTalk$Ledger;)V" } : Jvm.MethodName) prog_5_method_2_code (2 : Nat) (Option.none : Option Jvm.ClassFile.FieldType)) ∈ li_ws := li_mem 850 (by decide +kernel) (by decide +kernel)
theorem w_875 : (Jvm.Cond.methodLink "ClockForTalk$History" (37 : Nat) ({ cls := "java/lang/Math", name := "min", desc := "(II)I" } : Jvm.MethodName)) ∈ li_ws := li_mem 875 (by decide +kernel) (by decide +kernel)
theorem dX3_note_0 : decode cX3_note 0 = .ok (.aload_n 0, 1) := by decide +kernel
theorem dX3_note_1 : decode cX3_note 1 = .ok (.getfield 19, 3) := by decide +kernel
theorem dX3_note_4 : decode cX3_note 4 = .ok (.aload_n 1, 1) := by decide +kernel
theorem dX3_note_5 : decode cX3_note 5 = .ok (.invokevirtual 30, 3) := by decide +kernel
theorem dX3_note_8 : decode cX3_note 8 = .ok (.return_, 1) := by decide +kernel
abbrev YX3_note : li_Y := (yX3_note, cX3_note, 2, none)
theorem dX3_recall_0 : decode cX3_recall 0 = .ok (.aload_n 1, 1) := by decide +kernel
theorem dX3_recall_1 : decode cX3_recall 1 = .ok (.aload_n 0, 1) := by decide +kernel
theorem dX3_recall_2 : decode cX3_recall 2 = .ok (.getfield 19, 3) := by decide +kernel
theorem dX3_recall_5 : decode cX3_recall 5 = .ok (.invokevirtual 30, 3) := by decide +kernel
theorem dX3_recall_8 : decode cX3_recall 8 = .ok (.return_, 1) := by decide +kernel
abbrev YX3_recall : li_Y := (yX3_recall, cX3_recall, 2, none)
theorem dX3_hold_0 : decode cX3_hold 0 = .ok (.aload_n 0, 1) := by decide +kernel
theorem dX3_hold_1 : decode cX3_hold 1 = .ok (.getfield 34, 3) := by decide +kernel
theorem dX3_hold_4 : decode cX3_hold 4 = .ok (.ifCond .lt 43, 3) := by decide +kernel
theorem dX3_hold_7 : decode cX3_hold 7 = .ok (.aload_n 0, 1) := by decide +kernel
theorem dX3_hold_8 : decode cX3_hold 8 = .ok (.getfield 34, 3) := by decide +kernel
theorem dX3_hold_11 : decode cX3_hold 11 = .ok (.aload_n 0, 1) := by decide +kernel
theorem dX3_hold_12 : decode cX3_hold 12 = .ok (.getfield 11, 3) := by decide +kernel
theorem dX3_hold_15 : decode cX3_hold 15 = .ok (.arraylength, 1) := by decide +kernel
theorem dX3_hold_16 : decode cX3_hold 16 = .ok (.if_icmp .ge 31, 3) := by decide +kernel
theorem dX3_hold_19 : decode cX3_hold 19 = .ok (.aload_n 0, 1) := by decide +kernel
theorem dX3_hold_20 : decode cX3_hold 20 = .ok (.getfield 11, 3) := by decide +kernel
theorem dX3_hold_23 : decode cX3_hold 23 = .ok (.aload_n 0, 1) := by decide +kernel
theorem dX3_hold_24 : decode cX3_hold 24 = .ok (.getfield 34, 3) := by decide +kernel
theorem dX3_hold_27 : decode cX3_hold 27 = .ok (.aaload, 1) := by decide +kernel
theorem dX3_hold_28 : decode cX3_hold 28 = .ok (.ifnull 19, 3) := by decide +kernel
theorem dX3_hold_31 : decode cX3_hold 31 = .ok (.aload_n 0, 1) := by decide +kernel
theorem dX3_hold_32 : decode cX3_hold 32 = .ok (.getfield 11, 3) := by decide +kernel
theorem dX3_hold_35 : decode cX3_hold 35 = .ok (.aload_n 0, 1) := by decide +kernel
theorem dX3_hold_36 : decode cX3_hold 36 = .ok (.getfield 34, 3) := by decide +kernel
theorem dX3_hold_39 : decode cX3_hold 39 = .ok (.aaload, 1) := by decide +kernel
theorem dX3_hold_40 : decode cX3_hold 40 = .ok (.aload_n 0, 1) := by decide +kernel
theorem dX3_hold_41 : decode cX3_hold 41 = .ok (.getfield 19, 3) := by decide +kernel
theorem dX3_hold_44 : decode cX3_hold 44 = .ok (.invokevirtual 30, 3) := by decide +kernel
theorem dX3_hold_47 : decode cX3_hold 47 = .ok (.aload_n 0, 1) := by decide +kernel
theorem dX3_hold_48 : decode cX3_hold 48 = .ok (.aload_n 0, 1) := by decide +kernel
theorem dX3_hold_49 : decode cX3_hold 49 = .ok (.getfield 34, 3) := by decide +kernel
theorem dX3_hold_52 : decode cX3_hold 52 = .ok (.iconst 1, 1) := by decide +kernel
theorem dX3_hold_53 : decode cX3_hold 53 = .ok (.iadd, 1) := by decide +kernel
theorem dX3_hold_54 : decode cX3_hold 54 = .ok (.bipush 12, 2) := by decide +kernel
theorem dX3_hold_56 : decode cX3_hold 56 = .ok (.if_icmp .ge 12, 3) := by decide +kernel
theorem dX3_hold_59 : decode cX3_hold 59 = .ok (.aload_n 0, 1) := by decide +kernel
theorem dX3_hold_60 : decode cX3_hold 60 = .ok (.getfield 34, 3) := by decide +kernel
theorem dX3_hold_63 : decode cX3_hold 63 = .ok (.iconst 1, 1) := by decide +kernel
theorem dX3_hold_64 : decode cX3_hold 64 = .ok (.iadd, 1) := by decide +kernel
theorem dX3_hold_65 : decode cX3_hold 65 = .ok (.goto 4, 3) := by decide +kernel
theorem dX3_hold_68 : decode cX3_hold 68 = .ok (.iconst 0, 1) := by decide +kernel
theorem dX3_hold_69 : decode cX3_hold 69 = .ok (.putfield 34, 3) := by decide +kernel
theorem dX3_hold_72 : decode cX3_hold 72 = .ok (.aload_n 0, 1) := by decide +kernel
theorem dX3_hold_73 : decode cX3_hold 73 = .ok (.aload_n 0, 1) := by decide +kernel
theorem dX3_hold_74 : decode cX3_hold 74 = .ok (.getfield 23, 3) := by decide +kernel
theorem dX3_hold_77 : decode cX3_hold 77 = .ok (.iconst 1, 1) := by decide +kernel
theorem dX3_hold_78 : decode cX3_hold 78 = .ok (.iadd, 1) := by decide +kernel
theorem dX3_hold_79 : decode cX3_hold 79 = .ok (.bipush 12, 2) := by decide +kernel
theorem dX3_hold_81 : decode cX3_hold 81 = .ok (.invokestatic 37, 3) := by decide +kernel
theorem dX3_hold_84 : decode cX3_hold 84 = .ok (.putfield 23, 3) := by decide +kernel
theorem dX3_hold_87 : decode cX3_hold 87 = .ok (.return_, 1) := by decide +kernel
abbrev YX3_hold : li_Y := (yX3_hold, cX3_hold, 1, none)
theorem dX3_keepUnder_0 : decode cX3_keepUnder 0 = .ok (.iload_n 1, 1) := by decide +kernel
theorem dX3_keepUnder_1 : decode cX3_keepUnder 1 = .ok (.ifCond .lt 21, 3) := by decide +kernel
theorem dX3_keepUnder_4 : decode cX3_keepUnder 4 = .ok (.iload_n 1, 1) := by decide +kernel
theorem dX3_keepUnder_5 : decode cX3_keepUnder 5 = .ok (.aload_n 0, 1) := by decide +kernel
theorem dX3_keepUnder_6 : decode cX3_keepUnder 6 = .ok (.getfield 15, 3) := by decide +kernel
theorem dX3_keepUnder_9 : decode cX3_keepUnder 9 = .ok (.arraylength, 1) := by decide +kernel
theorem dX3_keepUnder_10 : decode cX3_keepUnder 10 = .ok (.if_icmp .ge 12, 3) := by decide +kernel
theorem dX3_keepUnder_13 : decode cX3_keepUnder 13 = .ok (.aload_n 0, 1) := by decide +kernel
theorem dX3_keepUnder_14 : decode cX3_keepUnder 14 = .ok (.getfield 15, 3) := by decide +kernel
theorem dX3_keepUnder_17 : decode cX3_keepUnder 17 = .ok (.iload_n 1, 1) := by decide +kernel
theorem dX3_keepUnder_18 : decode cX3_keepUnder 18 = .ok (.aaload, 1) := by decide +kernel
theorem dX3_keepUnder_19 : decode cX3_keepUnder 19 = .ok (.ifnonnull 5, 3) := by decide +kernel
theorem dX3_keepUnder_22 : decode cX3_keepUnder 22 = .ok (.iconst 0, 1) := by decide +kernel
theorem dX3_keepUnder_23 : decode cX3_keepUnder 23 = .ok (.ireturn, 1) := by decide +kernel
theorem dX3_keepUnder_24 : decode cX3_keepUnder 24 = .ok (.aload_n 0, 1) := by decide +kernel
theorem dX3_keepUnder_25 : decode cX3_keepUnder 25 = .ok (.getfield 15, 3) := by decide +kernel
theorem dX3_keepUnder_28 : decode cX3_keepUnder 28 = .ok (.iload_n 1, 1) := by decide +kernel
theorem dX3_keepUnder_29 : decode cX3_keepUnder 29 = .ok (.aaload, 1) := by decide +kernel
theorem dX3_keepUnder_30 : decode cX3_keepUnder 30 = .ok (.aload_n 2, 1) := by decide +kernel
theorem dX3_keepUnder_31 : decode cX3_keepUnder 31 = .ok (.invokevirtual 30, 3) := by decide +kernel
theorem dX3_keepUnder_34 : decode cX3_keepUnder 34 = .ok (.aload_n 0, 1) := by decide +kernel
theorem dX3_keepUnder_35 : decode cX3_keepUnder 35 = .ok (.dup, 1) := by decide +kernel
theorem dX3_keepUnder_36 : decode cX3_keepUnder 36 = .ok (.getfield 27, 3) := by decide +kernel
theorem dX3_keepUnder_39 : decode cX3_keepUnder 39 = .ok (.iconst 1, 1) := by decide +kernel
theorem dX3_keepUnder_40 : decode cX3_keepUnder 40 = .ok (.iload_n 1, 1) := by decide +kernel
theorem dX3_keepUnder_41 : decode cX3_keepUnder 41 = .ok (.ishl, 1) := by decide +kernel
theorem dX3_keepUnder_42 : decode cX3_keepUnder 42 = .ok (.ior, 1) := by decide +kernel
theorem dX3_keepUnder_43 : decode cX3_keepUnder 43 = .ok (.putfield 27, 3) := by decide +kernel
theorem dX3_keepUnder_46 : decode cX3_keepUnder 46 = .ok (.iconst 1, 1) := by decide +kernel
theorem dX3_keepUnder_47 : decode cX3_keepUnder 47 = .ok (.ireturn, 1) := by decide +kernel
abbrev YX3_keepUnder : li_Y := (yX3_keepUnder, cX3_keepUnder, 3, (some .boolean))
theorem dX3_bringBack_0 : decode cX3_bringBack 0 = .ok (.iload_n 1, 1) := by decide +kernel
theorem dX3_bringBack_1 : decode cX3_bringBack 1 = .ok (.ifCond .lt 23, 3) := by decide +kernel
theorem dX3_bringBack_4 : decode cX3_bringBack 4 = .ok (.iload_n 1, 1) := by decide +kernel
theorem dX3_bringBack_5 : decode cX3_bringBack 5 = .ok (.aload_n 0, 1) := by decide +kernel
theorem dX3_bringBack_6 : decode cX3_bringBack 6 = .ok (.getfield 15, 3) := by decide +kernel
theorem dX3_bringBack_9 : decode cX3_bringBack 9 = .ok (.arraylength, 1) := by decide +kernel
theorem dX3_bringBack_10 : decode cX3_bringBack 10 = .ok (.if_icmp .ge 14, 3) := by decide +kernel
theorem dX3_bringBack_13 : decode cX3_bringBack 13 = .ok (.aload_n 0, 1) := by decide +kernel
theorem dX3_bringBack_14 : decode cX3_bringBack 14 = .ok (.getfield 27, 3) := by decide +kernel
theorem dX3_bringBack_17 : decode cX3_bringBack 17 = .ok (.iload_n 1, 1) := by decide +kernel
theorem dX3_bringBack_18 : decode cX3_bringBack 18 = .ok (.invokestatic 43, 3) := by decide +kernel
theorem dX3_bringBack_21 : decode cX3_bringBack 21 = .ok (.ifCond .ne 5, 3) := by decide +kernel
theorem dX3_bringBack_24 : decode cX3_bringBack 24 = .ok (.iconst 0, 1) := by decide +kernel
theorem dX3_bringBack_25 : decode cX3_bringBack 25 = .ok (.ireturn, 1) := by decide +kernel
abbrev YX3_bringBack : li_Y := (yX3_bringBack, cX3_bringBack, 3, (some .boolean))
theorem dX3_stepBack_0 : decode cX3_stepBack 0 = .ok (.aload_n 0, 1) := by decide +kernel
theorem dX3_stepBack_1 : decode cX3_stepBack 1 = .ok (.getfield 23, 3) := by decide +kernel
theorem dX3_stepBack_4 : decode cX3_stepBack 4 = .ok (.ifCond .ne 5, 3) := by decide +kernel
theorem dX3_stepBack_7 : decode cX3_stepBack 7 = .ok (.iconst 0, 1) := by decide +kernel
theorem dX3_stepBack_8 : decode cX3_stepBack 8 = .ok (.ireturn, 1) := by decide +kernel
abbrev YX3_stepBack : li_Y := (yX3_stepBack, cX3_stepBack, 2, (some .boolean))
set_option maxRecDepth 100000 in
set_option maxHeartbeats 4000000 in
theorem k_X3_note {l : Launch} {Z : li_Z} (d : Nat) (hd : 2 ≤ d) (M0 : li_M) : li_Met l Z YX3_note d [.ref (Z.2.2 21), .ref (Z.2.2 13)] M0 (li_SV (fun i => i = 24 ∨ i = 25 ∨ i = 26 ∨ i = 27 ∨ i = 28 ∨ i = 29 ∨ i = 30 ∨ i = 31) M0) := by
  refine li_enter (by decide +kernel) (Nat.le_of_ble_eq_true rfl) ?_
  show li_T l Z YX3_note d 0 [(0, .ref (Z.2.2 21)), (1, .ref (Z.2.2 13))] [] M0 _
  have hf : li_fr (fun i => i = 24 ∨ i = 25 ∨ i = 26 ∨ i = 27 ∨ i = 28 ∨ i = 29 ∨ i = 30 ∨ i = 31) M0 M0 := li_fr_refl
  refine li_aload_n 0 dX3_note_0 rfl ?_
  refine li_getr (k := 2) (N := 6) (T := TX3) (C0 := RX3) dX3_note_1 (by decide) sh_21 rfl rfl (by decide) (by decide) li_in3 w_291 ?_
  refine li_aload_n 1 dX3_note_4 rfl ?_
  refine li_callV (n := 1) (As := [.ref (Z.2.2 13)]) dX3_note_5 (k_X4_copyFrom (d - 1) (by omega) lgb_24 lgb_13 M0) (by omega) (Nat.le_of_ble_eq_true rfl) w_847 w_848 w_849 w_105 w_850 (by decide +kernel) rfl (by decide) sh_24 rfl rfl (Nat.le_of_ble_eq_true rfl) (fun r M2 h3 => ?_)
  obtain ⟨rfl, h3⟩ := h3
  have hf := li_fr_trans hf h3 (fun i (h : i = 24 ∨ i = 25 ∨ i = 26 ∨ i = 27 ∨ i = 28 ∨ i = 29 ∨ i = 30 ∨ i = 31) => (show i = 24 ∨ i = 25 ∨ i = 26 ∨ i = 27 ∨ i = 28 ∨ i = 29 ∨ i = 30 ∨ i = 31 by omega))
  exact li_vret dX3_note_8 rfl ⟨rfl, hf⟩
set_option maxRecDepth 100000 in
set_option maxHeartbeats 4000000 in
theorem k_X3_recall {l : Launch} {Z : li_Z} (d : Nat) (hd : 2 ≤ d) (M0 : li_M) : li_Met l Z YX3_recall d [.ref (Z.2.2 21), .ref (Z.2.2 13)] M0 (li_SV (fun i => i = 13 ∨ i = 14 ∨ i = 15 ∨ i = 16 ∨ i = 17 ∨ i = 18 ∨ i = 19 ∨ i = 20) M0) := by
  refine li_enter (by decide +kernel) (Nat.le_of_ble_eq_true rfl) ?_
  show li_T l Z YX3_recall d 0 [(0, .ref (Z.2.2 21)), (1, .ref (Z.2.2 13))] [] M0 _
  have hf : li_fr (fun i => i = 13 ∨ i = 14 ∨ i = 15 ∨ i = 16 ∨ i = 17 ∨ i = 18 ∨ i = 19 ∨ i = 20) M0 M0 := li_fr_refl
  refine li_aload_n 1 dX3_recall_0 rfl ?_
  refine li_aload_n 0 dX3_recall_1 rfl ?_
  refine li_getr (k := 2) (N := 6) (T := TX3) (C0 := RX3) dX3_recall_2 (by decide) sh_21 rfl rfl (by decide) (by decide) li_in3 w_291 ?_
  refine li_callV (n := 1) (As := [.ref (Z.2.2 24)]) dX3_recall_5 (k_X4_copyFrom (d - 1) (by omega) lgb_13 lgb_24 M0) (by omega) (Nat.le_of_ble_eq_true rfl) w_847 w_848 w_849 w_105 w_850 (by decide +kernel) rfl (by decide) sh_13 rfl rfl (Nat.le_of_ble_eq_true rfl) (fun r M2 h3 => ?_)
  obtain ⟨rfl, h3⟩ := h3
  have hf := li_fr_trans hf h3 (fun i (h : i = 13 ∨ i = 14 ∨ i = 15 ∨ i = 16 ∨ i = 17 ∨ i = 18 ∨ i = 19 ∨ i = 20) => (show i = 13 ∨ i = 14 ∨ i = 15 ∨ i = 16 ∨ i = 17 ∨ i = 18 ∨ i = 19 ∨ i = 20 by omega))
  exact li_vret dX3_recall_8 rfl ⟨rfl, hf⟩
set_option maxRecDepth 100000 in
set_option maxHeartbeats 4000000 in
theorem k_X3_hold {l : Launch} {Z : li_Z} (d : Nat) (hd : 2 ≤ d) (M0 : li_M) : li_Met l Z YX3_hold d [.ref (Z.2.2 21)] M0 (li_SV (fun i => i = 21 ∨ (32 ≤ i ∧ i < 128)) M0) := by
  refine li_enter (by decide +kernel) (Nat.le_of_ble_eq_true rfl) ?_
  show li_T l Z YX3_hold d 0 [(0, .ref (Z.2.2 21))] [] M0 _
  have hf : li_fr (fun i => i = 21 ∨ (32 ≤ i ∧ i < 128)) M0 M0 := li_fr_refl
  refine li_aload_n 0 dX3_hold_0 rfl ?_
  refine li_geti (k := 5) (N := 6) (T := TX3) (C0 := RX3) dX3_hold_1 (by decide) sh_21 rfl rfl (by decide) li_in3 w_295 ?_
  refine li_top (fun x1 ex1 => ?_)
  have gx1 := tl_rg x1
  have J47 : ∀  (M3 : li_M), li_fr (fun i => i = 21 ∨ (32 ≤ i ∧ i < 128)) M0 M3 → li_T l Z YX3_hold d 47 [(0, .ref (Z.2.2 21))] [] M3 (li_SV (fun i => i = 21 ∨ (32 ≤ i ∧ i < 128)) M0) := by
    intro  M3 hf
    refine li_aload_n 0 dX3_hold_47 rfl ?_
    refine li_aload_n 0 dX3_hold_48 rfl ?_
    refine li_geti (k := 5) (N := 6) (T := TX3) (C0 := RX3) dX3_hold_49 (by decide) sh_21 rfl rfl (by decide) li_in3 w_295 ?_
    refine li_top (fun x4 ex4 => ?_)
    have gx4 := tl_rg x4
    refine li_iconst 1 dX3_hold_52 (by decide) ?_
    refine li_iadd dX3_hold_53 ?_
    refine li_top (fun x5 ex5 => ?_)
    have tx5 : (-2147483648 ≤ x4.toInt + 1 ∧ x4.toInt + 1 ≤ 2147483647) → x5.toInt = x4.toInt + 1 := tl_add ex5
    refine li_bipush 12 dX3_hold_54 (by decide) ?_
    have J69 : ∀ (x7 : Int32) (M8 : li_M), li_fr (fun i => i = 21 ∨ (32 ≤ i ∧ i < 128)) M0 M8 → li_T l Z YX3_hold d 69 [(0, .ref (Z.2.2 21))] [.int x7, .ref (Z.2.2 21)] M8 (li_SV (fun i => i = 21 ∨ (32 ≤ i ∧ i < 128)) M0) := by
      intro x7 M8 hf
      have gx7 := tl_rg x7
      refine li_puti (k := 5) (N := 6) (T := TX3) (C0 := RX3) dX3_hold_69 (by decide) sh_21 rfl rfl (by decide) li_in3 tyX3_ok nmX3 rfl rfl rfl rfl w_295 ?_
      refine li_nm (fun M9 eM9 => ?_)
      have hf := li_fr_ui hf (show 21 = 21 ∨ (32 ≤ 21 ∧ 21 < 128) by omega) eM9
      have k10 : M9.1 21 5 = x7 := by rw [eM9, li_ui_at, if_pos rfl, if_pos rfl]
      refine li_aload_n 0 dX3_hold_72 rfl ?_
      refine li_aload_n 0 dX3_hold_73 rfl ?_
      refine li_geti (k := 4) (N := 6) (T := TX3) (C0 := RX3) dX3_hold_74 (by decide) sh_21 rfl rfl (by decide) li_in3 w_293 ?_
      refine li_top (fun x11 ex11 => ?_)
      have gx11 := tl_rg x11
      refine li_iconst 1 dX3_hold_77 (by decide) ?_
      refine li_iadd dX3_hold_78 ?_
      refine li_top (fun x12 ex12 => ?_)
      have tx12 : (-2147483648 ≤ x11.toInt + 1 ∧ x11.toInt + 1 ≤ 2147483647) → x12.toInt = x11.toInt + 1 := tl_add ex12
      refine li_bipush 12 dX3_hold_79 (by decide) ?_
      refine li_mmin dX3_hold_81 (by omega) w_875 w_726 w_113 w_727 (Nat.le_of_ble_eq_true rfl) ?_
      refine li_top (fun x13 ex13 => ?_)
      have tx13 : (12 < x12.toInt → x13.toInt = 12) ∧ (x12.toInt ≤ 12 → x13.toInt = x12.toInt) := tl_min ex13
      refine li_puti (k := 4) (N := 6) (T := TX3) (C0 := RX3) dX3_hold_84 (by decide) sh_21 rfl rfl (by decide) li_in3 tyX3_ok nmX3 rfl rfl rfl rfl w_293 ?_
      refine li_nm (fun M14 eM14 => ?_)
      have hf := li_fr_ui hf (show 21 = 21 ∨ (32 ≤ 21 ∧ 21 < 128) by omega) eM14
      have k15 : M14.1 21 5 = x7 := by rw [eM14, li_ui_at, if_pos rfl, if_neg (by decide)]; exact k10
      have k16 : M14.1 21 4 = x13 := by rw [eM14, li_ui_at, if_pos rfl, if_pos rfl]
      exact li_vret dX3_hold_87 rfl ⟨rfl, hf⟩
    refine li_icmp_ge 68 dX3_hold_56 (by decide) (fun c6 => ?_) (fun c6 => ?_)
    · have tc6 : 12 ≤ x5.toInt := tl_le c6
      refine li_iconst 0 dX3_hold_68 (by decide) ?_
      refine li_pick [0] [(0, .ref (Z.2.2 21))] rfl ?_
      have z0 : (0 : Int32).toInt = 0 := rfl
      exact J69 0 M3 hf
    · have tc6 : x5.toInt < 12 := tl_nle c6
      refine li_aload_n 0 dX3_hold_59 rfl ?_
      refine li_geti (k := 5) (N := 6) (T := TX3) (C0 := RX3) dX3_hold_60 (by decide) sh_21 rfl rfl (by decide) li_in3 w_295 ?_
      refine li_top (fun x17 ex17 => ?_)
      have gx17 := tl_rg x17
      have tvx17 : x17.toInt = x4.toInt := tl_eq (ex17.trans ex4.symm)
      refine li_iconst 1 dX3_hold_63 (by decide) ?_
      refine li_iadd dX3_hold_64 ?_
      refine li_top (fun x18 ex18 => ?_)
      have tx18 : (-2147483648 ≤ x17.toInt + 1 ∧ x17.toInt + 1 ≤ 2147483647) → x18.toInt = x17.toInt + 1 := tl_add ex18
      refine li_goto 69 dX3_hold_65 (by decide) ?_
      refine li_pick [0] [(0, .ref (Z.2.2 21))] rfl ?_
      exact J69 x18 M3 hf
  refine li_if_lt 47 dX3_hold_4 (by decide) (fun c2 => ?_) (fun c2 => ?_)
  · have tc2 : x1.toInt < 0 := tl_lt c2
    refine li_pick [0] [(0, .ref (Z.2.2 21))] rfl ?_
    exact J47  M0 hf
  · have tc2 : 0 ≤ x1.toInt := tl_nlt c2
    refine li_aload_n 0 dX3_hold_7 rfl ?_
    refine li_geti (k := 5) (N := 6) (T := TX3) (C0 := RX3) dX3_hold_8 (by decide) sh_21 rfl rfl (by decide) li_in3 w_295 ?_
    refine li_top (fun x19 ex19 => ?_)
    have gx19 := tl_rg x19
    have tvx19 : x19.toInt = x1.toInt := tl_eq (ex19.trans ex1.symm)
    refine li_aload_n 0 dX3_hold_11 rfl ?_
    refine li_getr (k := 0) (N := 6) (T := TX3) (C0 := RX3) dX3_hold_12 (by decide) sh_21 rfl rfl (by decide) (by decide) li_in3 w_289 ?_
    refine li_alen 12 dX3_hold_15 (by decide) sh_22 (Or.inr (by decide)) rfl ?_
    refine li_icmp_ge 47 dX3_hold_16 (by decide) (fun c20 => ?_) (fun c20 => ?_)
    · have tc20 : 12 ≤ x19.toInt := tl_le c20
      refine li_pick [0] [(0, .ref (Z.2.2 21))] rfl ?_
      exact J47  M0 hf
    · have tc20 : x19.toInt < 12 := tl_nle c20
      refine li_aload_n 0 dX3_hold_19 rfl ?_
      refine li_getr (k := 0) (N := 6) (T := TX3) (C0 := RX3) dX3_hold_20 (by decide) sh_21 rfl rfl (by decide) (by decide) li_in3 w_289 ?_
      refine li_aload_n 0 dX3_hold_23 rfl ?_
      refine li_geti (k := 5) (N := 6) (T := TX3) (C0 := RX3) dX3_hold_24 (by decide) sh_21 rfl rfl (by decide) li_in3 w_295 ?_
      refine li_top (fun x21 ex21 => ?_)
      have gx21 := tl_rg x21
      have tvx21 : x21.toInt = x1.toInt := tl_eq (ex21.trans ex1.symm)
      have vn22 : vp_in x21 12 := tl_in (by omega)
      have n22 : (x21 : Int32).toNatClampNeg < 12 := Nat.not_le.mp fun q => vn22 (Or.inr q)
      refine li_aald (b := 32) dX3_hold_27 (by decide) sh_22 vn22 ?_
      refine li_ifnull dX3_hold_28 ?_
      refine li_aload_n 0 dX3_hold_31 rfl ?_
      refine li_getr (k := 0) (N := 6) (T := TX3) (C0 := RX3) dX3_hold_32 (by decide) sh_21 rfl rfl (by decide) (by decide) li_in3 w_289 ?_
      refine li_aload_n 0 dX3_hold_35 rfl ?_
      refine li_geti (k := 5) (N := 6) (T := TX3) (C0 := RX3) dX3_hold_36 (by decide) sh_21 rfl rfl (by decide) li_in3 w_295 ?_
      refine li_top (fun x23 ex23 => ?_)
      have gx23 := tl_rg x23
      have tvx23 : x23.toInt = x1.toInt := tl_eq (ex23.trans ex1.symm)
      have vn24 : vp_in x23 12 := tl_in (by omega)
      have n24 : (x23 : Int32).toNatClampNeg < 12 := Nat.not_le.mp fun q => vn24 (Or.inr q)
      refine li_aald (b := 32) dX3_hold_39 (by decide) sh_22 vn24 ?_
      refine li_aload_n 0 dX3_hold_40 rfl ?_
      refine li_getr (k := 2) (N := 6) (T := TX3) (C0 := RX3) dX3_hold_41 (by decide) sh_21 rfl rfl (by decide) (by decide) li_in3 w_291 ?_
      refine li_callV (n := 1) (As := [.ref (Z.2.2 24)]) dX3_hold_44 (k_X4_copyFrom (d - 1) (by omega) (lg_ring n24) lgb_24 M0) (by omega) (Nat.le_of_ble_eq_true rfl) w_847 w_848 w_849 w_105 w_850 (by decide +kernel) rfl (snL0 (lg_ring n24)) (shL0 (lg_ring n24)) rfl rfl (Nat.le_of_ble_eq_true rfl) (fun r M26 h27 => ?_)
      obtain ⟨rfl, h27⟩ := h27
      have hf := li_fr_trans hf h27 (fun i (h : i = (32 + 8 * (x23 : Int32).toNatClampNeg) ∨ i = ((32 + 8 * (x23 : Int32).toNatClampNeg)) + 1 ∨ i = ((32 + 8 * (x23 : Int32).toNatClampNeg)) + 2 ∨ i = ((32 + 8 * (x23 : Int32).toNatClampNeg)) + 3 ∨ i = ((32 + 8 * (x23 : Int32).toNatClampNeg)) + 4 ∨ i = ((32 + 8 * (x23 : Int32).toNatClampNeg)) + 5 ∨ i = ((32 + 8 * (x23 : Int32).toNatClampNeg)) + 6 ∨ i = ((32 + 8 * (x23 : Int32).toNatClampNeg)) + 7) => (show i = 21 ∨ (32 ≤ i ∧ i < 128) by omega))
      refine li_pick [0] [(0, .ref (Z.2.2 21))] rfl ?_
      exact J47  M26 hf
