theorem w_138 : (Jvm.Cond.fieldLink "ClockForTalk$Text" (9 : Nat) "ClockForTalk$Text" "signs" "[I") ∈ li_ws := li_mem 138 (by decide +kernel) (by decide +kernel)
theorem w_139 : (Jvm.Cond.fieldLink "ClockForTalk$Text" (15 : Nat) "ClockForTalk$Text" "length" "I") ∈ li_ws := li_mem 139 (by decide +kernel) (by decide +kernel)
theorem w_142 : (Jvm.Cond.fieldLink "ClockForTalk$Text" (23 : Nat) "ClockForTalk$Text" "place" "I") ∈ li_ws := li_mem 142 (by decide +kernel) (by decide +kernel)
theorem w_159 : (Jvm.Cond.fieldLink "ClockForTalk$Row" (9 : Nat) "ClockForTalk$Row" "numbers" "[I") ∈ li_ws := li_mem 159 (by decide +kernel) (by decide +kernel)
theorem w_161 : (Jvm.Cond.fieldLink "ClockForTalk$Row" (19 : Nat) "ClockForTalk$Row" "length" "I") ∈ li_ws := li_mem 161 (by decide +kernel) (by decide +kernel)
theorem w_522 : (Jvm.Cond.static ({ cls := "ClockForTalk", name := "put", desc := "([III)V" } : Jvm.MethodName)) ∈ li_ws := li_mem 522 (by decide +kernel) (by decide +kernel)
theorem w_523 : (Jvm.Cond.code ({ cls := "ClockForTalk", name := "put", desc := "([III)V" } : Jvm.MethodName) prog_1_method_58_code (3 : Nat) (Option.none : Option Jvm.ClassFile.FieldType)) ∈ li_ws := li_mem 523 (by decide +kernel) (by decide +kernel)
theorem w_569 : (Jvm.Cond.static ({ cls := "ClockForTalk", name := "at", desc := "([II)I" } : Jvm.MethodName)) ∈ li_ws := li_mem 569 (by decide +kernel) (by decide +kernel)
theorem w_570 : (Jvm.Cond.code ({ cls := "ClockForTalk", name := "at", desc := "([II)I" } : Jvm.MethodName) prog_1_method_57_code (2 : Nat) (Option.some Jvm.ClassFile.FieldType.int)) ∈ li_ws := li_mem 570 (by decide +kernel) (by decide +kernel)
theorem w_639 : (Jvm.Cond.static ({ cls := "ClockForTalk", name := "within", desc := "(III)Z" } : Jvm.MethodName)) ∈ li_ws := li_mem 639 (by decide +kernel) (by decide +kernel)
theorem w_640 : (Jvm.Cond.code ({ cls := "ClockForTalk", name := "within", desc := "(III)Z" } : Jvm.MethodName) prog_1_method_61_code (3 : Nat) (Option.some Jvm.ClassFile.FieldType.boolean)) ∈ li_ws := li_mem 640 (by decide +kernel) (by decide +kernel)
theorem w_725 : (Jvm.Cond.methodLink "ClockForTalk$Text" (53 : Nat) ({ cls := "java/lang/Math", name := "min", desc := "(II)I" } : Jvm.MethodName)) ∈ li_ws := li_mem 725 (by decide +kernel) (by decide +kernel)
theorem dX7_addFour_0 : decode cX7_addFour 0 = .ok (.aload_n 0, 1) := by decide +kernel
theorem dX7_addFour_1 : decode cX7_addFour 1 = .ok (.getfield 15, 3) := by decide +kernel
theorem dX7_addFour_4 : decode cX7_addFour 4 = .ok (.iconst 4, 1) := by decide +kernel
theorem dX7_addFour_5 : decode cX7_addFour 5 = .ok (.iadd, 1) := by decide +kernel
theorem dX7_addFour_6 : decode cX7_addFour 6 = .ok (.bipush 80, 2) := by decide +kernel
theorem dX7_addFour_8 : decode cX7_addFour 8 = .ok (.if_icmp .le 5, 3) := by decide +kernel
theorem dX7_addFour_11 : decode cX7_addFour 11 = .ok (.iconst 0, 1) := by decide +kernel
theorem dX7_addFour_12 : decode cX7_addFour 12 = .ok (.ireturn, 1) := by decide +kernel
theorem dX7_addFour_13 : decode cX7_addFour 13 = .ok (.bipush 24, 2) := by decide +kernel
theorem dX7_addFour_15 : decode cX7_addFour 15 = .ok (.istore_n 2, 1) := by decide +kernel
theorem dX7_addFour_16 : decode cX7_addFour 16 = .ok (.iload_n 2, 1) := by decide +kernel
theorem dX7_addFour_17 : decode cX7_addFour 17 = .ok (.ifCond .lt 37, 3) := by decide +kernel
theorem dX7_addFour_20 : decode cX7_addFour 20 = .ok (.aload_n 0, 1) := by decide +kernel
theorem dX7_addFour_21 : decode cX7_addFour 21 = .ok (.getfield 9, 3) := by decide +kernel
theorem dX7_addFour_24 : decode cX7_addFour 24 = .ok (.aload_n 0, 1) := by decide +kernel
theorem dX7_addFour_25 : decode cX7_addFour 25 = .ok (.getfield 15, 3) := by decide +kernel
theorem dX7_addFour_28 : decode cX7_addFour 28 = .ok (.iload_n 1, 1) := by decide +kernel
theorem dX7_addFour_29 : decode cX7_addFour 29 = .ok (.iload_n 2, 1) := by decide +kernel
theorem dX7_addFour_30 : decode cX7_addFour 30 = .ok (.iushr, 1) := by decide +kernel
theorem dX7_addFour_31 : decode cX7_addFour 31 = .ok (.sipush 255, 3) := by decide +kernel
theorem dX7_addFour_34 : decode cX7_addFour 34 = .ok (.iand, 1) := by decide +kernel
theorem dX7_addFour_35 : decode cX7_addFour 35 = .ok (.invokestatic 19, 3) := by decide +kernel
theorem dX7_addFour_38 : decode cX7_addFour 38 = .ok (.aload_n 0, 1) := by decide +kernel
theorem dX7_addFour_39 : decode cX7_addFour 39 = .ok (.dup, 1) := by decide +kernel
theorem dX7_addFour_40 : decode cX7_addFour 40 = .ok (.getfield 15, 3) := by decide +kernel
theorem dX7_addFour_43 : decode cX7_addFour 43 = .ok (.iconst 1, 1) := by decide +kernel
theorem dX7_addFour_44 : decode cX7_addFour 44 = .ok (.iadd, 1) := by decide +kernel
theorem dX7_addFour_45 : decode cX7_addFour 45 = .ok (.putfield 15, 3) := by decide +kernel
theorem dX7_addFour_48 : decode cX7_addFour 48 = .ok (.iinc 2 (-8), 3) := by decide +kernel
theorem dX7_addFour_51 : decode cX7_addFour 51 = .ok (.goto (-35), 3) := by decide +kernel
theorem dX7_addFour_54 : decode cX7_addFour 54 = .ok (.iconst 1, 1) := by decide +kernel
theorem dX7_addFour_55 : decode cX7_addFour 55 = .ok (.ireturn, 1) := by decide +kernel
abbrev YX7_addFour : li_Y := (yX7_addFour, cX7_addFour, 3, (some .boolean))
theorem dX7_cutTo_0 : decode cX7_cutTo 0 = .ok (.iload_n 1, 1) := by decide +kernel
theorem dX7_cutTo_1 : decode cX7_cutTo 1 = .ok (.ifCond .lt 11, 3) := by decide +kernel
theorem dX7_cutTo_4 : decode cX7_cutTo 4 = .ok (.iload_n 1, 1) := by decide +kernel
theorem dX7_cutTo_5 : decode cX7_cutTo 5 = .ok (.aload_n 0, 1) := by decide +kernel
theorem dX7_cutTo_6 : decode cX7_cutTo 6 = .ok (.getfield 15, 3) := by decide +kernel
theorem dX7_cutTo_9 : decode cX7_cutTo 9 = .ok (.if_icmp .le 5, 3) := by decide +kernel
theorem dX7_cutTo_12 : decode cX7_cutTo 12 = .ok (.iconst 0, 1) := by decide +kernel
theorem dX7_cutTo_13 : decode cX7_cutTo 13 = .ok (.ireturn, 1) := by decide +kernel
theorem dX7_cutTo_14 : decode cX7_cutTo 14 = .ok (.aload_n 0, 1) := by decide +kernel
theorem dX7_cutTo_15 : decode cX7_cutTo 15 = .ok (.iload_n 1, 1) := by decide +kernel
theorem dX7_cutTo_16 : decode cX7_cutTo 16 = .ok (.putfield 15, 3) := by decide +kernel
theorem dX7_cutTo_19 : decode cX7_cutTo 19 = .ok (.iconst 1, 1) := by decide +kernel
theorem dX7_cutTo_20 : decode cX7_cutTo 20 = .ok (.ireturn, 1) := by decide +kernel
abbrev YX7_cutTo : li_Y := (yX7_cutTo, cX7_cutTo, 2, (some .boolean))
theorem dX7_atEnd_0 : decode cX7_atEnd 0 = .ok (.aload_n 0, 1) := by decide +kernel
theorem dX7_atEnd_1 : decode cX7_atEnd 1 = .ok (.getfield 23, 3) := by decide +kernel
theorem dX7_atEnd_4 : decode cX7_atEnd 4 = .ok (.aload_n 0, 1) := by decide +kernel
theorem dX7_atEnd_5 : decode cX7_atEnd 5 = .ok (.getfield 15, 3) := by decide +kernel
theorem dX7_atEnd_8 : decode cX7_atEnd 8 = .ok (.if_icmp .lt 7, 3) := by decide +kernel
theorem dX7_atEnd_11 : decode cX7_atEnd 11 = .ok (.iconst 1, 1) := by decide +kernel
theorem dX7_atEnd_12 : decode cX7_atEnd 12 = .ok (.goto 4, 3) := by decide +kernel
theorem dX7_atEnd_15 : decode cX7_atEnd 15 = .ok (.iconst 0, 1) := by decide +kernel
theorem dX7_atEnd_16 : decode cX7_atEnd 16 = .ok (.ireturn, 1) := by decide +kernel
abbrev YX7_atEnd : li_Y := (yX7_atEnd, cX7_atEnd, 1, (some .boolean))
theorem dX7_verdict_0 : decode cX7_verdict 0 = .ok (.iload_n 1, 1) := by decide +kernel
theorem dX7_verdict_1 : decode cX7_verdict 1 = .ok (.ifCond .ge 14, 3) := by decide +kernel
theorem dX7_verdict_4 : decode cX7_verdict 4 = .ok (.iconst (-1), 1) := by decide +kernel
theorem dX7_verdict_5 : decode cX7_verdict 5 = .ok (.aload_n 0, 1) := by decide +kernel
theorem dX7_verdict_6 : decode cX7_verdict 6 = .ok (.getfield 23, 3) := by decide +kernel
theorem dX7_verdict_9 : decode cX7_verdict 9 = .ok (.iload_n 2, 1) := by decide +kernel
theorem dX7_verdict_10 : decode cX7_verdict 10 = .ok (.invokestatic 53, 3) := by decide +kernel
theorem dX7_verdict_13 : decode cX7_verdict 13 = .ok (.isub, 1) := by decide +kernel
theorem dX7_verdict_14 : decode cX7_verdict 14 = .ok (.ireturn, 1) := by decide +kernel
theorem dX7_verdict_15 : decode cX7_verdict 15 = .ok (.aload_n 0, 1) := by decide +kernel
theorem dX7_verdict_16 : decode cX7_verdict 16 = .ok (.getfield 15, 3) := by decide +kernel
theorem dX7_verdict_19 : decode cX7_verdict 19 = .ok (.iload_n 2, 1) := by decide +kernel
theorem dX7_verdict_20 : decode cX7_verdict 20 = .ok (.if_icmp .le 9, 3) := by decide +kernel
theorem dX7_verdict_23 : decode cX7_verdict 23 = .ok (.iconst (-1), 1) := by decide +kernel
theorem dX7_verdict_24 : decode cX7_verdict 24 = .ok (.iload_n 2, 1) := by decide +kernel
theorem dX7_verdict_25 : decode cX7_verdict 25 = .ok (.isub, 1) := by decide +kernel
theorem dX7_verdict_26 : decode cX7_verdict 26 = .ok (.goto 4, 3) := by decide +kernel
theorem dX7_verdict_29 : decode cX7_verdict 29 = .ok (.iload_n 1, 1) := by decide +kernel
theorem dX7_verdict_30 : decode cX7_verdict 30 = .ok (.ireturn, 1) := by decide +kernel
abbrev YX7_verdict : li_Y := (yX7_verdict, cX7_verdict, 3, (some .int))
theorem dX5_tell_0 : decode cX5_tell 0 = .ok (.aload_n 0, 1) := by decide +kernel
theorem dX5_tell_1 : decode cX5_tell 1 = .ok (.getfield 9, 3) := by decide +kernel
theorem dX5_tell_4 : decode cX5_tell 4 = .ok (.iconst 0, 1) := by decide +kernel
theorem dX5_tell_5 : decode cX5_tell 5 = .ok (.iload_n 1, 1) := by decide +kernel
theorem dX5_tell_6 : decode cX5_tell 6 = .ok (.invokestatic 15, 3) := by decide +kernel
theorem dX5_tell_9 : decode cX5_tell 9 = .ok (.aload_n 0, 1) := by decide +kernel
theorem dX5_tell_10 : decode cX5_tell 10 = .ok (.iconst 1, 1) := by decide +kernel
theorem dX5_tell_11 : decode cX5_tell 11 = .ok (.putfield 19, 3) := by decide +kernel
theorem dX5_tell_14 : decode cX5_tell 14 = .ok (.return_, 1) := by decide +kernel
abbrev YX5_tell : li_Y := (yX5_tell, cX5_tell, 2, none)
theorem dX5_tellTwo_0 : decode cX5_tellTwo 0 = .ok (.aload_n 0, 1) := by decide +kernel
theorem dX5_tellTwo_1 : decode cX5_tellTwo 1 = .ok (.getfield 9, 3) := by decide +kernel
theorem dX5_tellTwo_4 : decode cX5_tellTwo 4 = .ok (.iconst 0, 1) := by decide +kernel
theorem dX5_tellTwo_5 : decode cX5_tellTwo 5 = .ok (.iload_n 1, 1) := by decide +kernel
theorem dX5_tellTwo_6 : decode cX5_tellTwo 6 = .ok (.invokestatic 15, 3) := by decide +kernel
theorem dX5_tellTwo_9 : decode cX5_tellTwo 9 = .ok (.aload_n 0, 1) := by decide +kernel
theorem dX5_tellTwo_10 : decode cX5_tellTwo 10 = .ok (.getfield 9, 3) := by decide +kernel
theorem dX5_tellTwo_13 : decode cX5_tellTwo 13 = .ok (.iconst 1, 1) := by decide +kernel
theorem dX5_tellTwo_14 : decode cX5_tellTwo 14 = .ok (.iload_n 2, 1) := by decide +kernel
theorem dX5_tellTwo_15 : decode cX5_tellTwo 15 = .ok (.invokestatic 15, 3) := by decide +kernel
theorem dX5_tellTwo_18 : decode cX5_tellTwo 18 = .ok (.aload_n 0, 1) := by decide +kernel
theorem dX5_tellTwo_19 : decode cX5_tellTwo 19 = .ok (.iconst 2, 1) := by decide +kernel
theorem dX5_tellTwo_20 : decode cX5_tellTwo 20 = .ok (.putfield 19, 3) := by decide +kernel
theorem dX5_tellTwo_23 : decode cX5_tellTwo 23 = .ok (.return_, 1) := by decide +kernel
abbrev YX5_tellTwo : li_Y := (yX5_tellTwo, cX5_tellTwo, 3, none)
set_option maxRecDepth 100000 in
set_option maxHeartbeats 4000000 in
theorem k_X5_tell {l : Launch} {Z : li_Z} (d : Nat) (hd : 2 ≤ d) (p1 : Int32) (M0 : li_M) : li_Met l Z YX5_tell d [.ref (Z.2.2 3), .int p1] M0 (li_SV (fun i => i = 3 ∨ i = 4) M0) := by
  refine li_enter (by decide +kernel) (Nat.le_of_ble_eq_true rfl) ?_
  show li_T l Z YX5_tell d 0 [(0, .ref (Z.2.2 3)), (1, .int p1)] [] M0 _
  have hf : li_fr (fun i => i = 3 ∨ i = 4) M0 M0 := li_fr_refl
  refine li_aload_n 0 dX5_tell_0 rfl ?_
  refine li_getr (k := 0) (N := 2) (T := TX5) (C0 := RX5) dX5_tell_1 (by decide) sh_3 rfl rfl (by decide) (by decide) li_in5 w_159 ?_
  refine li_iconst 0 dX5_tell_4 (by decide) ?_
  refine li_iload_n 1 dX5_tell_5 rfl ?_
  refine li_callN (n := 3) (As := [.ref (Z.2.2 4), .int 0, .int p1]) dX5_tell_6 (k_X11_put (d - 1) (by omega) (by decide) sh_4 (by decide) 0 p1 M0) (by omega) (Nat.le_of_ble_eq_true rfl) nw_23 w_522 w_101 w_523 (by decide +kernel) rfl rfl (Nat.le_of_ble_eq_true rfl) (fun r M2 h3 => ?_)
  obtain ⟨rfl, h3⟩ := h3
  have hf := li_fr_trans hf h3 (fun i (h : i = 4) => (show i = 3 ∨ i = 4 by omega))
  refine li_aload_n 0 dX5_tell_9 rfl ?_
  refine li_iconst 1 dX5_tell_10 (by decide) ?_
  refine li_puti (k := 1) (N := 2) (T := TX5) (C0 := RX5) dX5_tell_11 (by decide) sh_3 rfl rfl (by decide) li_in5 tyX5_ok nmX5 rfl rfl rfl rfl w_161 ?_
  refine li_nm (fun M4 eM4 => ?_)
  have hf := li_fr_ui hf (show 3 = 3 ∨ 3 = 4 by omega) eM4
  exact li_vret dX5_tell_14 rfl ⟨rfl, hf⟩
set_option maxRecDepth 100000 in
set_option maxHeartbeats 4000000 in
theorem k_X5_tellTwo {l : Launch} {Z : li_Z} (d : Nat) (hd : 2 ≤ d) (p1 : Int32) (p2 : Int32) (M0 : li_M) : li_Met l Z YX5_tellTwo d [.ref (Z.2.2 3), .int p1, .int p2] M0 (li_SV (fun i => i = 3 ∨ i = 4) M0) := by
  refine li_enter (by decide +kernel) (Nat.le_of_ble_eq_true rfl) ?_
  show li_T l Z YX5_tellTwo d 0 [(0, .ref (Z.2.2 3)), (1, .int p1), (2, .int p2)] [] M0 _
  have hf : li_fr (fun i => i = 3 ∨ i = 4) M0 M0 := li_fr_refl
  refine li_aload_n 0 dX5_tellTwo_0 rfl ?_
  refine li_getr (k := 0) (N := 2) (T := TX5) (C0 := RX5) dX5_tellTwo_1 (by decide) sh_3 rfl rfl (by decide) (by decide) li_in5 w_159 ?_
  refine li_iconst 0 dX5_tellTwo_4 (by decide) ?_
  refine li_iload_n 1 dX5_tellTwo_5 rfl ?_
  refine li_callN (n := 3) (As := [.ref (Z.2.2 4), .int 0, .int p1]) dX5_tellTwo_6 (k_X11_put (d - 1) (by omega) (by decide) sh_4 (by decide) 0 p1 M0) (by omega) (Nat.le_of_ble_eq_true rfl) nw_23 w_522 w_101 w_523 (by decide +kernel) rfl rfl (Nat.le_of_ble_eq_true rfl) (fun r M2 h3 => ?_)
  obtain ⟨rfl, h3⟩ := h3
  have hf := li_fr_trans hf h3 (fun i (h : i = 4) => (show i = 3 ∨ i = 4 by omega))
  refine li_aload_n 0 dX5_tellTwo_9 rfl ?_
  refine li_getr (k := 0) (N := 2) (T := TX5) (C0 := RX5) dX5_tellTwo_10 (by decide) sh_3 rfl rfl (by decide) (by decide) li_in5 w_159 ?_
  refine li_iconst 1 dX5_tellTwo_13 (by decide) ?_
  refine li_iload_n 2 dX5_tellTwo_14 rfl ?_
  refine li_callN (n := 3) (As := [.ref (Z.2.2 4), .int 1, .int p2]) dX5_tellTwo_15 (k_X11_put (d - 1) (by omega) (by decide) sh_4 (by decide) 1 p2 M2) (by omega) (Nat.le_of_ble_eq_true rfl) nw_23 w_522 w_101 w_523 (by decide +kernel) rfl rfl (Nat.le_of_ble_eq_true rfl) (fun r M5 h6 => ?_)
  obtain ⟨rfl, h6⟩ := h6
  have hf := li_fr_trans hf h6 (fun i (h : i = 4) => (show i = 3 ∨ i = 4 by omega))
  refine li_aload_n 0 dX5_tellTwo_18 rfl ?_
  refine li_iconst 2 dX5_tellTwo_19 (by decide) ?_
  refine li_puti (k := 1) (N := 2) (T := TX5) (C0 := RX5) dX5_tellTwo_20 (by decide) sh_3 rfl rfl (by decide) li_in5 tyX5_ok nmX5 rfl rfl rfl rfl w_161 ?_
  refine li_nm (fun M7 eM7 => ?_)
  have hf := li_fr_ui hf (show 3 = 3 ∨ 3 = 4 by omega) eM7
  exact li_vret dX5_tellTwo_23 rfl ⟨rfl, hf⟩
