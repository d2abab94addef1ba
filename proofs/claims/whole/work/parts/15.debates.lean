theorem w_29 : (Jvm.Cond.selects "ClockForTalk$Debates" ({ cls := "ClockForTalk$Debates", name := "fill", desc := "(I)V" } : Jvm.MethodName) ({ cls := "ClockForTalk$Debates", name := "fill", desc := "(I)V" } : Jvm.MethodName)) ∈ li_ws := li_mem 29 (by decide +kernel) (by decide +kernel)
theorem w_30 : (Jvm.Cond.selects "ClockForTalk$Debates" ({ cls := "ClockForTalk$Debates", name := "mostToWin", desc := "(III)I" } : Jvm.MethodName) ({ cls := "ClockForTalk$Debates", name := "mostToWin", desc := "(III)I" } : Jvm.MethodName)) ∈ li_ws := li_mem 30 (by decide +kernel) (by decide +kernel)
theorem w_31 : (Jvm.Cond.selects "ClockForTalk$Debates" ({ cls := "ClockForTalk$Debates", name := "wins", desc := "(IIII)Z" } : Jvm.MethodName) ({ cls := "ClockForTalk$Debates", name := "wins", desc := "(IIII)Z" } : Jvm.MethodName)) ∈ li_ws := li_mem 31 (by decide +kernel) (by decide +kernel)
theorem w_111 : (Jvm.Cond.initialized "ClockForTalk$Debates") ∈ li_ws := li_mem 111 (by decide +kernel) (by decide +kernel)
theorem w_339 : (Jvm.Cond.fieldLink "ClockForTalk$Debates" (12 : Nat) "ClockForTalk$Debates" "most" "[I") ∈ li_ws := li_mem 339 (by decide +kernel) (by decide +kernel)
theorem w_340 : (Jvm.Cond.fieldLink "ClockForTalk$Debates" (16 : Nat) "ClockForTalk$Debates" "filled" "I") ∈ li_ws := li_mem 340 (by decide +kernel) (by decide +kernel)
theorem w_1133 : (Jvm.Cond.methodLink "ClockForTalk$Debates" (24 : Nat) ({ cls := "ClockForTalk$Debates", name := "fill", desc := "(I)V" } : Jvm.MethodName)) ∈ li_ws := li_mem 1133 (by decide +kernel) (by decide +kernel)
theorem w_1135 : (Jvm.Cond.instanceMethod ({ cls := "ClockForTalk$Debates", name := "fill", desc := "(I)V" } : Jvm.MethodName)) ∈ li_ws := li_mem 1135 (by decide +kernel) (by decide +kernel)
theorem w_1136 : (Jvm.Cond.code ({ cls := "ClockForTalk$Debates", name := "fill", desc := "(I)V" } : Jvm.MethodName) prog_3_method_5_code (4 : Nat) (Option.none : Option Jvm.ClassFile.FieldType)) ∈ li_ws := li_mem 1136 (by decide +kernel) (by decide +kernel)
theorem w_1137 : (Jvm.Cond.methodLink "ClockForTalk$Debates" (46 : Nat) ({ cls := "java/lang/Math", name := "max", desc := "(II)I" } : Jvm.MethodName)) ∈ li_ws := li_mem 1137 (by decide +kernel) (by decide +kernel)
theorem w_1138 : (Jvm.Cond.methodLink "ClockForTalk$Debates" (28 : Nat) ({ cls := "java/lang/Math", name := "min", desc := "(II)I" } : Jvm.MethodName)) ∈ li_ws := li_mem 1138 (by decide +kernel) (by decide +kernel)
theorem w_1139 : (Jvm.Cond.methodLink "ClockForTalk$Debates" (38 : Nat) ({ cls := "ClockForTalk$Debates", name := "cell", desc := "(III)I" } : Jvm.MethodName)) ∈ li_ws := li_mem 1139 (by decide +kernel) (by decide +kernel)
theorem w_1140 : (Jvm.Cond.static ({ cls := "ClockForTalk$Debates", name := "cell", desc := "(III)I" } : Jvm.MethodName)) ∈ li_ws := li_mem 1140 (by decide +kernel) (by decide +kernel)
theorem w_1141 : (Jvm.Cond.code ({ cls := "ClockForTalk$Debates", name := "cell", desc := "(III)I" } : Jvm.MethodName) prog_3_method_3_code (3 : Nat) (Option.some Jvm.ClassFile.FieldType.int)) ∈ li_ws := li_mem 1141 (by decide +kernel) (by decide +kernel)
theorem w_1142 : (Jvm.Cond.methodLink "ClockForTalk$Debates" (49 : Nat) ({ cls := "ClockForTalk$Debates", name := "mostToWin", desc := "(III)I" } : Jvm.MethodName)) ∈ li_ws := li_mem 1142 (by decide +kernel) (by decide +kernel)
theorem w_1144 : (Jvm.Cond.instanceMethod ({ cls := "ClockForTalk$Debates", name := "mostToWin", desc := "(III)I" } : Jvm.MethodName)) ∈ li_ws := li_mem 1144 (by decide +kernel) (by decide +kernel)
theorem w_1145 : (Jvm.Cond.code ({ cls := "ClockForTalk$Debates", name := "mostToWin", desc := "(III)I" } : Jvm.MethodName) prog_3_method_6_code (5 : Nat) (Option.some Jvm.ClassFile.FieldType.int)) ∈ li_ws := li_mem 1145 (by decide +kernel) (by decide +kernel)
theorem w_1146 : (Jvm.Cond.methodLink "ClockForTalk$Debates" (34 : Nat) ({ cls := "ClockForTalk$Debates", name := "wins", desc := "(IIII)Z" } : Jvm.MethodName)) ∈ li_ws := li_mem 1146 (by decide +kernel) (by decide +kernel)
theorem w_1148 : (Jvm.Cond.instanceMethod ({ cls := "ClockForTalk$Debates", name := "wins", desc := "(IIII)Z" } : Jvm.MethodName)) ∈ li_ws := li_mem 1148 (by decide +kernel) (by decide +kernel)
theorem w_1149 : (Jvm.Cond.code ({ cls := "ClockForTalk$Debates", name := "wins", desc := "(IIII)Z" } : Jvm.MethodName) prog_3_method_4_code (5 : Nat) (Option.some Jvm.ClassFile.FieldType.boolean)) ∈ li_ws := li_mem 1149 (by decide +kernel) (by decide +kernel)
theorem dX1_wins_0 : decode cX1_wins 0 = .ok (.aload_n 0, 1) := by decide +kernel
theorem dX1_wins_1 : decode cX1_wins 1 = .ok (.getfield 12, 3) := by decide +kernel
theorem dX1_wins_4 : decode cX1_wins 4 = .ok (.iload_n 2, 1) := by decide +kernel
theorem dX1_wins_5 : decode cX1_wins 5 = .ok (.iload_n 1, 1) := by decide +kernel
theorem dX1_wins_6 : decode cX1_wins 6 = .ok (.iload_n 3, 1) := by decide +kernel
theorem dX1_wins_7 : decode cX1_wins 7 = .ok (.isub, 1) := by decide +kernel
theorem dX1_wins_8 : decode cX1_wins 8 = .ok (.iload 4, 2) := by decide +kernel
theorem dX1_wins_10 : decode cX1_wins 10 = .ok (.invokestatic 38, 3) := by decide +kernel
theorem dX1_wins_13 : decode cX1_wins 13 = .ok (.invokestatic 42, 3) := by decide +kernel
theorem dX1_wins_16 : decode cX1_wins 16 = .ok (.iload_n 3, 1) := by decide +kernel
theorem dX1_wins_17 : decode cX1_wins 17 = .ok (.if_icmp .ge 7, 3) := by decide +kernel
theorem dX1_wins_20 : decode cX1_wins 20 = .ok (.iconst 1, 1) := by decide +kernel
theorem dX1_wins_21 : decode cX1_wins 21 = .ok (.goto 4, 3) := by decide +kernel
theorem dX1_wins_24 : decode cX1_wins 24 = .ok (.iconst 0, 1) := by decide +kernel
theorem dX1_wins_25 : decode cX1_wins 25 = .ok (.ireturn, 1) := by decide +kernel
abbrev YX1_wins : li_Y := (yX1_wins, cX1_wins, 5, (some .boolean))
theorem dX1_mostToWin_0 : decode cX1_mostToWin 0 = .ok (.iload_n 1, 1) := by decide +kernel
theorem dX1_mostToWin_1 : decode cX1_mostToWin 1 = .ok (.iload_n 3, 1) := by decide +kernel
theorem dX1_mostToWin_2 : decode cX1_mostToWin 2 = .ok (.invokestatic 28, 3) := by decide +kernel
theorem dX1_mostToWin_5 : decode cX1_mostToWin 5 = .ok (.istore 4, 2) := by decide +kernel
theorem dX1_mostToWin_7 : decode cX1_mostToWin 7 = .ok (.iload 4, 2) := by decide +kernel
theorem dX1_mostToWin_9 : decode cX1_mostToWin 9 = .ok (.ifCond .le 24, 3) := by decide +kernel
theorem dX1_mostToWin_12 : decode cX1_mostToWin 12 = .ok (.aload_n 0, 1) := by decide +kernel
theorem dX1_mostToWin_13 : decode cX1_mostToWin 13 = .ok (.iload_n 1, 1) := by decide +kernel
theorem dX1_mostToWin_14 : decode cX1_mostToWin 14 = .ok (.iload_n 2, 1) := by decide +kernel
theorem dX1_mostToWin_15 : decode cX1_mostToWin 15 = .ok (.iload 4, 2) := by decide +kernel
theorem dX1_mostToWin_17 : decode cX1_mostToWin 17 = .ok (.iload_n 3, 1) := by decide +kernel
theorem dX1_mostToWin_18 : decode cX1_mostToWin 18 = .ok (.invokevirtual 34, 3) := by decide +kernel
theorem dX1_mostToWin_21 : decode cX1_mostToWin 21 = .ok (.ifCond .eq 6, 3) := by decide +kernel
theorem dX1_mostToWin_24 : decode cX1_mostToWin 24 = .ok (.iload 4, 2) := by decide +kernel
theorem dX1_mostToWin_26 : decode cX1_mostToWin 26 = .ok (.ireturn, 1) := by decide +kernel
theorem dX1_mostToWin_27 : decode cX1_mostToWin 27 = .ok (.iinc 4 (-1), 3) := by decide +kernel
theorem dX1_mostToWin_30 : decode cX1_mostToWin 30 = .ok (.goto (-23), 3) := by decide +kernel
theorem dX1_mostToWin_33 : decode cX1_mostToWin 33 = .ok (.iconst 0, 1) := by decide +kernel
theorem dX1_mostToWin_34 : decode cX1_mostToWin 34 = .ok (.ireturn, 1) := by decide +kernel
abbrev YX1_mostToWin : li_Y := (yX1_mostToWin, cX1_mostToWin, 5, (some .int))
theorem dX1_fill_0 : decode cX1_fill 0 = .ok (.iconst 0, 1) := by decide +kernel
theorem dX1_fill_1 : decode cX1_fill 1 = .ok (.istore_n 2, 1) := by decide +kernel
theorem dX1_fill_2 : decode cX1_fill 2 = .ok (.iload_n 2, 1) := by decide +kernel
theorem dX1_fill_3 : decode cX1_fill 3 = .ok (.bipush 120, 2) := by decide +kernel
theorem dX1_fill_5 : decode cX1_fill 5 = .ok (.if_icmp .gt 58, 3) := by decide +kernel
theorem dX1_fill_8 : decode cX1_fill 8 = .ok (.iconst 0, 1) := by decide +kernel
theorem dX1_fill_9 : decode cX1_fill 9 = .ok (.iload_n 2, 1) := by decide +kernel
theorem dX1_fill_10 : decode cX1_fill 10 = .ok (.bipush 60, 2) := by decide +kernel
theorem dX1_fill_12 : decode cX1_fill 12 = .ok (.isub, 1) := by decide +kernel
theorem dX1_fill_13 : decode cX1_fill 13 = .ok (.invokestatic 46, 3) := by decide +kernel
theorem dX1_fill_16 : decode cX1_fill 16 = .ok (.istore_n 3, 1) := by decide +kernel
theorem dX1_fill_17 : decode cX1_fill 17 = .ok (.iload_n 3, 1) := by decide +kernel
theorem dX1_fill_18 : decode cX1_fill 18 = .ok (.iload_n 2, 1) := by decide +kernel
theorem dX1_fill_19 : decode cX1_fill 19 = .ok (.bipush 60, 2) := by decide +kernel
theorem dX1_fill_21 : decode cX1_fill 21 = .ok (.invokestatic 28, 3) := by decide +kernel
theorem dX1_fill_24 : decode cX1_fill 24 = .ok (.if_icmp .gt 33, 3) := by decide +kernel
theorem dX1_fill_27 : decode cX1_fill 27 = .ok (.aload_n 0, 1) := by decide +kernel
theorem dX1_fill_28 : decode cX1_fill 28 = .ok (.getfield 12, 3) := by decide +kernel
theorem dX1_fill_31 : decode cX1_fill 31 = .ok (.iload_n 3, 1) := by decide +kernel
theorem dX1_fill_32 : decode cX1_fill 32 = .ok (.iload_n 2, 1) := by decide +kernel
theorem dX1_fill_33 : decode cX1_fill 33 = .ok (.iload_n 3, 1) := by decide +kernel
theorem dX1_fill_34 : decode cX1_fill 34 = .ok (.isub, 1) := by decide +kernel
theorem dX1_fill_35 : decode cX1_fill 35 = .ok (.iload_n 1, 1) := by decide +kernel
theorem dX1_fill_36 : decode cX1_fill 36 = .ok (.invokestatic 38, 3) := by decide +kernel
theorem dX1_fill_39 : decode cX1_fill 39 = .ok (.aload_n 0, 1) := by decide +kernel
theorem dX1_fill_40 : decode cX1_fill 40 = .ok (.iload_n 3, 1) := by decide +kernel
theorem dX1_fill_41 : decode cX1_fill 41 = .ok (.iload_n 2, 1) := by decide +kernel
theorem dX1_fill_42 : decode cX1_fill 42 = .ok (.iload_n 3, 1) := by decide +kernel
theorem dX1_fill_43 : decode cX1_fill 43 = .ok (.isub, 1) := by decide +kernel
theorem dX1_fill_44 : decode cX1_fill 44 = .ok (.iload_n 1, 1) := by decide +kernel
theorem dX1_fill_45 : decode cX1_fill 45 = .ok (.invokevirtual 49, 3) := by decide +kernel
theorem dX1_fill_48 : decode cX1_fill 48 = .ok (.invokestatic 52, 3) := by decide +kernel
theorem dX1_fill_51 : decode cX1_fill 51 = .ok (.iinc 3 1, 3) := by decide +kernel
theorem dX1_fill_54 : decode cX1_fill 54 = .ok (.goto (-37), 3) := by decide +kernel
theorem dX1_fill_57 : decode cX1_fill 57 = .ok (.iinc 2 1, 3) := by decide +kernel
theorem dX1_fill_60 : decode cX1_fill 60 = .ok (.goto (-58), 3) := by decide +kernel
theorem dX1_fill_63 : decode cX1_fill 63 = .ok (.return_, 1) := by decide +kernel
abbrev YX1_fill : li_Y := (yX1_fill, cX1_fill, 4, none)
theorem dX1_fewestToWin_0 : decode cX1_fewestToWin 0 = .ok (.aload_n 0, 1) := by decide +kernel
theorem dX1_fewestToWin_1 : decode cX1_fewestToWin 1 = .ok (.getfield 16, 3) := by decide +kernel
theorem dX1_fewestToWin_4 : decode cX1_fewestToWin 4 = .ok (.iload_n 3, 1) := by decide +kernel
theorem dX1_fewestToWin_5 : decode cX1_fewestToWin 5 = .ok (.invokestatic 20, 3) := by decide +kernel
theorem dX1_fewestToWin_8 : decode cX1_fewestToWin 8 = .ok (.ifCond .ne 20, 3) := by decide +kernel
theorem dX1_fewestToWin_11 : decode cX1_fewestToWin 11 = .ok (.aload_n 0, 1) := by decide +kernel
theorem dX1_fewestToWin_12 : decode cX1_fewestToWin 12 = .ok (.iload_n 3, 1) := by decide +kernel
theorem dX1_fewestToWin_13 : decode cX1_fewestToWin 13 = .ok (.invokevirtual 24, 3) := by decide +kernel
theorem dX1_fewestToWin_16 : decode cX1_fewestToWin 16 = .ok (.aload_n 0, 1) := by decide +kernel
theorem dX1_fewestToWin_17 : decode cX1_fewestToWin 17 = .ok (.dup, 1) := by decide +kernel
theorem dX1_fewestToWin_18 : decode cX1_fewestToWin 18 = .ok (.getfield 16, 3) := by decide +kernel
theorem dX1_fewestToWin_21 : decode cX1_fewestToWin 21 = .ok (.iconst 1, 1) := by decide +kernel
theorem dX1_fewestToWin_22 : decode cX1_fewestToWin 22 = .ok (.iload_n 3, 1) := by decide +kernel
theorem dX1_fewestToWin_23 : decode cX1_fewestToWin 23 = .ok (.ishl, 1) := by decide +kernel
theorem dX1_fewestToWin_24 : decode cX1_fewestToWin 24 = .ok (.ior, 1) := by decide +kernel
theorem dX1_fewestToWin_25 : decode cX1_fewestToWin 25 = .ok (.putfield 16, 3) := by decide +kernel
theorem dX1_fewestToWin_28 : decode cX1_fewestToWin 28 = .ok (.iload_n 1, 1) := by decide +kernel
theorem dX1_fewestToWin_29 : decode cX1_fewestToWin 29 = .ok (.iload_n 3, 1) := by decide +kernel
theorem dX1_fewestToWin_30 : decode cX1_fewestToWin 30 = .ok (.invokestatic 28, 3) := by decide +kernel
theorem dX1_fewestToWin_33 : decode cX1_fewestToWin 33 = .ok (.istore 4, 2) := by decide +kernel
theorem dX1_fewestToWin_35 : decode cX1_fewestToWin 35 = .ok (.iconst 1, 1) := by decide +kernel
theorem dX1_fewestToWin_36 : decode cX1_fewestToWin 36 = .ok (.istore 5, 2) := by decide +kernel
theorem dX1_fewestToWin_38 : decode cX1_fewestToWin 38 = .ok (.iload 5, 2) := by decide +kernel
theorem dX1_fewestToWin_40 : decode cX1_fewestToWin 40 = .ok (.iload 4, 2) := by decide +kernel
theorem dX1_fewestToWin_42 : decode cX1_fewestToWin 42 = .ok (.if_icmp .gt 24, 3) := by decide +kernel
theorem dX1_fewestToWin_45 : decode cX1_fewestToWin 45 = .ok (.aload_n 0, 1) := by decide +kernel
theorem dX1_fewestToWin_46 : decode cX1_fewestToWin 46 = .ok (.iload_n 1, 1) := by decide +kernel
theorem dX1_fewestToWin_47 : decode cX1_fewestToWin 47 = .ok (.iload_n 2, 1) := by decide +kernel
theorem dX1_fewestToWin_48 : decode cX1_fewestToWin 48 = .ok (.iload 5, 2) := by decide +kernel
theorem dX1_fewestToWin_50 : decode cX1_fewestToWin 50 = .ok (.iload_n 3, 1) := by decide +kernel
theorem dX1_fewestToWin_51 : decode cX1_fewestToWin 51 = .ok (.invokevirtual 34, 3) := by decide +kernel
theorem dX1_fewestToWin_54 : decode cX1_fewestToWin 54 = .ok (.ifCond .eq 6, 3) := by decide +kernel
theorem dX1_fewestToWin_57 : decode cX1_fewestToWin 57 = .ok (.iload 5, 2) := by decide +kernel
theorem dX1_fewestToWin_59 : decode cX1_fewestToWin 59 = .ok (.ireturn, 1) := by decide +kernel
theorem dX1_fewestToWin_60 : decode cX1_fewestToWin 60 = .ok (.iinc 5 1, 3) := by decide +kernel
theorem dX1_fewestToWin_63 : decode cX1_fewestToWin 63 = .ok (.goto (-25), 3) := by decide +kernel
theorem dX1_fewestToWin_66 : decode cX1_fewestToWin 66 = .ok (.iconst 0, 1) := by decide +kernel
theorem dX1_fewestToWin_67 : decode cX1_fewestToWin 67 = .ok (.ireturn, 1) := by decide +kernel
abbrev YX1_fewestToWin : li_Y := (yX1_fewestToWin, cX1_fewestToWin, 6, (some .int))
set_option maxRecDepth 100000 in
set_option maxHeartbeats 4000000 in
theorem k_X1_wins {l : Launch} {Z : li_Z} (d : Nat) (hd : 2 ≤ d) (p1 : Int32) (p2 : Int32) (p3 : Int32) (p4 : Int32) (M0 : li_M) : li_Met l Z YX1_wins d [.ref (Z.2.2 163), .int p1, .int p2, .int p3, .int p4] M0 (li_SZ (fun i => False) M0) := by
  refine li_enter (by decide +kernel) (Nat.le_of_ble_eq_true rfl) ?_
  show li_T l Z YX1_wins d 0 [(0, .ref (Z.2.2 163)), (1, .int p1), (2, .int p2), (3, .int p3), (4, .int p4)] [] M0 _
  have hf : li_fr (fun i => False) M0 M0 := li_fr_refl
  refine li_aload_n 0 dX1_wins_0 rfl ?_
  refine li_getr (k := 0) (N := 2) (T := TX1) (C0 := RX1) dX1_wins_1 (by decide) sh_163 rfl rfl (by decide) (by decide) li_in1 w_339 ?_
  refine li_iload_n 2 dX1_wins_4 rfl ?_
  refine li_iload_n 1 dX1_wins_5 rfl ?_
  refine li_iload_n 3 dX1_wins_6 rfl ?_
  refine li_isub dX1_wins_7 ?_
  refine li_top (fun x1 ex1 => ?_)
  refine li_iload 4 dX1_wins_8 rfl ?_
  refine li_callS (n := 3) (As := [.int p2, .int x1, .int p4]) dX1_wins_10 (k_X1_cell (d - 1) (by omega) p2 x1 p4 M0) (by omega) (Nat.le_of_ble_eq_true rfl) w_1139 w_1140 w_111 w_1141 (by decide +kernel) rfl rfl (Nat.le_of_ble_eq_true rfl) (fun r M3 h4 => ?_)
  obtain ⟨⟨x2, rfl⟩, h4⟩ := h4
  have hf := li_fr_trans hf h4 (fun i h => False.elim h)
  refine li_callN (n := 2) (As := [.ref (Z.2.2 164), .int x2]) dX1_wins_13 (k_X11_at (d - 1) (by omega) (by decide) sh_164 (by decide) x2 M3) (by omega) (Nat.le_of_ble_eq_true rfl) nw_32 w_589 w_104 w_590 (by decide +kernel) rfl rfl (Nat.le_of_ble_eq_true rfl) (fun r M6 h7 => ?_)
  obtain ⟨⟨x5, rfl⟩, h7⟩ := h7
  have hf := li_fr_trans hf h7 (fun i h => False.elim h)
  refine li_iload_n 3 dX1_wins_16 rfl ?_
  refine li_icmp_ge 24 dX1_wins_17 (by decide) (fun c8 => ?_) (fun c8 => ?_)
  · refine li_iconst 0 dX1_wins_24 (by decide) ?_
    exact li_iret dX1_wins_25 rfl (li_nz (Or.inl rfl)) ⟨⟨_, rfl, Or.inl rfl⟩, hf⟩
  · refine li_iconst 1 dX1_wins_20 (by decide) ?_
    refine li_goto 25 dX1_wins_21 (by decide) ?_
    exact li_iret dX1_wins_25 rfl (li_nz (Or.inr rfl)) ⟨⟨_, rfl, Or.inr rfl⟩, hf⟩
set_option maxRecDepth 100000 in
set_option maxHeartbeats 4000000 in
theorem k_X1_mostToWin {l : Launch} {Z : li_Z} (d : Nat) (hd : 3 ≤ d) (p1 : Int32) (p2 : Int32) (p3 : Int32) (M0 : li_M) : li_Met l Z YX1_mostToWin d [.ref (Z.2.2 163), .int p1, .int p2, .int p3] M0 (li_SI (fun i => False) M0) := by
  refine li_enter (by decide +kernel) (Nat.le_of_ble_eq_true rfl) ?_
  show li_T l Z YX1_mostToWin d 0 [(0, .ref (Z.2.2 163)), (1, .int p1), (2, .int p2), (3, .int p3)] [] M0 _
  have hf : li_fr (fun i => False) M0 M0 := li_fr_refl
  refine li_iload_n 1 dX1_mostToWin_0 rfl ?_
  refine li_iload_n 3 dX1_mostToWin_1 rfl ?_
  refine li_mmin dX1_mostToWin_2 (by omega) w_1138 w_746 w_117 w_747 (Nat.le_of_ble_eq_true rfl) ?_
  refine li_top (fun x1 ex1 => ?_)
  refine li_istore [(4, .int x1), (0, .ref (Z.2.2 163)), (1, .int p1), (2, .int p2), (3, .int p3)] dX1_mostToWin_5 (by decide) rfl ?_
  have L7 : ∀ (n : Nat) (x2 : Int32) (M3 : li_M), ((x2 : Int32).toInt + 2147483648).toNat < n → li_fr (fun i => False) M0 M3 → li_T l Z YX1_mostToWin d 7 [(4, .int x2), (0, .ref (Z.2.2 163)), (1, .int p1), (2, .int p2), (3, .int p3)] [] M3 (li_SI (fun i => False) M0) := by
    intro n
    induction n with
    | zero => intro x2 M3 hn; exact absurd hn (Nat.not_lt_zero _)
    | succ n ih7 =>
      intro x2 M3 hn hf
      refine li_iload 0 dX1_mostToWin_7 rfl ?_
      refine li_if_le 33 dX1_mostToWin_9 (by decide) (fun c4 => ?_) (fun c4 => ?_)
      · refine li_iconst 0 dX1_mostToWin_33 (by decide) ?_
        exact li_iret dX1_mostToWin_34 rfl rfl ⟨⟨_, rfl⟩, hf⟩
      · refine li_aload_n 1 dX1_mostToWin_12 rfl ?_
        refine li_iload_n 2 dX1_mostToWin_13 rfl ?_
        refine li_iload_n 3 dX1_mostToWin_14 rfl ?_
        refine li_iload 0 dX1_mostToWin_15 rfl ?_
        refine li_iload_n 4 dX1_mostToWin_17 rfl ?_
        refine li_callV (n := 4) (As := [.int p1, .int p2, .int x2, .int p3]) dX1_mostToWin_18 (k_X1_wins (d - 1) (by omega) p1 p2 x2 p3 M3) (by omega) (Nat.le_of_ble_eq_true rfl) w_1146 w_1148 w_31 w_111 w_1149 (by decide +kernel) rfl (by decide) sh_163 rfl rfl (Nat.le_of_ble_eq_true rfl) (fun r M6 h7 => ?_)
        obtain ⟨⟨x5, rfl, bx5⟩, h7⟩ := h7
        have hf := li_fr_trans hf h7 (fun i h => False.elim h)
        refine li_if_eq 27 dX1_mostToWin_21 (by decide) (fun c8 => ?_) (fun c8 => ?_)
        · obtain ⟨x9, ex9⟩ : ∃ y : Int32, y = x2 + (-1) := ⟨_, rfl⟩
          refine li_iinc 0 [(4, .int x9), (0, .ref (Z.2.2 163)), (1, .int p1), (2, .int p2), (3, .int p3)] x9 dX1_mostToWin_27 rfl (by rw [ex9]; rfl) (by decide) rfl ?_
          refine li_goto 7 dX1_mostToWin_30 (by decide) ?_
          refine li_pick [0, 1, 2, 3, 4] [(4, .int x9), (0, .ref (Z.2.2 163)), (1, .int p1), (2, .int p2), (3, .int p3)] rfl ?_
          exact ih7 x9 M6 (by have h9 := li_dn1 (li_nlt0 (li_gt c4)); rw [← ex9] at h9; omega) hf
        · refine li_iload 0 dX1_mostToWin_24 rfl ?_
          exact li_iret dX1_mostToWin_26 rfl rfl ⟨⟨_, rfl⟩, hf⟩
  exact L7 _ x1 M0 (Nat.lt_succ_self _) hf
set_option maxRecDepth 100000 in
set_option maxHeartbeats 4000000 in
theorem k_X1_fill {l : Launch} {Z : li_Z} (d : Nat) (hd : 4 ≤ d) (p1 : Int32) (M0 : li_M) : li_Met l Z YX1_fill d [.ref (Z.2.2 163), .int p1] M0 (li_SV (fun i => i = 164) M0) := by
  refine li_enter (by decide +kernel) (Nat.le_of_ble_eq_true rfl) ?_
  show li_T l Z YX1_fill d 0 [(0, .ref (Z.2.2 163)), (1, .int p1)] [] M0 _
  have hf : li_fr (fun i => i = 164) M0 M0 := li_fr_refl
  have gp1 := tl_rg p1
  refine li_iconst 0 dX1_fill_0 (by decide) ?_
  refine li_istore_n [(2, .int 0), (0, .ref (Z.2.2 163)), (1, .int p1)] dX1_fill_1 (by decide) rfl ?_
  have L2 : ∀ (n : Nat) (x1 : Int32) (M2 : li_M), (121 - (x1 : Int32).toInt).toNat < n → li_fr (fun i => i = 164) M0 M2 → li_T l Z YX1_fill d 2 [(2, .int x1), (0, .ref (Z.2.2 163)), (1, .int p1)] [] M2 (li_SV (fun i => i = 164) M0) := by
    intro n
    induction n with
    | zero => intro x1 M2 hn; exact absurd hn (Nat.not_lt_zero _)
    | succ n ih2 =>
      intro x1 M2 hn hf
      have gx1 := tl_rg x1
      refine li_iload_n 0 dX1_fill_2 rfl ?_
      refine li_bipush 120 dX1_fill_3 (by decide) ?_
      refine li_icmp_gt 63 dX1_fill_5 (by decide) (fun c3 => ?_) (fun c3 => ?_)
      · have tc3 : 120 < x1.toInt := tl_lt c3
        exact li_vret dX1_fill_63 rfl ⟨rfl, hf⟩
      · have tc3 : x1.toInt ≤ 120 := tl_nlt c3
        refine li_iconst 0 dX1_fill_8 (by decide) ?_
        refine li_iload_n 0 dX1_fill_9 rfl ?_
        refine li_bipush 60 dX1_fill_10 (by decide) ?_
        refine li_isub dX1_fill_12 ?_
        refine li_top (fun x4 ex4 => ?_)
        have tx4 : (-2147483648 ≤ x1.toInt - 60 ∧ x1.toInt - 60 ≤ 2147483647) → x4.toInt = x1.toInt - 60 := tl_sub ex4
        refine li_mmax dX1_fill_13 (by omega) w_1137 w_662 w_117 w_663 (Nat.le_of_ble_eq_true rfl) ?_
        refine li_top (fun x5 ex5 => ?_)
        have tx5 : (0 < x4.toInt → x5.toInt = x4.toInt) ∧ (x4.toInt ≤ 0 → x5.toInt = 0) := tl_max ex5
        refine li_istore_n [(3, .int x5), (2, .int x1), (0, .ref (Z.2.2 163)), (1, .int p1)] dX1_fill_16 (by decide) rfl ?_
        have L17 : ∀ (n : Nat) (x6 : Int32) (M7 : li_M), (61 - (x6 : Int32).toInt).toNat < n → li_fr (fun i => i = 164) M0 M7 → li_T l Z YX1_fill d 17 [(3, .int x6), (2, .int x1), (0, .ref (Z.2.2 163)), (1, .int p1)] [] M7 (li_SV (fun i => i = 164) M0) := by
          intro n
          induction n with
          | zero => intro x6 M7 hn; exact absurd hn (Nat.not_lt_zero _)
          | succ n ih17 =>
            intro x6 M7 hn hf
            have gx6 := tl_rg x6
            refine li_iload_n 0 dX1_fill_17 rfl ?_
            refine li_iload_n 1 dX1_fill_18 rfl ?_
            refine li_bipush 60 dX1_fill_19 (by decide) ?_
            refine li_mmin dX1_fill_21 (by omega) w_1138 w_746 w_117 w_747 (Nat.le_of_ble_eq_true rfl) ?_
            refine li_top (fun x8 ex8 => ?_)
            have tx8 : (60 < x1.toInt → x8.toInt = 60) ∧ (x1.toInt ≤ 60 → x8.toInt = x1.toInt) := tl_min ex8
            refine li_icmp_gt 57 dX1_fill_24 (by decide) (fun c9 => ?_) (fun c9 => ?_)
            · have tc9 : x8.toInt < x6.toInt := tl_lt c9
              obtain ⟨x10, ex10⟩ : ∃ y : Int32, y = x1 + 1 := ⟨_, rfl⟩
              have tx10 : (-2147483648 ≤ x1.toInt + 1 ∧ x1.toInt + 1 ≤ 2147483647) → x10.toInt = x1.toInt + 1 := tl_add ex10
              refine li_iinc 1 [(2, .int x10), (3, .int x6), (0, .ref (Z.2.2 163)), (1, .int p1)] x10 dX1_fill_57 rfl (by rw [ex10]; rfl) (by decide) rfl ?_
              refine li_goto 2 dX1_fill_60 (by decide) ?_
              refine li_pick [0, 2, 3] [(2, .int x10), (0, .ref (Z.2.2 163)), (1, .int p1)] rfl ?_
              exact ih2 x10 M7 (by omega) hf
            · have tc9 : x6.toInt ≤ x8.toInt := tl_nlt c9
              refine li_aload_n 2 dX1_fill_27 rfl ?_
              refine li_getr (k := 0) (N := 2) (T := TX1) (C0 := RX1) dX1_fill_28 (by decide) sh_163 rfl rfl (by decide) (by decide) li_in1 w_339 ?_
              refine li_iload_n 0 dX1_fill_31 rfl ?_
              refine li_iload_n 1 dX1_fill_32 rfl ?_
              refine li_iload_n 0 dX1_fill_33 rfl ?_
              refine li_isub dX1_fill_34 ?_
              refine li_top (fun x11 ex11 => ?_)
              have tx11 : (-2147483648 ≤ x1.toInt - x6.toInt ∧ x1.toInt - x6.toInt ≤ 2147483647) → x11.toInt = x1.toInt - x6.toInt := tl_sub ex11
              refine li_iload_n 3 dX1_fill_35 rfl ?_
              refine li_callS (n := 3) (As := [.int x6, .int x11, .int p1]) dX1_fill_36 (k_X1_cell (d - 1) (by omega) x6 x11 p1 M7) (by omega) (Nat.le_of_ble_eq_true rfl) w_1139 w_1140 w_111 w_1141 (by decide +kernel) rfl rfl (Nat.le_of_ble_eq_true rfl) (fun r M13 h14 => ?_)
              obtain ⟨⟨x12, rfl⟩, h14⟩ := h14
              have gx12 := tl_rg x12
              have hf := li_fr_trans hf h14 (fun i h => False.elim h)
              refine li_aload_n 2 dX1_fill_39 rfl ?_
              refine li_iload_n 0 dX1_fill_40 rfl ?_
              refine li_iload_n 1 dX1_fill_41 rfl ?_
              refine li_iload_n 0 dX1_fill_42 rfl ?_
              refine li_isub dX1_fill_43 ?_
              refine li_top (fun x15 ex15 => ?_)
              have tx15 : (-2147483648 ≤ x1.toInt - x6.toInt ∧ x1.toInt - x6.toInt ≤ 2147483647) → x15.toInt = x1.toInt - x6.toInt := tl_sub ex15
              refine li_iload_n 3 dX1_fill_44 rfl ?_
              refine li_callV (n := 3) (As := [.int x6, .int x15, .int p1]) dX1_fill_45 (k_X1_mostToWin (d - 1) (by omega) x6 x15 p1 M13) (by omega) (Nat.le_of_ble_eq_true rfl) w_1142 w_1144 w_30 w_111 w_1145 (by decide +kernel) rfl (by decide) sh_163 rfl rfl (Nat.le_of_ble_eq_true rfl) (fun r M17 h18 => ?_)
              obtain ⟨⟨x16, rfl⟩, h18⟩ := h18
              have gx16 := tl_rg x16
              have hf := li_fr_trans hf h18 (fun i h => False.elim h)
              refine li_callN (n := 3) (As := [.ref (Z.2.2 164), .int x12, .int x16]) dX1_fill_48 (k_X11_put (d - 1) (by omega) (by decide) sh_164 (by decide) x12 x16 M17) (by omega) (Nat.le_of_ble_eq_true rfl) nw_33 w_542 w_104 w_543 (by decide +kernel) rfl rfl (Nat.le_of_ble_eq_true rfl) (fun r M20 h21 => ?_)
              obtain ⟨rfl, h21⟩ := h21
              have hf := li_fr_trans hf h21 (fun i (h : i = 164) => (show i = 164 by omega))
              obtain ⟨x22, ex22⟩ : ∃ y : Int32, y = x6 + 1 := ⟨_, rfl⟩
              have tx22 : (-2147483648 ≤ x6.toInt + 1 ∧ x6.toInt + 1 ≤ 2147483647) → x22.toInt = x6.toInt + 1 := tl_add ex22
              refine li_iinc 0 [(3, .int x22), (2, .int x1), (0, .ref (Z.2.2 163)), (1, .int p1)] x22 dX1_fill_51 rfl (by rw [ex22]; rfl) (by decide) rfl ?_
              refine li_goto 17 dX1_fill_54 (by decide) ?_
              refine li_pick [0, 1, 2, 3] [(3, .int x22), (2, .int x1), (0, .ref (Z.2.2 163)), (1, .int p1)] rfl ?_
              exact ih17 x22 M20 (by omega) hf
        exact L17 _ x5 M2 (Nat.lt_succ_self _) hf
  have z0 : (0 : Int32).toInt = 0 := rfl
  exact L2 _ 0 M0 (Nat.lt_succ_self _) hf
set_option maxRecDepth 100000 in
set_option maxHeartbeats 4000000 in
theorem k_X1_fewestToWin {l : Launch} {Z : li_Z} (d : Nat) (hd : 5 ≤ d) (p1 p2 p3 : Int32) (h3 : p3.toInt ≤ 9) (M0 : li_M) : li_Met l Z YX1_fewestToWin d [.ref (Z.2.2 163), .int p1, .int p2, .int p3] M0 (li_SI (fun i => i = 163 ∨ i = 164) M0) := by
  refine li_enter (by decide +kernel) (Nat.le_of_ble_eq_true rfl) ?_
  show li_T l Z YX1_fewestToWin d 0 [(0, .ref (Z.2.2 163)), (1, .int p1), (2, .int p2), (3, .int p3)] [] M0 _
  have hf : li_fr (fun i => i = 163 ∨ i = 164) M0 M0 := li_fr_refl
  have gp1 := tl_rg p1
  have gp2 := tl_rg p2
  have gp3 := tl_rg p3
  refine li_aload_n 0 dX1_fewestToWin_0 rfl ?_
  refine li_geti (k := 1) (N := 2) (T := TX1) (C0 := RX1) dX1_fewestToWin_1 (by decide) sh_163 rfl rfl (by decide) li_in1 w_340 ?_
  refine li_top (fun x1 ex1 => ?_)
  have gx1 := tl_rg x1
  refine li_iload_n 3 dX1_fewestToWin_4 rfl ?_
  refine li_callN (n := 2) (As := [.int x1, .int p3]) dX1_fewestToWin_5 (k_X11_holds (d - 1) (by omega) x1 p3 M0) (by omega) (Nat.le_of_ble_eq_true rfl) nw_31 w_877 w_104 w_878 (by decide +kernel) rfl rfl (Nat.le_of_ble_eq_true rfl) (fun r M3 h4 => ?_)
  obtain ⟨⟨x2, rfl, bx2⟩, h4⟩ := h4
  have ux2 := tl_b bx2
  have hf := li_fr_trans hf h4 (fun i h => False.elim h)
  have J28 : ∀  (M6 : li_M), li_fr (fun i => i = 163 ∨ i = 164) M0 M6 → li_T l Z YX1_fewestToWin d 28 [(0, .ref (Z.2.2 163)), (1, .int p1), (2, .int p2), (3, .int p3)] [] M6 (li_SI (fun i => i = 163 ∨ i = 164) M0) := by
    intro  M6 hf
    refine li_iload_n 1 dX1_fewestToWin_28 rfl ?_
    refine li_iload_n 3 dX1_fewestToWin_29 rfl ?_
    refine li_mmin dX1_fewestToWin_30 (by omega) w_1138 w_746 w_117 w_747 (Nat.le_of_ble_eq_true rfl) ?_
    refine li_top (fun x7 ex7 => ?_)
    have tx7 : (p3.toInt < p1.toInt → x7.toInt = p3.toInt) ∧ (p1.toInt ≤ p3.toInt → x7.toInt = p1.toInt) := tl_min ex7
    refine li_istore [(4, .int x7), (0, .ref (Z.2.2 163)), (1, .int p1), (2, .int p2), (3, .int p3)] dX1_fewestToWin_33 (by decide) rfl ?_
    refine li_iconst 1 dX1_fewestToWin_35 (by decide) ?_
    refine li_istore [(5, .int 1), (4, .int x7), (0, .ref (Z.2.2 163)), (1, .int p1), (2, .int p2), (3, .int p3)] dX1_fewestToWin_36 (by decide) rfl ?_
    have L38 : ∀ (n : Nat) (x8 : Int32) (M9 : li_M), (10 - (x8 : Int32).toInt).toNat < n → li_fr (fun i => i = 163 ∨ i = 164) M0 M9 → li_T l Z YX1_fewestToWin d 38 [(5, .int x8), (4, .int x7), (0, .ref (Z.2.2 163)), (1, .int p1), (2, .int p2), (3, .int p3)] [] M9 (li_SI (fun i => i = 163 ∨ i = 164) M0) := by
      intro n
      induction n with
      | zero => intro x8 M9 hn; exact absurd hn (Nat.not_lt_zero _)
      | succ n ih38 =>
        intro x8 M9 hn hf
        have gx8 := tl_rg x8
        refine li_iload 0 dX1_fewestToWin_38 rfl ?_
        refine li_iload 1 dX1_fewestToWin_40 rfl ?_
        refine li_icmp_gt 66 dX1_fewestToWin_42 (by decide) (fun c10 => ?_) (fun c10 => ?_)
        · have tc10 : x7.toInt < x8.toInt := tl_lt c10
          refine li_iconst 0 dX1_fewestToWin_66 (by decide) ?_
          exact li_iret dX1_fewestToWin_67 rfl rfl ⟨⟨_, rfl⟩, hf⟩
        · have tc10 : x8.toInt ≤ x7.toInt := tl_nlt c10
          refine li_aload_n 2 dX1_fewestToWin_45 rfl ?_
          refine li_iload_n 3 dX1_fewestToWin_46 rfl ?_
          refine li_iload_n 4 dX1_fewestToWin_47 rfl ?_
          refine li_iload 0 dX1_fewestToWin_48 rfl ?_
          refine li_iload_n 5 dX1_fewestToWin_50 rfl ?_
          refine li_callV (n := 4) (As := [.int p1, .int p2, .int x8, .int p3]) dX1_fewestToWin_51 (k_X1_wins (d - 1) (by omega) p1 p2 x8 p3 M9) (by omega) (Nat.le_of_ble_eq_true rfl) w_1146 w_1148 w_31 w_111 w_1149 (by decide +kernel) rfl (by decide) sh_163 rfl rfl (Nat.le_of_ble_eq_true rfl) (fun r M12 h13 => ?_)
          obtain ⟨⟨x11, rfl, bx11⟩, h13⟩ := h13
          have ux11 := tl_b bx11
          have hf := li_fr_trans hf h13 (fun i h => False.elim h)
          refine li_if_eq 60 dX1_fewestToWin_54 (by decide) (fun c14 => ?_) (fun c14 => ?_)
          · have tc14 : x11.toInt = 0 := tl_eq c14
            obtain ⟨x15, ex15⟩ : ∃ y : Int32, y = x8 + 1 := ⟨_, rfl⟩
            have tx15 : (-2147483648 ≤ x8.toInt + 1 ∧ x8.toInt + 1 ≤ 2147483647) → x15.toInt = x8.toInt + 1 := tl_add ex15
            refine li_iinc 0 [(5, .int x15), (4, .int x7), (0, .ref (Z.2.2 163)), (1, .int p1), (2, .int p2), (3, .int p3)] x15 dX1_fewestToWin_60 rfl (by rw [ex15]; rfl) (by decide) rfl ?_
            refine li_goto 38 dX1_fewestToWin_63 (by decide) ?_
            refine li_pick [0, 1, 2, 3, 4, 5] [(5, .int x15), (4, .int x7), (0, .ref (Z.2.2 163)), (1, .int p1), (2, .int p2), (3, .int p3)] rfl ?_
            exact ih38 x15 M12 (by omega) hf
          · have tc14 : ¬ x11.toInt = 0 := tl_ne c14
            refine li_iload 0 dX1_fewestToWin_57 rfl ?_
            exact li_iret dX1_fewestToWin_59 rfl rfl ⟨⟨_, rfl⟩, hf⟩
    have z1 : (1 : Int32).toInt = 1 := rfl
    exact L38 _ 1 M6 (Nat.lt_succ_self _) hf
  refine li_if_ne 28 dX1_fewestToWin_8 (by decide) (fun c5 => ?_) (fun c5 => ?_)
  · have tc5 : ¬ x2.toInt = 0 := tl_ne c5
    refine li_pick [0, 1, 2, 3] [(0, .ref (Z.2.2 163)), (1, .int p1), (2, .int p2), (3, .int p3)] rfl ?_
    exact J28  M3 hf
  · have tc5 : x2.toInt = 0 := tl_eq c5
    refine li_aload_n 0 dX1_fewestToWin_11 rfl ?_
    refine li_iload_n 3 dX1_fewestToWin_12 rfl ?_
    refine li_callV (n := 1) (As := [.int p3]) dX1_fewestToWin_13 (k_X1_fill (d - 1) (by omega) p3 M3) (by omega) (Nat.le_of_ble_eq_true rfl) w_1133 w_1135 w_29 w_111 w_1136 (by decide +kernel) rfl (by decide) sh_163 rfl rfl (Nat.le_of_ble_eq_true rfl) (fun r M17 h18 => ?_)
    obtain ⟨rfl, h18⟩ := h18
    have hf := li_fr_trans hf h18 (fun i (h : i = 164) => (show i = 163 ∨ i = 164 by omega))
    refine li_aload_n 0 dX1_fewestToWin_16 rfl ?_
    refine li_dup dX1_fewestToWin_17 rfl ?_
    refine li_geti (k := 1) (N := 2) (T := TX1) (C0 := RX1) dX1_fewestToWin_18 (by decide) sh_163 rfl rfl (by decide) li_in1 w_340 ?_
    refine li_top (fun x19 ex19 => ?_)
    have gx19 := tl_rg x19
    refine li_iconst 1 dX1_fewestToWin_21 (by decide) ?_
    refine li_iload_n 3 dX1_fewestToWin_22 rfl ?_
    refine li_ishl dX1_fewestToWin_23 ?_
    refine li_top (fun x20 ex20 => ?_)
    refine li_ior dX1_fewestToWin_24 ?_
    refine li_top (fun x21 ex21 => ?_)
    refine li_puti (k := 1) (N := 2) (T := TX1) (C0 := RX1) dX1_fewestToWin_25 (by decide) sh_163 rfl rfl (by decide) li_in1 tyX1_ok nmX1 rfl rfl rfl rfl w_340 ?_
    refine li_nm (fun M22 eM22 => ?_)
    have hf := li_fr_ui hf (show 163 = 163 ∨ 163 = 164 by omega) eM22
    have k23 : M22.1 163 1 = x21 := by rw [eM22, li_ui_at, if_pos rfl, if_pos rfl]
    refine li_pick [0, 1, 2, 3] [(0, .ref (Z.2.2 163)), (1, .int p1), (2, .int p2), (3, .int p3)] rfl ?_
    exact J28  M22 hf
