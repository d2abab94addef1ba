theorem li_hr_in {M : li_M} {x1 x2 x4 x5 x8 x9 x10 : Int32} {q : Nat} (e1 : x1 = M.1 175 14) (e2 : x2 = M.1 175 12) (c3 : ¬ x2 ≤ x1) (e4 : x4 = M.1 175 14) (e5 : x5 = M.1 175 13) (c6 : ¬ x5 ≤ x4) (hq : M.2.2 0 = some q) (e8 : x8 = M.1 175 14) (e9 : x9 = M.1 q x8.toNatClampNeg) (e10 : x10 = x9 &&& 255) : x10 = li_hr M := by
  subst e1 e2 e4 e5 e8 e9 e10
  unfold li_hr li_rc
  rw [if_pos ⟨li_gt c3, li_gt c6⟩, hq]
  rfl
theorem li_hr_no1 {M : li_M} {x1 x2 : Int32} (e1 : x1 = M.1 175 14) (e2 : x2 = M.1 175 12) (c3 : x2 ≤ x1) : (-1 : Int32) = li_hr M := by
  subst e1 e2
  unfold li_hr
  rw [if_neg (fun h => absurd h.1 (Int32.not_lt.mpr c3))]
theorem li_hr_no2 {M : li_M} {x4 x5 : Int32} (e4 : x4 = M.1 175 14) (e5 : x5 = M.1 175 13) (c6 : x5 ≤ x4) : (-1 : Int32) = li_hr M := by
  subst e4 e5
  unfold li_hr
  rw [if_neg (fun h => absurd h.2 (Int32.not_lt.mpr c6))]
theorem w_43 : (Jvm.Cond.selects "ClockForTalkModel" ({ cls := "ClockForTalkModel", name := "fine", desc := "()Z" } : Jvm.MethodName) ({ cls := "ClockForTalkModel", name := "fine", desc := "()Z" } : Jvm.MethodName)) ∈ li_ws := li_mem 43 (by decide +kernel) (by decide +kernel)
theorem w_44 : (Jvm.Cond.selects "ClockForTalkModel" ({ cls := "ClockForTalkModel", name := "fault", desc := "(I)V" } : Jvm.MethodName) ({ cls := "ClockForTalkModel", name := "fault", desc := "(I)V" } : Jvm.MethodName)) ∈ li_ws := li_mem 44 (by decide +kernel) (by decide +kernel)
theorem w_47 : (Jvm.Cond.selects "ClockForTalkModel" ({ cls := "ClockForTalkModel", name := "here", desc := "()I" } : Jvm.MethodName) ({ cls := "ClockForTalkModel", name := "here", desc := "()I" } : Jvm.MethodName)) ∈ li_ws := li_mem 47 (by decide +kernel) (by decide +kernel)
theorem w_49 : (Jvm.Cond.selects "ClockForTalkModel" ({ cls := "ClockForTalkModel", name := "passes", desc := "(C)Z" } : Jvm.MethodName) ({ cls := "ClockForTalkModel", name := "passes", desc := "(C)Z" } : Jvm.MethodName)) ∈ li_ws := li_mem 49 (by decide +kernel) (by decide +kernel)
theorem w_1415 : (Jvm.Cond.fieldLink "ClockForTalkModel" (127 : Nat) "ClockForTalkModel" "read" "[B") ∈ li_ws := li_mem 1415 (by decide +kernel) (by decide +kernel)
theorem w_1416 : (Jvm.Cond.fieldLink "ClockForTalkModel" (130 : Nat) "ClockForTalkModel" "length" "I") ∈ li_ws := li_mem 1416 (by decide +kernel) (by decide +kernel)
theorem w_1417 : (Jvm.Cond.fieldLink "ClockForTalkModel" (133 : Nat) "ClockForTalkModel" "top" "I") ∈ li_ws := li_mem 1417 (by decide +kernel) (by decide +kernel)
theorem w_1418 : (Jvm.Cond.fieldLink "ClockForTalkModel" (136 : Nat) "ClockForTalkModel" "at" "I") ∈ li_ws := li_mem 1418 (by decide +kernel) (by decide +kernel)
theorem w_1581 : (Jvm.Cond.methodLink "ClockForTalkModel" (142 : Nat) ({ cls := "ClockForTalkModel", name := "fine", desc := "()Z" } : Jvm.MethodName)) ∈ li_ws := li_mem 1581 (by decide +kernel) (by decide +kernel)
theorem w_1583 : (Jvm.Cond.instanceMethod ({ cls := "ClockForTalkModel", name := "fine", desc := "()Z" } : Jvm.MethodName)) ∈ li_ws := li_mem 1583 (by decide +kernel) (by decide +kernel)
theorem w_1584 : (Jvm.Cond.code ({ cls := "ClockForTalkModel", name := "fine", desc := "()Z" } : Jvm.MethodName) prog_13_method_14_code (1 : Nat) (Option.some Jvm.ClassFile.FieldType.boolean)) ∈ li_ws := li_mem 1584 (by decide +kernel) (by decide +kernel)
theorem w_1585 : (Jvm.Cond.methodLink "ClockForTalkModel" (154 : Nat) ({ cls := "ClockForTalkModel", name := "fault", desc := "(I)V" } : Jvm.MethodName)) ∈ li_ws := li_mem 1585 (by decide +kernel) (by decide +kernel)
theorem w_1587 : (Jvm.Cond.instanceMethod ({ cls := "ClockForTalkModel", name := "fault", desc := "(I)V" } : Jvm.MethodName)) ∈ li_ws := li_mem 1587 (by decide +kernel) (by decide +kernel)
theorem w_1588 : (Jvm.Cond.code ({ cls := "ClockForTalkModel", name := "fault", desc := "(I)V" } : Jvm.MethodName) prog_13_method_15_code (2 : Nat) (Option.none : Option Jvm.ClassFile.FieldType)) ∈ li_ws := li_mem 1588 (by decide +kernel) (by decide +kernel)
theorem w_1597 : (Jvm.Cond.methodLink "ClockForTalkModel" (146 : Nat) ({ cls := "ClockForTalkModel", name := "here", desc := "()I" } : Jvm.MethodName)) ∈ li_ws := li_mem 1597 (by decide +kernel) (by decide +kernel)
theorem w_1599 : (Jvm.Cond.instanceMethod ({ cls := "ClockForTalkModel", name := "here", desc := "()I" } : Jvm.MethodName)) ∈ li_ws := li_mem 1599 (by decide +kernel) (by decide +kernel)
theorem w_1600 : (Jvm.Cond.code ({ cls := "ClockForTalkModel", name := "here", desc := "()I" } : Jvm.MethodName) prog_13_method_13_code (1 : Nat) (Option.some Jvm.ClassFile.FieldType.int)) ∈ li_ws := li_mem 1600 (by decide +kernel) (by decide +kernel)
theorem w_1605 : (Jvm.Cond.methodLink "ClockForTalkModel" (150 : Nat) ({ cls := "ClockForTalkModel", name := "passes", desc := "(C)Z" } : Jvm.MethodName)) ∈ li_ws := li_mem 1605 (by decide +kernel) (by decide +kernel)
theorem w_1607 : (Jvm.Cond.instanceMethod ({ cls := "ClockForTalkModel", name := "passes", desc := "(C)Z" } : Jvm.MethodName)) ∈ li_ws := li_mem 1607 (by decide +kernel) (by decide +kernel)
theorem w_1608 : (Jvm.Cond.code ({ cls := "ClockForTalkModel", name := "passes", desc := "(C)Z" } : Jvm.MethodName) prog_13_method_16_code (2 : Nat) (Option.some Jvm.ClassFile.FieldType.boolean)) ∈ li_ws := li_mem 1608 (by decide +kernel) (by decide +kernel)
theorem dX12_here_0 : decode cX12_here 0 = .ok (.aload_n 0, 1) := by decide +kernel
theorem dX12_here_1 : decode cX12_here 1 = .ok (.getfield 136, 3) := by decide +kernel
theorem dX12_here_4 : decode cX12_here 4 = .ok (.aload_n 0, 1) := by decide +kernel
theorem dX12_here_5 : decode cX12_here 5 = .ok (.getfield 130, 3) := by decide +kernel
theorem dX12_here_8 : decode cX12_here 8 = .ok (.if_icmp .ge 30, 3) := by decide +kernel
theorem dX12_here_11 : decode cX12_here 11 = .ok (.aload_n 0, 1) := by decide +kernel
theorem dX12_here_12 : decode cX12_here 12 = .ok (.getfield 136, 3) := by decide +kernel
theorem dX12_here_15 : decode cX12_here 15 = .ok (.aload_n 0, 1) := by decide +kernel
theorem dX12_here_16 : decode cX12_here 16 = .ok (.getfield 133, 3) := by decide +kernel
theorem dX12_here_19 : decode cX12_here 19 = .ok (.if_icmp .ge 19, 3) := by decide +kernel
theorem dX12_here_22 : decode cX12_here 22 = .ok (.aload_n 0, 1) := by decide +kernel
theorem dX12_here_23 : decode cX12_here 23 = .ok (.getfield 127, 3) := by decide +kernel
theorem dX12_here_26 : decode cX12_here 26 = .ok (.aload_n 0, 1) := by decide +kernel
theorem dX12_here_27 : decode cX12_here 27 = .ok (.getfield 136, 3) := by decide +kernel
theorem dX12_here_30 : decode cX12_here 30 = .ok (.baload, 1) := by decide +kernel
theorem dX12_here_31 : decode cX12_here 31 = .ok (.sipush 255, 3) := by decide +kernel
theorem dX12_here_34 : decode cX12_here 34 = .ok (.iand, 1) := by decide +kernel
theorem dX12_here_35 : decode cX12_here 35 = .ok (.goto 4, 3) := by decide +kernel
theorem dX12_here_38 : decode cX12_here 38 = .ok (.iconst (-1), 1) := by decide +kernel
theorem dX12_here_39 : decode cX12_here 39 = .ok (.ireturn, 1) := by decide +kernel
abbrev YX12_here : li_Y := (yX12_here, cX12_here, 1, (some .int))
theorem dX12_fault_0 : decode cX12_fault 0 = .ok (.aload_n 0, 1) := by decide +kernel
theorem dX12_fault_1 : decode cX12_fault 1 = .ok (.invokevirtual 142, 3) := by decide +kernel
theorem dX12_fault_4 : decode cX12_fault 4 = .ok (.ifCond .eq 8, 3) := by decide +kernel
theorem dX12_fault_7 : decode cX12_fault 7 = .ok (.aload_n 0, 1) := by decide +kernel
theorem dX12_fault_8 : decode cX12_fault 8 = .ok (.iload_n 1, 1) := by decide +kernel
theorem dX12_fault_9 : decode cX12_fault 9 = .ok (.putfield 139, 3) := by decide +kernel
theorem dX12_fault_12 : decode cX12_fault 12 = .ok (.return_, 1) := by decide +kernel
abbrev YX12_fault : li_Y := (yX12_fault, cX12_fault, 2, none)
theorem dX12_passes_0 : decode cX12_passes 0 = .ok (.aload_n 0, 1) := by decide +kernel
theorem dX12_passes_1 : decode cX12_passes 1 = .ok (.invokevirtual 142, 3) := by decide +kernel
theorem dX12_passes_4 : decode cX12_passes 4 = .ok (.ifCond .eq 11, 3) := by decide +kernel
theorem dX12_passes_7 : decode cX12_passes 7 = .ok (.aload_n 0, 1) := by decide +kernel
theorem dX12_passes_8 : decode cX12_passes 8 = .ok (.invokevirtual 146, 3) := by decide +kernel
theorem dX12_passes_11 : decode cX12_passes 11 = .ok (.iload_n 1, 1) := by decide +kernel
theorem dX12_passes_12 : decode cX12_passes 12 = .ok (.if_icmp .eq 5, 3) := by decide +kernel
theorem dX12_passes_15 : decode cX12_passes 15 = .ok (.iconst 0, 1) := by decide +kernel
theorem dX12_passes_16 : decode cX12_passes 16 = .ok (.ireturn, 1) := by decide +kernel
theorem dX12_passes_17 : decode cX12_passes 17 = .ok (.aload_n 0, 1) := by decide +kernel
theorem dX12_passes_18 : decode cX12_passes 18 = .ok (.dup, 1) := by decide +kernel
theorem dX12_passes_19 : decode cX12_passes 19 = .ok (.getfield 136, 3) := by decide +kernel
theorem dX12_passes_22 : decode cX12_passes 22 = .ok (.iconst 1, 1) := by decide +kernel
theorem dX12_passes_23 : decode cX12_passes 23 = .ok (.iadd, 1) := by decide +kernel
theorem dX12_passes_24 : decode cX12_passes 24 = .ok (.putfield 136, 3) := by decide +kernel
theorem dX12_passes_27 : decode cX12_passes 27 = .ok (.iconst 1, 1) := by decide +kernel
theorem dX12_passes_28 : decode cX12_passes 28 = .ok (.ireturn, 1) := by decide +kernel
abbrev YX12_passes : li_Y := (yX12_passes, cX12_passes, 2, (some .boolean))
theorem dX12_need_0 : decode cX12_need 0 = .ok (.aload_n 0, 1) := by decide +kernel
theorem dX12_need_1 : decode cX12_need 1 = .ok (.iload_n 1, 1) := by decide +kernel
theorem dX12_need_2 : decode cX12_need 2 = .ok (.invokevirtual 150, 3) := by decide +kernel
theorem dX12_need_5 : decode cX12_need 5 = .ok (.ifCond .ne 11, 3) := by decide +kernel
theorem dX12_need_8 : decode cX12_need 8 = .ok (.aload_n 0, 1) := by decide +kernel
theorem dX12_need_9 : decode cX12_need 9 = .ok (.aload_n 0, 1) := by decide +kernel
theorem dX12_need_10 : decode cX12_need 10 = .ok (.getfield 136, 3) := by decide +kernel
theorem dX12_need_13 : decode cX12_need 13 = .ok (.invokevirtual 154, 3) := by decide +kernel
theorem dX12_need_16 : decode cX12_need 16 = .ok (.return_, 1) := by decide +kernel
abbrev YX12_need : li_Y := (yX12_need, cX12_need, 2, none)
theorem dX12_oneOf_0 : decode cX12_oneOf 0 = .ok (.aload_n 0, 1) := by decide +kernel
theorem dX12_oneOf_1 : decode cX12_oneOf 1 = .ok (.invokevirtual 142, 3) := by decide +kernel
theorem dX12_oneOf_4 : decode cX12_oneOf 4 = .ok (.ifCond .ne 5, 3) := by decide +kernel
theorem dX12_oneOf_7 : decode cX12_oneOf 7 = .ok (.iconst 0, 1) := by decide +kernel
theorem dX12_oneOf_8 : decode cX12_oneOf 8 = .ok (.ireturn, 1) := by decide +kernel
theorem dX12_oneOf_9 : decode cX12_oneOf 9 = .ok (.aload_n 0, 1) := by decide +kernel
theorem dX12_oneOf_10 : decode cX12_oneOf 10 = .ok (.invokevirtual 146, 3) := by decide +kernel
theorem dX12_oneOf_13 : decode cX12_oneOf 13 = .ok (.iload_n 1, 1) := by decide +kernel
theorem dX12_oneOf_14 : decode cX12_oneOf 14 = .ok (.iload_n 1, 1) := by decide +kernel
theorem dX12_oneOf_15 : decode cX12_oneOf 15 = .ok (.iload_n 2, 1) := by decide +kernel
theorem dX12_oneOf_16 : decode cX12_oneOf 16 = .ok (.iadd, 1) := by decide +kernel
theorem dX12_oneOf_17 : decode cX12_oneOf 17 = .ok (.iconst 1, 1) := by decide +kernel
theorem dX12_oneOf_18 : decode cX12_oneOf 18 = .ok (.isub, 1) := by decide +kernel
theorem dX12_oneOf_19 : decode cX12_oneOf 19 = .ok (.invokestatic 113, 3) := by decide +kernel
theorem dX12_oneOf_22 : decode cX12_oneOf 22 = .ok (.ifCond .eq 13, 3) := by decide +kernel
theorem dX12_oneOf_25 : decode cX12_oneOf 25 = .ok (.aload_n 0, 1) := by decide +kernel
theorem dX12_oneOf_26 : decode cX12_oneOf 26 = .ok (.invokevirtual 146, 3) := by decide +kernel
theorem dX12_oneOf_29 : decode cX12_oneOf 29 = .ok (.iload_n 1, 1) := by decide +kernel
theorem dX12_oneOf_30 : decode cX12_oneOf 30 = .ok (.isub, 1) := by decide +kernel
theorem dX12_oneOf_31 : decode cX12_oneOf 31 = .ok (.iload_n 3, 1) := by decide +kernel
theorem dX12_oneOf_32 : decode cX12_oneOf 32 = .ok (.if_icmp .ne 13, 3) := by decide +kernel
theorem dX12_oneOf_35 : decode cX12_oneOf 35 = .ok (.aload_n 0, 1) := by decide +kernel
theorem dX12_oneOf_36 : decode cX12_oneOf 36 = .ok (.aload_n 0, 1) := by decide +kernel
theorem dX12_oneOf_37 : decode cX12_oneOf 37 = .ok (.getfield 136, 3) := by decide +kernel
theorem dX12_oneOf_40 : decode cX12_oneOf 40 = .ok (.invokevirtual 154, 3) := by decide +kernel
theorem dX12_oneOf_43 : decode cX12_oneOf 43 = .ok (.iconst 0, 1) := by decide +kernel
theorem dX12_oneOf_44 : decode cX12_oneOf 44 = .ok (.ireturn, 1) := by decide +kernel
theorem dX12_oneOf_45 : decode cX12_oneOf 45 = .ok (.aload_n 0, 1) := by decide +kernel
theorem dX12_oneOf_46 : decode cX12_oneOf 46 = .ok (.dup, 1) := by decide +kernel
theorem dX12_oneOf_47 : decode cX12_oneOf 47 = .ok (.getfield 136, 3) := by decide +kernel
theorem dX12_oneOf_50 : decode cX12_oneOf 50 = .ok (.iconst 1, 1) := by decide +kernel
theorem dX12_oneOf_51 : decode cX12_oneOf 51 = .ok (.iadd, 1) := by decide +kernel
theorem dX12_oneOf_52 : decode cX12_oneOf 52 = .ok (.putfield 136, 3) := by decide +kernel
theorem dX12_oneOf_55 : decode cX12_oneOf 55 = .ok (.aload_n 0, 1) := by decide +kernel
theorem dX12_oneOf_56 : decode cX12_oneOf 56 = .ok (.getfield 127, 3) := by decide +kernel
theorem dX12_oneOf_59 : decode cX12_oneOf 59 = .ok (.aload_n 0, 1) := by decide +kernel
theorem dX12_oneOf_60 : decode cX12_oneOf 60 = .ok (.getfield 136, 3) := by decide +kernel
theorem dX12_oneOf_63 : decode cX12_oneOf 63 = .ok (.iconst 1, 1) := by decide +kernel
theorem dX12_oneOf_64 : decode cX12_oneOf 64 = .ok (.isub, 1) := by decide +kernel
theorem dX12_oneOf_65 : decode cX12_oneOf 65 = .ok (.baload, 1) := by decide +kernel
theorem dX12_oneOf_66 : decode cX12_oneOf 66 = .ok (.iload_n 1, 1) := by decide +kernel
theorem dX12_oneOf_67 : decode cX12_oneOf 67 = .ok (.isub, 1) := by decide +kernel
theorem dX12_oneOf_68 : decode cX12_oneOf 68 = .ok (.ireturn, 1) := by decide +kernel
abbrev YX12_oneOf : li_Y := (yX12_oneOf, cX12_oneOf, 4, (some .int))
set_option maxRecDepth 100000 in
set_option maxHeartbeats 4000000 in
theorem k_X12_here {l : Launch} {Z : li_Z} (d : Nat) (hd : 1 ≤ d) (M0 : li_M) (hJ : li_J M0) : li_Met l Z YX12_here d [.ref (Z.2.2 175)] M0 (fun r M' => (∃ x : Int32, r = some (.int x) ∧ ((x.toInt = -1 ∨ 0 ≤ x.toInt) ∧ x.toInt ≤ 255 ∧ (0 ≤ x.toInt → (M0.1 175 14).toInt < (M0.1 175 12).toInt ∧ (M0.1 175 14).toInt < (M0.1 175 13).toInt) ∧ x.toInt = (li_hr M0).toInt)) ∧ li_fs (fun i k => False) M0 M' ∧ li_J M') := by
  refine li_enter (by decide +kernel) (Nat.le_of_ble_eq_true rfl) ?_
  show li_T l Z YX12_here d 0 [(0, .ref (Z.2.2 175))] [] M0 _
  have hf : li_fs (fun i k => False) M0 M0 := li_fs_refl
  have rM0_12 := J_sl12 (M := M0) hJ
  have rM0_13 := J_sl13 (M := M0) hJ
  have rM0_14 := J_sl14 (M := M0) hJ
  refine li_aload_n 0 dX12_here_0 rfl ?_
  refine li_geti (k := 14) (N := 52) (T := TX12) (C0 := RX12) dX12_here_1 (by decide) sh_175 rfl rfl (by decide) li_in12 w_1418 ?_
  refine li_top (fun x1 ex1 => ?_)
  have gx1 : 0 ≤ x1.toInt ∧ x1.toInt ≤ 81 := by rw [ex1]; exact J_sl14 hJ
  have mx1 : x1.toInt = (M0.1 175 14).toInt := tl_slot ex1
  have sx1 : x1.toInt = (M0.1 175 14).toInt := tl_slot (ex1.trans (hf.1 175 14 id))
  refine li_aload_n 0 dX12_here_4 rfl ?_
  refine li_geti (k := 12) (N := 52) (T := TX12) (C0 := RX12) dX12_here_5 (by decide) sh_175 rfl rfl (by decide) li_in12 w_1416 ?_
  refine li_top (fun x2 ex2 => ?_)
  have gx2 : 0 ≤ x2.toInt ∧ x2.toInt ≤ 80 := by rw [ex2]; exact J_sl12 hJ
  have mx2 : x2.toInt = (M0.1 175 12).toInt := tl_slot ex2
  have sx2 : x2.toInt = (M0.1 175 12).toInt := tl_slot (ex2.trans (hf.1 175 12 id))
  refine li_icmp_ge 38 dX12_here_8 (by decide) (fun c3 => ?_) (fun c3 => ?_)
  · have tc3 : x2.toInt ≤ x1.toInt := tl_le c3
    refine li_iconst (-1) dX12_here_38 (by decide) ?_
    have zm1 : ((-1) : Int32).toInt = -1 := rfl
    exact li_iret dX12_here_39 rfl rfl ⟨⟨_, rfl, ⟨by omega, by omega, fun _ => by omega, by first | exact tl_eq (li_hr_in ex1 ex2 c3 ex4 ex5 c6 hq7 ex8 ex9 ex10) | exact tl_eq (li_hr_no1 ex1 ex2 c3) | exact tl_eq (li_hr_no2 ex4 ex5 c6)⟩⟩, hf, hJ⟩
  · have tc3 : x1.toInt < x2.toInt := tl_nle c3
    refine li_aload_n 0 dX12_here_11 rfl ?_
    refine li_geti (k := 14) (N := 52) (T := TX12) (C0 := RX12) dX12_here_12 (by decide) sh_175 rfl rfl (by decide) li_in12 w_1418 ?_
    refine li_top (fun x4 ex4 => ?_)
    have gx4 : 0 ≤ x4.toInt ∧ x4.toInt ≤ 81 := by rw [ex4]; exact J_sl14 hJ
    have mx4 : x4.toInt = (M0.1 175 14).toInt := tl_slot ex4
    have sx4 : x4.toInt = (M0.1 175 14).toInt := tl_slot (ex4.trans (hf.1 175 14 id))
    refine li_aload_n 0 dX12_here_15 rfl ?_
    refine li_geti (k := 13) (N := 52) (T := TX12) (C0 := RX12) dX12_here_16 (by decide) sh_175 rfl rfl (by decide) li_in12 w_1417 ?_
    refine li_top (fun x5 ex5 => ?_)
    have gx5 : 0 ≤ x5.toInt ∧ x5.toInt ≤ 80 := by rw [ex5]; exact J_sl13 hJ
    have mx5 : x5.toInt = (M0.1 175 13).toInt := tl_slot ex5
    have sx5 : x5.toInt = (M0.1 175 13).toInt := tl_slot (ex5.trans (hf.1 175 13 id))
    refine li_icmp_ge 38 dX12_here_19 (by decide) (fun c6 => ?_) (fun c6 => ?_)
    · have tc6 : x5.toInt ≤ x4.toInt := tl_le c6
      refine li_iconst (-1) dX12_here_38 (by decide) ?_
      have zm1 : ((-1) : Int32).toInt = -1 := rfl
      exact li_iret dX12_here_39 rfl rfl ⟨⟨_, rfl, ⟨by omega, by omega, fun _ => by omega, by first | exact tl_eq (li_hr_in ex1 ex2 c3 ex4 ex5 c6 hq7 ex8 ex9 ex10) | exact tl_eq (li_hr_no1 ex1 ex2 c3) | exact tl_eq (li_hr_no2 ex4 ex5 c6)⟩⟩, hf, hJ⟩
    · have tc6 : x4.toInt < x5.toInt := tl_nle c6
      refine li_aload_n 0 dX12_here_22 rfl ?_
      obtain ⟨q7, hq7, rq7, nq7⟩ := hJ.read (by omega)
      refine li_getm (r := 0) (k := 11) (N := 52) (T := TX12) (C0 := RX12) dX12_here_23 (by decide) sh_175 rfl rfl hq7 (by decide) li_in12 w_1415 ?_
      refine li_aload_n 0 dX12_here_26 rfl ?_
      refine li_geti (k := 14) (N := 52) (T := TX12) (C0 := RX12) dX12_here_27 (by decide) sh_175 rfl rfl (by decide) li_in12 w_1418 ?_
      refine li_top (fun x8 ex8 => ?_)
      have gx8 : 0 ≤ x8.toInt ∧ x8.toInt ≤ 81 := by rw [ex8]; exact J_sl14 hJ
      have mx8 : x8.toInt = (M0.1 175 14).toInt := tl_slot ex8
      have sx8 : x8.toInt = (M0.1 175 14).toInt := tl_slot (ex8.trans (hf.1 175 14 id))
      refine li_bald dX12_here_30 (snQ rq7) (shQ rq7) (tl_in (by omega)) ?_
      refine li_top (fun x9 ex9 => ?_)
      have gx9 := tl_rg x9
      refine li_sipush 255 dX12_here_31 (by decide) ?_
      refine li_iand dX12_here_34 ?_
      refine li_top (fun x10 ex10 => ?_)
      have z255 : (255 : Int32).toInt = 255 := rfl
      have tx10 := tl_and255 ex10
      refine li_goto 39 dX12_here_35 (by decide) ?_
      exact li_iret dX12_here_39 rfl rfl ⟨⟨_, rfl, ⟨by omega, by omega, fun _ => by omega, by first | exact tl_eq (li_hr_in ex1 ex2 c3 ex4 ex5 c6 hq7 ex8 ex9 ex10) | exact tl_eq (li_hr_no1 ex1 ex2 c3) | exact tl_eq (li_hr_no2 ex4 ex5 c6)⟩⟩, hf, hJ⟩
set_option maxRecDepth 100000 in
set_option maxHeartbeats 4000000 in
theorem k_X12_fault {l : Launch} {Z : li_Z} (d : Nat) (hd : 2 ≤ d) (p1 : Int32) (M0 : li_M) (hJ : li_J M0) (h1 : 0 ≤ p1.toInt ∧ p1.toInt ≤ 81) : li_Met l Z YX12_fault d [.ref (Z.2.2 175), .int p1] M0 (fun r M' => r = none ∧ li_fs (fun i k => (i = 175 ∧ k = 15)) M0 M' ∧ li_J M' ∧ (((M0.1 175 15).toInt = -1 → (M'.1 175 15).toInt = p1.toInt) ∧ (¬ (M0.1 175 15).toInt = -1 → (M'.1 175 15).toInt = (M0.1 175 15).toInt))) := by
  refine li_enter (by decide +kernel) (Nat.le_of_ble_eq_true rfl) ?_
  show li_T l Z YX12_fault d 0 [(0, .ref (Z.2.2 175)), (1, .int p1)] [] M0 _
  have hf : li_fs (fun i k => (i = 175 ∧ k = 15)) M0 M0 := li_fs_refl
  have gp1 := tl_rg p1
  have rM0_15 := J_sl15 (M := M0) hJ
  refine li_aload_n 0 dX12_fault_0 rfl ?_
  refine li_callV (n := 0) (As := []) dX12_fault_1 (k_X12_fine (d - 1) (by omega)  M0 hJ ) (by omega) (Nat.le_of_ble_eq_true rfl) w_1581 w_1583 w_43 w_112 w_1584 (by decide +kernel) rfl (by decide) sh_175 rfl rfl (Nat.le_of_ble_eq_true rfl) (fun r M2 h3 => ?_)
  obtain ⟨qx1, h3, jM2⟩ := h3
  have hf := li_fs_trans hf h3 (fun i k h => False.elim h)
  have hJ := jM2
  have rM2_15 := J_sl15 (M := M2) hJ
  have mM2_15 : (M2.1 175 15).toInt = (M0.1 175 15).toInt := tl_slot (h3.1 175 15 id)
  rcases qx1 with ⟨rfl, qx1⟩ | ⟨rfl, qx1⟩
  · skip
    refine li_if_eq 12 dX12_fault_4 (by decide) (fun c => absurd c (by decide)) (fun c => ?_)
    refine li_aload_n 0 dX12_fault_7 rfl ?_
    refine li_iload_n 1 dX12_fault_8 rfl ?_
    refine li_puti (k := 15) (N := 52) (T := TX12) (C0 := RX12) dX12_fault_9 (by decide) sh_175 rfl rfl (by decide) li_in12 tyX12_ok nmX12 rfl rfl rfl rfl w_1419 ?_
    refine li_nm (fun M5 eM5 => ?_)
    have hf := li_fs_ui hf (⟨rfl, rfl⟩) eM5
    have hJ := J_pt15 hJ (show -1 ≤ (p1 : Int32).toInt ∧ (p1 : Int32).toInt ≤ 81 by omega) eM5
    have rM5_15 := J_sl15 (M := M5) hJ
    have mM5_15 : (M5.1 175 15).toInt = p1.toInt := by rw [eM5, li_ui_at, if_pos rfl, if_pos rfl]
    exact li_vret dX12_fault_12 rfl ⟨rfl, hf, hJ, (by first | omega | (intro _; omega) | (refine ⟨?_, ?_⟩ <;> first | omega | (intro _; omega)) | (refine ⟨?_, ?_, ?_, ?_⟩ <;> first | omega | (intro _; omega)))⟩
  · skip
    refine li_if_eq 12 dX12_fault_4 (by decide) (fun c => ?_) (fun c => absurd rfl c)
    exact li_vret dX12_fault_12 rfl ⟨rfl, hf, hJ, (by first | omega | (intro _; omega) | (refine ⟨?_, ?_⟩ <;> first | omega | (intro _; omega)) | (refine ⟨?_, ?_, ?_, ?_⟩ <;> first | omega | (intro _; omega)))⟩
set_option maxRecDepth 100000 in
set_option maxHeartbeats 4000000 in
theorem k_X12_passes {l : Launch} {Z : li_Z} (d : Nat) (hd : 2 ≤ d) (p1 : Int32) (M0 : li_M) (hJ : li_J M0) (h1 : 0 ≤ p1.toInt) : li_Met l Z YX12_passes d [.ref (Z.2.2 175), .int p1] M0 (fun r M' => ((r = some (.int 1) ∧ ((M0.1 175 15).toInt = -1 ∧ (li_hr M0).toInt = p1.toInt ∧ (M'.1 175 14).toInt = (M0.1 175 14).toInt + 1 ∧ (M0.1 175 14).toInt < (M0.1 175 12).toInt ∧ (M0.1 175 14).toInt < (M0.1 175 13).toInt)) ∨ (r = some (.int 0) ∧ (((M0.1 175 15).toInt = -1 → ¬ (li_hr M0).toInt = p1.toInt) ∧ (M'.1 175 14).toInt = (M0.1 175 14).toInt))) ∧ li_fs (fun i k => (i = 175 ∧ k = 14)) M0 M' ∧ li_J M') := by
  refine li_enter (by decide +kernel) (Nat.le_of_ble_eq_true rfl) ?_
  show li_T l Z YX12_passes d 0 [(0, .ref (Z.2.2 175)), (1, .int p1)] [] M0 _
  have hf : li_fs (fun i k => (i = 175 ∧ k = 14)) M0 M0 := li_fs_refl
  have gp1 := tl_rg p1
  have rM0_12 := J_sl12 (M := M0) hJ
  have rM0_13 := J_sl13 (M := M0) hJ
  have rM0_14 := J_sl14 (M := M0) hJ
  have rM0_15 := J_sl15 (M := M0) hJ
  refine li_aload_n 0 dX12_passes_0 rfl ?_
  refine li_callV (n := 0) (As := []) dX12_passes_1 (k_X12_fine (d - 1) (by omega)  M0 hJ ) (by omega) (Nat.le_of_ble_eq_true rfl) w_1581 w_1583 w_43 w_112 w_1584 (by decide +kernel) rfl (by decide) sh_175 rfl rfl (Nat.le_of_ble_eq_true rfl) (fun r M2 h3 => ?_)
  obtain ⟨qx1, h3, jM2⟩ := h3
  have hf := li_fs_trans hf h3 (fun i k h => False.elim h)
  have kM2 : (li_hr M2).toInt = (li_hr M0).toInt := li_hr_fs h3 id id id id (fun _ _ _ => id) (by assumption)
  have hJ := jM2
  have rM2_12 := J_sl12 (M := M2) hJ
  have rM2_13 := J_sl13 (M := M2) hJ
  have rM2_14 := J_sl14 (M := M2) hJ
  have rM2_15 := J_sl15 (M := M2) hJ
  have mM2_12 : (M2.1 175 12).toInt = (M0.1 175 12).toInt := tl_slot (h3.1 175 12 id)
  have mM2_13 : (M2.1 175 13).toInt = (M0.1 175 13).toInt := tl_slot (h3.1 175 13 id)
  have mM2_14 : (M2.1 175 14).toInt = (M0.1 175 14).toInt := tl_slot (h3.1 175 14 id)
  have mM2_15 : (M2.1 175 15).toInt = (M0.1 175 15).toInt := tl_slot (h3.1 175 15 id)
  rcases qx1 with ⟨rfl, qx1⟩ | ⟨rfl, qx1⟩
  · skip
    refine li_if_eq 15 dX12_passes_4 (by decide) (fun c => absurd c (by decide)) (fun c => ?_)
    refine li_aload_n 0 dX12_passes_7 rfl ?_
    refine li_callV (n := 0) (As := []) dX12_passes_8 (k_X12_here (d - 1) (by omega)  M2 hJ ) (by omega) (Nat.le_of_ble_eq_true rfl) w_1597 w_1599 w_47 w_112 w_1600 (by decide +kernel) rfl (by decide) sh_175 rfl rfl (Nat.le_of_ble_eq_true rfl) (fun r M6 h7 => ?_)
    obtain ⟨⟨x5, rfl, qx5⟩, h7, jM6⟩ := h7
    have gx5 := tl_rg x5
    have hf := li_fs_trans hf h7 (fun i k h => False.elim h)
    have kM6 : (li_hr M6).toInt = (li_hr M2).toInt := li_hr_fs h7 id id id id (fun _ _ _ => id) (by assumption)
    have hJ := jM6
    have rM6_12 := J_sl12 (M := M6) hJ
    have rM6_13 := J_sl13 (M := M6) hJ
    have rM6_14 := J_sl14 (M := M6) hJ
    have rM6_15 := J_sl15 (M := M6) hJ
    have mM6_12 : (M6.1 175 12).toInt = (M2.1 175 12).toInt := tl_slot (h7.1 175 12 id)
    have mM6_13 : (M6.1 175 13).toInt = (M2.1 175 13).toInt := tl_slot (h7.1 175 13 id)
    have mM6_14 : (M6.1 175 14).toInt = (M2.1 175 14).toInt := tl_slot (h7.1 175 14 id)
    have mM6_15 : (M6.1 175 15).toInt = (M2.1 175 15).toInt := tl_slot (h7.1 175 15 id)
    refine li_iload_n 1 dX12_passes_11 rfl ?_
    refine li_icmp_eq 17 dX12_passes_12 (by decide) (fun c8 => ?_) (fun c8 => ?_)
    · have tc8 : x5.toInt = p1.toInt := tl_eq c8
      refine li_aload_n 0 dX12_passes_17 rfl ?_
      refine li_dup dX12_passes_18 rfl ?_
      refine li_geti (k := 14) (N := 52) (T := TX12) (C0 := RX12) dX12_passes_19 (by decide) sh_175 rfl rfl (by decide) li_in12 w_1418 ?_
      refine li_top (fun x9 ex9 => ?_)
      have gx9 : 0 ≤ x9.toInt ∧ x9.toInt ≤ 81 := by rw [ex9]; exact J_sl14 hJ
      have mx9 : x9.toInt = (M6.1 175 14).toInt := tl_slot ex9
      refine li_iconst 1 dX12_passes_22 (by decide) ?_
      refine li_iadd dX12_passes_23 ?_
      refine li_top (fun x10 ex10 => ?_)
      have z1 : (1 : Int32).toInt = 1 := rfl
      try (have tx10 : x10.toInt = (x9 : Int32).toInt + (1 : Int32).toInt := tl_add ex10 (by omega))
      refine li_puti (k := 14) (N := 52) (T := TX12) (C0 := RX12) dX12_passes_24 (by decide) sh_175 rfl rfl (by decide) li_in12 tyX12_ok nmX12 rfl rfl rfl rfl w_1418 ?_
      refine li_nm (fun M11 eM11 => ?_)
      have hf := li_fs_ui hf (⟨rfl, rfl⟩) eM11
      have hJ := J_pt14 hJ (show 0 ≤ (x10 : Int32).toInt ∧ (x10 : Int32).toInt ≤ 81 by omega) eM11
      have rM11_12 := J_sl12 (M := M11) hJ
      have rM11_13 := J_sl13 (M := M11) hJ
      have rM11_14 := J_sl14 (M := M11) hJ
      have rM11_15 := J_sl15 (M := M11) hJ
      have mM11_12 : (M11.1 175 12).toInt = (M6.1 175 12).toInt := by rw [eM11, li_ui_at, if_pos rfl, if_neg (by decide)]
      have mM11_13 : (M11.1 175 13).toInt = (M6.1 175 13).toInt := by rw [eM11, li_ui_at, if_pos rfl, if_neg (by decide)]
      have mM11_14 : (M11.1 175 14).toInt = x10.toInt := by rw [eM11, li_ui_at, if_pos rfl, if_pos rfl]
      have mM11_15 : (M11.1 175 15).toInt = (M6.1 175 15).toInt := by rw [eM11, li_ui_at, if_pos rfl, if_neg (by decide)]
      refine li_iconst 1 dX12_passes_27 (by decide) ?_
      have z1 : (1 : Int32).toInt = 1 := rfl
      exact li_iret dX12_passes_28 rfl (li_nz (Or.inr rfl)) ⟨Or.inl ⟨rfl, (by omega)⟩, hf, hJ⟩
    · have tc8 : ¬ x5.toInt = p1.toInt := tl_ne c8
      refine li_iconst 0 dX12_passes_15 (by decide) ?_
      have z0 : (0 : Int32).toInt = 0 := rfl
      exact li_iret dX12_passes_16 rfl (li_nz (Or.inl rfl)) ⟨Or.inr ⟨rfl, (by omega)⟩, hf, hJ⟩
  · skip
    refine li_if_eq 15 dX12_passes_4 (by decide) (fun c => ?_) (fun c => absurd rfl c)
    refine li_iconst 0 dX12_passes_15 (by decide) ?_
    have z0 : (0 : Int32).toInt = 0 := rfl
    exact li_iret dX12_passes_16 rfl (li_nz (Or.inl rfl)) ⟨Or.inr ⟨rfl, (by omega)⟩, hf, hJ⟩
set_option maxRecDepth 100000 in
set_option maxHeartbeats 4000000 in
theorem k_X12_need {l : Launch} {Z : li_Z} (d : Nat) (hd : 3 ≤ d) (p1 : Int32) (M0 : li_M) (hJ : li_J M0) (h1 : 0 ≤ p1.toInt) : li_Met l Z YX12_need d [.ref (Z.2.2 175), .int p1] M0 (fun r M' => r = none ∧ li_fs (fun i k => (i = 175 ∧ k = 14) ∨ (i = 175 ∧ k = 15)) M0 M' ∧ li_J M' ∧ (((M0.1 175 15).toInt = -1 → (li_hr M0).toInt = p1.toInt → (M'.1 175 14).toInt = (M0.1 175 14).toInt + 1 ∧ (M'.1 175 15).toInt = -1 ∧ (M0.1 175 14).toInt < (M0.1 175 12).toInt ∧ (M0.1 175 14).toInt < (M0.1 175 13).toInt) ∧ ((M0.1 175 15).toInt = -1 → ¬ (li_hr M0).toInt = p1.toInt → (M'.1 175 14).toInt = (M0.1 175 14).toInt ∧ (M'.1 175 15).toInt = (M0.1 175 14).toInt) ∧ (¬ (M0.1 175 15).toInt = -1 → (M'.1 175 15).toInt = (M0.1 175 15).toInt ∧ (M'.1 175 14).toInt = (M0.1 175 14).toInt))) := by
  refine li_enter (by decide +kernel) (Nat.le_of_ble_eq_true rfl) ?_
  show li_T l Z YX12_need d 0 [(0, .ref (Z.2.2 175)), (1, .int p1)] [] M0 _
  have hf : li_fs (fun i k => (i = 175 ∧ k = 14) ∨ (i = 175 ∧ k = 15)) M0 M0 := li_fs_refl
  have gp1 := tl_rg p1
  have rM0_12 := J_sl12 (M := M0) hJ
  have rM0_13 := J_sl13 (M := M0) hJ
  have rM0_14 := J_sl14 (M := M0) hJ
  have rM0_15 := J_sl15 (M := M0) hJ
  refine li_aload_n 0 dX12_need_0 rfl ?_
  refine li_iload_n 1 dX12_need_1 rfl ?_
  refine li_callV (n := 1) (As := [.int p1]) dX12_need_2 (k_X12_passes (d - 1) (by omega) p1 M0 hJ (by omega)) (by omega) (Nat.le_of_ble_eq_true rfl) w_1605 w_1607 w_49 w_112 w_1608 (by decide +kernel) rfl (by decide) sh_175 rfl rfl (Nat.le_of_ble_eq_true rfl) (fun r M2 h3 => ?_)
  obtain ⟨qx1, h3, jM2⟩ := h3
  have hf := li_fs_trans hf h3 (fun i k => fun h => Or.inl h)
  have hJ := jM2
  have rM2_12 := J_sl12 (M := M2) hJ
  have rM2_13 := J_sl13 (M := M2) hJ
  have rM2_14 := J_sl14 (M := M2) hJ
  have rM2_15 := J_sl15 (M := M2) hJ
  have mM2_12 : (M2.1 175 12).toInt = (M0.1 175 12).toInt := tl_slot (h3.1 175 12 (show ¬ ((175 = 175 ∧ 12 = 14)) by decide))
  have mM2_13 : (M2.1 175 13).toInt = (M0.1 175 13).toInt := tl_slot (h3.1 175 13 (show ¬ ((175 = 175 ∧ 13 = 14)) by decide))
  have mM2_15 : (M2.1 175 15).toInt = (M0.1 175 15).toInt := tl_slot (h3.1 175 15 (show ¬ ((175 = 175 ∧ 15 = 14)) by decide))
  rcases qx1 with ⟨rfl, qx1⟩ | ⟨rfl, qx1⟩
  · skip
    refine li_if_ne 16 dX12_need_5 (by decide) (fun c => ?_) (fun c => absurd c (by decide))
    exact li_vret dX12_need_16 rfl ⟨rfl, hf, hJ, (by first | omega | (intro _; omega) | (refine ⟨?_, ?_⟩ <;> first | omega | (intro _; omega)) | (refine ⟨?_, ?_, ?_, ?_⟩ <;> first | omega | (intro _; omega)))⟩
  · skip
    refine li_if_ne 16 dX12_need_5 (by decide) (fun c => absurd rfl c) (fun c => ?_)
    refine li_aload_n 0 dX12_need_8 rfl ?_
    refine li_aload_n 0 dX12_need_9 rfl ?_
    refine li_geti (k := 14) (N := 52) (T := TX12) (C0 := RX12) dX12_need_10 (by decide) sh_175 rfl rfl (by decide) li_in12 w_1418 ?_
    refine li_top (fun x6 ex6 => ?_)
    have gx6 : 0 ≤ x6.toInt ∧ x6.toInt ≤ 81 := by rw [ex6]; exact J_sl14 hJ
    have mx6 : x6.toInt = (M2.1 175 14).toInt := tl_slot ex6
    refine li_callV (n := 1) (As := [.int x6]) dX12_need_13 (k_X12_fault (d - 1) (by omega) x6 M2 hJ (by omega)) (by omega) (Nat.le_of_ble_eq_true rfl) w_1585 w_1587 w_44 w_112 w_1588 (by decide +kernel) rfl (by decide) sh_175 rfl rfl (Nat.le_of_ble_eq_true rfl) (fun r M8 h9 => ?_)
    obtain ⟨rfl, h9, jM8, nM8⟩ := h9
    have hf := li_fs_trans hf h9 (fun i k => fun h => Or.inr h)
    have kM8 : (li_hr M8).toInt = (li_hr M2).toInt := li_hr_fs h9 (show ¬ ((175 = 175 ∧ 12 = 15)) by decide) (show ¬ ((175 = 175 ∧ 13 = 15)) by decide) (show ¬ ((175 = 175 ∧ 14 = 15)) by decide) (show ¬ ((1000 = 175 ∧ 0 = 15)) by decide) (fun q i h => (show ¬ ((q = 175 ∧ i = 15)) by unfold li_rq at h; omega)) (by assumption)
    have hJ := jM8
    have rM8_12 := J_sl12 (M := M8) hJ
    have rM8_13 := J_sl13 (M := M8) hJ
    have rM8_14 := J_sl14 (M := M8) hJ
    have rM8_15 := J_sl15 (M := M8) hJ
    have mM8_12 : (M8.1 175 12).toInt = (M2.1 175 12).toInt := tl_slot (h9.1 175 12 (show ¬ ((175 = 175 ∧ 12 = 15)) by decide))
    have mM8_13 : (M8.1 175 13).toInt = (M2.1 175 13).toInt := tl_slot (h9.1 175 13 (show ¬ ((175 = 175 ∧ 13 = 15)) by decide))
    have mM8_14 : (M8.1 175 14).toInt = (M2.1 175 14).toInt := tl_slot (h9.1 175 14 (show ¬ ((175 = 175 ∧ 14 = 15)) by decide))
    exact li_vret dX12_need_16 rfl ⟨rfl, hf, hJ, (by first | omega | (intro _; omega) | (refine ⟨?_, ?_⟩ <;> first | omega | (intro _; omega)) | (refine ⟨?_, ?_, ?_, ?_⟩ <;> first | omega | (intro _; omega)))⟩
set_option maxRecDepth 100000 in
set_option maxHeartbeats 4000000 in
theorem k_X12_oneOf {l : Launch} {Z : li_Z} (d : Nat) (hd : 3 ≤ d) (p1 p2 p3 : Int32) (M0 : li_M) (hJ : li_J M0) (h1 : 0 ≤ p1.toInt ∧ p1.toInt ≤ 100) (h2 : 0 ≤ p2.toInt ∧ p2.toInt ≤ 20) : li_Met l Z YX12_oneOf d [.ref (Z.2.2 175), .int p1, .int p2, .int p3] M0 (fun r M' => (∃ x : Int32, r = some (.int x) ∧ ((¬ (M0.1 175 15).toInt = -1 → x.toInt = 0 ∧ (M'.1 175 14).toInt = (M0.1 175 14).toInt ∧ (M'.1 175 15).toInt = (M0.1 175 15).toInt) ∧ ((M0.1 175 15).toInt = -1 → p1.toInt ≤ (li_hr M0).toInt → (li_hr M0).toInt ≤ p1.toInt + p2.toInt - 1 → ¬ (li_hr M0).toInt - p1.toInt = p3.toInt → x.toInt = (li_hr M0).toInt - p1.toInt ∧ (M'.1 175 14).toInt = (M0.1 175 14).toInt + 1 ∧ (M'.1 175 15).toInt = -1 ∧ (M0.1 175 14).toInt < (M0.1 175 12).toInt ∧ (M0.1 175 14).toInt < (M0.1 175 13).toInt) ∧ ((M0.1 175 15).toInt = -1 → ¬ (p1.toInt ≤ (li_hr M0).toInt ∧ (li_hr M0).toInt ≤ p1.toInt + p2.toInt - 1 ∧ ¬ (li_hr M0).toInt - p1.toInt = p3.toInt) → x.toInt = 0 ∧ (M'.1 175 14).toInt = (M0.1 175 14).toInt ∧ (M'.1 175 15).toInt = (M0.1 175 14).toInt) ∧ 0 ≤ x.toInt ∧ (x.toInt = 0 ∨ x.toInt < p2.toInt))) ∧ li_fs (fun i k => (i = 175 ∧ k = 14) ∨ (i = 175 ∧ k = 15)) M0 M' ∧ li_J M') := by
  refine li_enter (by decide +kernel) (Nat.le_of_ble_eq_true rfl) ?_
  show li_T l Z YX12_oneOf d 0 [(0, .ref (Z.2.2 175)), (1, .int p1), (2, .int p2), (3, .int p3)] [] M0 _
  have hf : li_fs (fun i k => (i = 175 ∧ k = 14) ∨ (i = 175 ∧ k = 15)) M0 M0 := li_fs_refl
  have gp1 := tl_rg p1
  have gp2 := tl_rg p2
  have gp3 := tl_rg p3
  have rM0_12 := J_sl12 (M := M0) hJ
  have rM0_13 := J_sl13 (M := M0) hJ
  have rM0_14 := J_sl14 (M := M0) hJ
  have rM0_15 := J_sl15 (M := M0) hJ
  refine li_aload_n 0 dX12_oneOf_0 rfl ?_
  refine li_callV (n := 0) (As := []) dX12_oneOf_1 (k_X12_fine (d - 1) (by omega)  M0 hJ ) (by omega) (Nat.le_of_ble_eq_true rfl) w_1581 w_1583 w_43 w_112 w_1584 (by decide +kernel) rfl (by decide) sh_175 rfl rfl (Nat.le_of_ble_eq_true rfl) (fun r M2 h3 => ?_)
  obtain ⟨qx1, h3, jM2⟩ := h3
  have hf := li_fs_trans hf h3 (fun i k h => False.elim h)
  have kM2 : (li_hr M2).toInt = (li_hr M0).toInt := li_hr_fs h3 id id id id (fun _ _ _ => id) (by assumption)
  have hJ := jM2
  have rM2_12 := J_sl12 (M := M2) hJ
  have rM2_13 := J_sl13 (M := M2) hJ
  have rM2_14 := J_sl14 (M := M2) hJ
  have rM2_15 := J_sl15 (M := M2) hJ
  have mM2_12 : (M2.1 175 12).toInt = (M0.1 175 12).toInt := tl_slot (h3.1 175 12 id)
  have mM2_13 : (M2.1 175 13).toInt = (M0.1 175 13).toInt := tl_slot (h3.1 175 13 id)
  have mM2_14 : (M2.1 175 14).toInt = (M0.1 175 14).toInt := tl_slot (h3.1 175 14 id)
  have mM2_15 : (M2.1 175 15).toInt = (M0.1 175 15).toInt := tl_slot (h3.1 175 15 id)
  rcases qx1 with ⟨rfl, qx1⟩ | ⟨rfl, qx1⟩
  · skip
    refine li_if_ne 9 dX12_oneOf_4 (by decide) (fun c => ?_) (fun c => absurd c (by decide))
    refine li_aload_n 0 dX12_oneOf_9 rfl ?_
    refine li_callV (n := 0) (As := []) dX12_oneOf_10 (k_X12_here (d - 1) (by omega)  M2 hJ ) (by omega) (Nat.le_of_ble_eq_true rfl) w_1597 w_1599 w_47 w_112 w_1600 (by decide +kernel) rfl (by decide) sh_175 rfl rfl (Nat.le_of_ble_eq_true rfl) (fun r M6 h7 => ?_)
    obtain ⟨⟨x5, rfl, qx5⟩, h7, jM6⟩ := h7
    have gx5 := tl_rg x5
    have hf := li_fs_trans hf h7 (fun i k h => False.elim h)
    have kM6 : (li_hr M6).toInt = (li_hr M2).toInt := li_hr_fs h7 id id id id (fun _ _ _ => id) (by assumption)
    have hJ := jM6
    have rM6_12 := J_sl12 (M := M6) hJ
    have rM6_13 := J_sl13 (M := M6) hJ
    have rM6_14 := J_sl14 (M := M6) hJ
    have rM6_15 := J_sl15 (M := M6) hJ
    have mM6_12 : (M6.1 175 12).toInt = (M2.1 175 12).toInt := tl_slot (h7.1 175 12 id)
    have mM6_13 : (M6.1 175 13).toInt = (M2.1 175 13).toInt := tl_slot (h7.1 175 13 id)
    have mM6_14 : (M6.1 175 14).toInt = (M2.1 175 14).toInt := tl_slot (h7.1 175 14 id)
    have mM6_15 : (M6.1 175 15).toInt = (M2.1 175 15).toInt := tl_slot (h7.1 175 15 id)
    refine li_iload_n 1 dX12_oneOf_13 rfl ?_
    refine li_iload_n 1 dX12_oneOf_14 rfl ?_
    refine li_iload_n 2 dX12_oneOf_15 rfl ?_
    refine li_iadd dX12_oneOf_16 ?_
    refine li_top (fun x8 ex8 => ?_)
    try (have tx8 : x8.toInt = (p1 : Int32).toInt + (p2 : Int32).toInt := tl_add ex8 (by omega))
    refine li_iconst 1 dX12_oneOf_17 (by decide) ?_
    refine li_isub dX12_oneOf_18 ?_
    refine li_top (fun x9 ex9 => ?_)
    have z1 : (1 : Int32).toInt = 1 := rfl
    try (have tx9 : x9.toInt = (x8 : Int32).toInt - (1 : Int32).toInt := tl_sub ex9 (by omega))
    refine li_callS (n := 3) (As := [.int x5, .int p1, .int x9]) dX12_oneOf_19 (k_X12_in (d - 1) (by omega) x5 p1 x9 M6 hJ ) (by omega) (Nat.le_of_ble_eq_true rfl) w_1570 w_1571 w_112 w_1572 (by decide +kernel) rfl rfl (Nat.le_of_ble_eq_true rfl) (fun r M11 h12 => ?_)
    obtain ⟨qx10, h12, jM11⟩ := h12
    have hf := li_fs_trans hf h12 (fun i k h => False.elim h)
    have kM11 : (li_hr M11).toInt = (li_hr M6).toInt := li_hr_fs h12 id id id id (fun _ _ _ => id) (by assumption)
    have hJ := jM11
    have rM11_12 := J_sl12 (M := M11) hJ
    have rM11_13 := J_sl13 (M := M11) hJ
    have rM11_14 := J_sl14 (M := M11) hJ
    have rM11_15 := J_sl15 (M := M11) hJ
    have mM11_12 : (M11.1 175 12).toInt = (M6.1 175 12).toInt := tl_slot (h12.1 175 12 id)
    have mM11_13 : (M11.1 175 13).toInt = (M6.1 175 13).toInt := tl_slot (h12.1 175 13 id)
    have mM11_14 : (M11.1 175 14).toInt = (M6.1 175 14).toInt := tl_slot (h12.1 175 14 id)
    have mM11_15 : (M11.1 175 15).toInt = (M6.1 175 15).toInt := tl_slot (h12.1 175 15 id)
    rcases qx10 with ⟨rfl, qx10⟩ | ⟨rfl, qx10⟩
    · skip
      refine li_if_eq 35 dX12_oneOf_22 (by decide) (fun c => absurd c (by decide)) (fun c => ?_)
      refine li_aload_n 0 dX12_oneOf_25 rfl ?_
      refine li_callV (n := 0) (As := []) dX12_oneOf_26 (k_X12_here (d - 1) (by omega)  M11 hJ ) (by omega) (Nat.le_of_ble_eq_true rfl) w_1597 w_1599 w_47 w_112 w_1600 (by decide +kernel) rfl (by decide) sh_175 rfl rfl (Nat.le_of_ble_eq_true rfl) (fun r M15 h16 => ?_)
      obtain ⟨⟨x14, rfl, qx14⟩, h16, jM15⟩ := h16
      have gx14 := tl_rg x14
      have hf := li_fs_trans hf h16 (fun i k h => False.elim h)
      have kM15 : (li_hr M15).toInt = (li_hr M11).toInt := li_hr_fs h16 id id id id (fun _ _ _ => id) (by assumption)
      have hJ := jM15
      have rM15_12 := J_sl12 (M := M15) hJ
      have rM15_13 := J_sl13 (M := M15) hJ
      have rM15_14 := J_sl14 (M := M15) hJ
      have rM15_15 := J_sl15 (M := M15) hJ
      have mM15_12 : (M15.1 175 12).toInt = (M11.1 175 12).toInt := tl_slot (h16.1 175 12 id)
      have mM15_13 : (M15.1 175 13).toInt = (M11.1 175 13).toInt := tl_slot (h16.1 175 13 id)
      have mM15_14 : (M15.1 175 14).toInt = (M11.1 175 14).toInt := tl_slot (h16.1 175 14 id)
      have mM15_15 : (M15.1 175 15).toInt = (M11.1 175 15).toInt := tl_slot (h16.1 175 15 id)
      refine li_iload_n 1 dX12_oneOf_29 rfl ?_
      refine li_isub dX12_oneOf_30 ?_
      refine li_top (fun x17 ex17 => ?_)
      try (have tx17 : x17.toInt = (x14 : Int32).toInt - (p1 : Int32).toInt := tl_sub ex17 (by omega))
      refine li_iload_n 3 dX12_oneOf_31 rfl ?_
      refine li_icmp_ne 45 dX12_oneOf_32 (by decide) (fun c18 => ?_) (fun c18 => ?_)
      · have tc18 : ¬ x17.toInt = p3.toInt := tl_ne c18
        refine li_aload_n 0 dX12_oneOf_45 rfl ?_
        refine li_dup dX12_oneOf_46 rfl ?_
        refine li_geti (k := 14) (N := 52) (T := TX12) (C0 := RX12) dX12_oneOf_47 (by decide) sh_175 rfl rfl (by decide) li_in12 w_1418 ?_
        refine li_top (fun x19 ex19 => ?_)
        have gx19 : 0 ≤ x19.toInt ∧ x19.toInt ≤ 81 := by rw [ex19]; exact J_sl14 hJ
        have mx19 : x19.toInt = (M15.1 175 14).toInt := tl_slot ex19
        refine li_iconst 1 dX12_oneOf_50 (by decide) ?_
        refine li_iadd dX12_oneOf_51 ?_
        refine li_top (fun x20 ex20 => ?_)
        have z1 : (1 : Int32).toInt = 1 := rfl
        try (have tx20 : x20.toInt = (x19 : Int32).toInt + (1 : Int32).toInt := tl_add ex20 (by omega))
        refine li_puti (k := 14) (N := 52) (T := TX12) (C0 := RX12) dX12_oneOf_52 (by decide) sh_175 rfl rfl (by decide) li_in12 tyX12_ok nmX12 rfl rfl rfl rfl w_1418 ?_
        refine li_nm (fun M21 eM21 => ?_)
        have hf := li_fs_ui hf (Or.inl ⟨rfl, rfl⟩) eM21
        have hJ := J_pt14 hJ (show 0 ≤ (x20 : Int32).toInt ∧ (x20 : Int32).toInt ≤ 81 by omega) eM21
        have rM21_12 := J_sl12 (M := M21) hJ
        have rM21_13 := J_sl13 (M := M21) hJ
        have rM21_14 := J_sl14 (M := M21) hJ
        have rM21_15 := J_sl15 (M := M21) hJ
        have mM21_12 : (M21.1 175 12).toInt = (M15.1 175 12).toInt := by rw [eM21, li_ui_at, if_pos rfl, if_neg (by decide)]
        have mM21_13 : (M21.1 175 13).toInt = (M15.1 175 13).toInt := by rw [eM21, li_ui_at, if_pos rfl, if_neg (by decide)]
        have mM21_14 : (M21.1 175 14).toInt = x20.toInt := by rw [eM21, li_ui_at, if_pos rfl, if_pos rfl]
        have mM21_15 : (M21.1 175 15).toInt = (M15.1 175 15).toInt := by rw [eM21, li_ui_at, if_pos rfl, if_neg (by decide)]
        refine li_aload_n 0 dX12_oneOf_55 rfl ?_
        obtain ⟨q22, hq22, rq22, nq22⟩ := hJ.read (by omega)
        refine li_getm (r := 0) (k := 11) (N := 52) (T := TX12) (C0 := RX12) dX12_oneOf_56 (by decide) sh_175 rfl rfl hq22 (by decide) li_in12 w_1415 ?_
        refine li_aload_n 0 dX12_oneOf_59 rfl ?_
        refine li_geti (k := 14) (N := 52) (T := TX12) (C0 := RX12) dX12_oneOf_60 (by decide) sh_175 rfl rfl (by decide) li_in12 w_1418 ?_
        refine li_top (fun x23 ex23 => ?_)
        have gx23 : 0 ≤ x23.toInt ∧ x23.toInt ≤ 81 := by rw [ex23]; exact J_sl14 hJ
        have mx23 : x23.toInt = (M21.1 175 14).toInt := tl_slot ex23
        refine li_iconst 1 dX12_oneOf_63 (by decide) ?_
        refine li_isub dX12_oneOf_64 ?_
        refine li_top (fun x24 ex24 => ?_)
        have z1 : (1 : Int32).toInt = 1 := rfl
        try (have tx24 : x24.toInt = (x23 : Int32).toInt - (1 : Int32).toInt := tl_sub ex24 (by omega))
        refine li_bald dX12_oneOf_65 (snQ rq22) (shQ rq22) (tl_in (by omega)) ?_
        refine li_top (fun x25 ex25 => ?_)
        have gx25 := tl_rg x25
        refine li_iload_n 1 dX12_oneOf_66 rfl ?_
        refine li_isub dX12_oneOf_67 ?_
        refine li_top (fun x26 ex26 => ?_)
        try (have tx26 : x26.toInt = (x25 : Int32).toInt - (p1 : Int32).toInt := tl_sub ex26 (by omega))
        exact li_iret dX12_oneOf_68 rfl rfl ⟨⟨_, rfl, (by first | (refine ⟨?_, ?_, ?_, ?_, ?_⟩ <;> (intros; omega)) | (have hy := li_one qx14.2.2.2 (by omega) (by omega) h16 ex19 ex20 eM21 hq22 rq22 hJ ex23 ex24 ex25; have ty : x26.toInt = x25.toInt - p1.toInt := tl_sub ex26 (by omega); refine ⟨?_, ?_, ?_, ?_, ?_⟩ <;> (intros; omega)))⟩, hf, hJ⟩
      · have tc18 : x17.toInt = p3.toInt := tl_eq c18
        refine li_aload_n 0 dX12_oneOf_35 rfl ?_
        refine li_aload_n 0 dX12_oneOf_36 rfl ?_
        refine li_geti (k := 14) (N := 52) (T := TX12) (C0 := RX12) dX12_oneOf_37 (by decide) sh_175 rfl rfl (by decide) li_in12 w_1418 ?_
        refine li_top (fun x27 ex27 => ?_)
        have gx27 : 0 ≤ x27.toInt ∧ x27.toInt ≤ 81 := by rw [ex27]; exact J_sl14 hJ
        have mx27 : x27.toInt = (M15.1 175 14).toInt := tl_slot ex27
        refine li_callV (n := 1) (As := [.int x27]) dX12_oneOf_40 (k_X12_fault (d - 1) (by omega) x27 M15 hJ (by omega)) (by omega) (Nat.le_of_ble_eq_true rfl) w_1585 w_1587 w_44 w_112 w_1588 (by decide +kernel) rfl (by decide) sh_175 rfl rfl (Nat.le_of_ble_eq_true rfl) (fun r M29 h30 => ?_)
        obtain ⟨rfl, h30, jM29, nM29⟩ := h30
        have hf := li_fs_trans hf h30 (fun i k => fun h => Or.inr h)
        have kM29 : (li_hr M29).toInt = (li_hr M15).toInt := li_hr_fs h30 (show ¬ ((175 = 175 ∧ 12 = 15)) by decide) (show ¬ ((175 = 175 ∧ 13 = 15)) by decide) (show ¬ ((175 = 175 ∧ 14 = 15)) by decide) (show ¬ ((1000 = 175 ∧ 0 = 15)) by decide) (fun q i h => (show ¬ ((q = 175 ∧ i = 15)) by unfold li_rq at h; omega)) (by assumption)
        have hJ := jM29
        have rM29_12 := J_sl12 (M := M29) hJ
        have rM29_13 := J_sl13 (M := M29) hJ
        have rM29_14 := J_sl14 (M := M29) hJ
        have rM29_15 := J_sl15 (M := M29) hJ
        have mM29_12 : (M29.1 175 12).toInt = (M15.1 175 12).toInt := tl_slot (h30.1 175 12 (show ¬ ((175 = 175 ∧ 12 = 15)) by decide))
        have mM29_13 : (M29.1 175 13).toInt = (M15.1 175 13).toInt := tl_slot (h30.1 175 13 (show ¬ ((175 = 175 ∧ 13 = 15)) by decide))
        have mM29_14 : (M29.1 175 14).toInt = (M15.1 175 14).toInt := tl_slot (h30.1 175 14 (show ¬ ((175 = 175 ∧ 14 = 15)) by decide))
        refine li_iconst 0 dX12_oneOf_43 (by decide) ?_
        have z0 : (0 : Int32).toInt = 0 := rfl
        exact li_iret dX12_oneOf_44 rfl rfl ⟨⟨_, rfl, (by first | (refine ⟨?_, ?_, ?_, ?_, ?_⟩ <;> (intros; omega)) | (have hy := li_one qx14.2.2.2 (by omega) (by omega) h16 ex19 ex20 eM21 hq22 rq22 hJ ex23 ex24 ex25; have ty : x26.toInt = x25.toInt - p1.toInt := tl_sub ex26 (by omega); refine ⟨?_, ?_, ?_, ?_, ?_⟩ <;> (intros; omega)))⟩, hf, hJ⟩
    · skip
      refine li_if_eq 35 dX12_oneOf_22 (by decide) (fun c => ?_) (fun c => absurd rfl c)
      refine li_aload_n 0 dX12_oneOf_35 rfl ?_
      refine li_aload_n 0 dX12_oneOf_36 rfl ?_
      refine li_geti (k := 14) (N := 52) (T := TX12) (C0 := RX12) dX12_oneOf_37 (by decide) sh_175 rfl rfl (by decide) li_in12 w_1418 ?_
      refine li_top (fun x32 ex32 => ?_)
      have gx32 : 0 ≤ x32.toInt ∧ x32.toInt ≤ 81 := by rw [ex32]; exact J_sl14 hJ
      have mx32 : x32.toInt = (M11.1 175 14).toInt := tl_slot ex32
      refine li_callV (n := 1) (As := [.int x32]) dX12_oneOf_40 (k_X12_fault (d - 1) (by omega) x32 M11 hJ (by omega)) (by omega) (Nat.le_of_ble_eq_true rfl) w_1585 w_1587 w_44 w_112 w_1588 (by decide +kernel) rfl (by decide) sh_175 rfl rfl (Nat.le_of_ble_eq_true rfl) (fun r M34 h35 => ?_)
      obtain ⟨rfl, h35, jM34, nM34⟩ := h35
      have hf := li_fs_trans hf h35 (fun i k => fun h => Or.inr h)
      have kM34 : (li_hr M34).toInt = (li_hr M11).toInt := li_hr_fs h35 (show ¬ ((175 = 175 ∧ 12 = 15)) by decide) (show ¬ ((175 = 175 ∧ 13 = 15)) by decide) (show ¬ ((175 = 175 ∧ 14 = 15)) by decide) (show ¬ ((1000 = 175 ∧ 0 = 15)) by decide) (fun q i h => (show ¬ ((q = 175 ∧ i = 15)) by unfold li_rq at h; omega)) (by assumption)
      have hJ := jM34
      have rM34_12 := J_sl12 (M := M34) hJ
      have rM34_13 := J_sl13 (M := M34) hJ
      have rM34_14 := J_sl14 (M := M34) hJ
      have rM34_15 := J_sl15 (M := M34) hJ
      have mM34_12 : (M34.1 175 12).toInt = (M11.1 175 12).toInt := tl_slot (h35.1 175 12 (show ¬ ((175 = 175 ∧ 12 = 15)) by decide))
      have mM34_13 : (M34.1 175 13).toInt = (M11.1 175 13).toInt := tl_slot (h35.1 175 13 (show ¬ ((175 = 175 ∧ 13 = 15)) by decide))
      have mM34_14 : (M34.1 175 14).toInt = (M11.1 175 14).toInt := tl_slot (h35.1 175 14 (show ¬ ((175 = 175 ∧ 14 = 15)) by decide))
      refine li_iconst 0 dX12_oneOf_43 (by decide) ?_
      have z0 : (0 : Int32).toInt = 0 := rfl
      exact li_iret dX12_oneOf_44 rfl rfl ⟨⟨_, rfl, (by first | (refine ⟨?_, ?_, ?_, ?_, ?_⟩ <;> (intros; omega)) | (have hy := li_one qx14.2.2.2 (by omega) (by omega) h16 ex19 ex20 eM21 hq22 rq22 hJ ex23 ex24 ex25; have ty : x26.toInt = x25.toInt - p1.toInt := tl_sub ex26 (by omega); refine ⟨?_, ?_, ?_, ?_, ?_⟩ <;> (intros; omega)))⟩, hf, hJ⟩
  · skip
    refine li_if_ne 9 dX12_oneOf_4 (by decide) (fun c => absurd rfl c) (fun c => ?_)
    refine li_iconst 0 dX12_oneOf_7 (by decide) ?_
    have z0 : (0 : Int32).toInt = 0 := rfl
    exact li_iret dX12_oneOf_8 rfl rfl ⟨⟨_, rfl, (by first | (refine ⟨?_, ?_, ?_, ?_, ?_⟩ <;> (intros; omega)) | (have hy := li_one qx14.2.2.2 (by omega) (by omega) h16 ex19 ex20 eM21 hq22 rq22 hJ ex23 ex24 ex25; have ty : x26.toInt = x25.toInt - p1.toInt := tl_sub ex26 (by omega); refine ⟨?_, ?_, ?_, ?_, ?_⟩ <;> (intros; omega)))⟩, hf, hJ⟩
