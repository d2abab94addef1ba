theorem w_102 : (Jvm.Cond.initialized "ClockForTalk$Text") ∈ li_ws := li_mem 102 (by decide +kernel) (by decide +kernel)
theorem w_104 : (Jvm.Cond.initialized "ClockForTalk$Town") ∈ li_ws := li_mem 104 (by decide +kernel) (by decide +kernel)
theorem w_174 : (Jvm.Cond.fieldLink "ClockForTalk$Town" (33 : Nat) "ClockForTalk$Town" "persons" "I") ∈ li_ws := li_mem 174 (by decide +kernel) (by decide +kernel)
theorem w_179 : (Jvm.Cond.fieldLink "ClockForTalk$Town" (37 : Nat) "ClockForTalk$Town" "wishes" "I") ∈ li_ws := li_mem 179 (by decide +kernel) (by decide +kernel)
theorem w_183 : (Jvm.Cond.fieldLink "ClockForTalk$Town" (9 : Nat) "ClockForTalk$Town" "steps" "[I") ∈ li_ws := li_mem 183 (by decide +kernel) (by decide +kernel)
theorem w_185 : (Jvm.Cond.fieldLink "ClockForTalk$Town" (15 : Nat) "ClockForTalk$Town" "yearly" "[I") ∈ li_ws := li_mem 185 (by decide +kernel) (by decide +kernel)
theorem w_188 : (Jvm.Cond.fieldLink "ClockForTalk$Town" (18 : Nat) "ClockForTalk$Town" "who" "[I") ∈ li_ws := li_mem 188 (by decide +kernel) (by decide +kernel)
theorem w_191 : (Jvm.Cond.fieldLink "ClockForTalk$Town" (21 : Nat) "ClockForTalk$Town" "whom" "[I") ∈ li_ws := li_mem 191 (by decide +kernel) (by decide +kernel)
theorem w_194 : (Jvm.Cond.fieldLink "ClockForTalk$Town" (24 : Nat) "ClockForTalk$Town" "seconds" "[I") ∈ li_ws := li_mem 194 (by decide +kernel) (by decide +kernel)
theorem w_197 : (Jvm.Cond.fieldLink "ClockForTalk$Town" (27 : Nat) "ClockForTalk$Town" "by" "[I") ∈ li_ws := li_mem 197 (by decide +kernel) (by decide +kernel)
theorem w_201 : (Jvm.Cond.fieldLink "ClockForTalk$Town" (30 : Nat) "ClockForTalk$Town" "worth" "[I") ∈ li_ws := li_mem 201 (by decide +kernel) (by decide +kernel)
theorem w_759 : (Jvm.Cond.instanceMethod ({ cls := "ClockForTalk$Town", name := "hasPerson", desc := "(I)Z" } : Jvm.MethodName)) ∈ li_ws := li_mem 759 (by decide +kernel) (by decide +kernel)
theorem w_760 : (Jvm.Cond.selects "ClockForTalk$Town" ({ cls := "ClockForTalk$Town", name := "hasPerson", desc := "(I)Z" } : Jvm.MethodName) ({ cls := "ClockForTalk$Town", name := "hasPerson", desc := "(I)Z" } : Jvm.MethodName)) ∈ li_ws := li_mem 760 (by decide +kernel) (by decide +kernel)
theorem w_761 : (Jvm.Cond.code ({ cls := "ClockForTalk$Town", name := "hasPerson", desc := "(I)Z" } : Jvm.MethodName) prog_9_method_2_code (2 : Nat) (Option.some Jvm.ClassFile.FieldType.boolean)) ∈ li_ws := li_mem 761 (by decide +kernel) (by decide +kernel)
theorem w_798 : (Jvm.Cond.instanceMethod ({ cls := "ClockForTalk$Town", name := "apart", desc := "(II)I" } : Jvm.MethodName)) ∈ li_ws := li_mem 798 (by decide +kernel) (by decide +kernel)
theorem w_799 : (Jvm.Cond.selects "ClockForTalk$Town" ({ cls := "ClockForTalk$Town", name := "apart", desc := "(II)I" } : Jvm.MethodName) ({ cls := "ClockForTalk$Town", name := "apart", desc := "(II)I" } : Jvm.MethodName)) ∈ li_ws := li_mem 799 (by decide +kernel) (by decide +kernel)
theorem w_800 : (Jvm.Cond.code ({ cls := "ClockForTalk$Town", name := "apart", desc := "(II)I" } : Jvm.MethodName) prog_9_method_5_code (3 : Nat) (Option.some Jvm.ClassFile.FieldType.int)) ∈ li_ws := li_mem 800 (by decide +kernel) (by decide +kernel)
theorem w_801 : (Jvm.Cond.methodLink "ClockForTalk$Town" (48 : Nat) ({ cls := "java/lang/Math", name := "abs", desc := "(I)I" } : Jvm.MethodName)) ∈ li_ws := li_mem 801 (by decide +kernel) (by decide +kernel)
theorem w_802 : (Jvm.Cond.static ({ cls := "java/lang/Math", name := "abs", desc := "(I)I" } : Jvm.MethodName)) ∈ li_ws := li_mem 802 (by decide +kernel) (by decide +kernel)
theorem w_803 : (Jvm.Cond.code ({ cls := "java/lang/Math", name := "abs", desc := "(I)I" } : Jvm.MethodName) prog_19_method_59_code (1 : Nat) (Option.some Jvm.ClassFile.FieldType.int)) ∈ li_ws := li_mem 803 (by decide +kernel) (by decide +kernel)
theorem w_888 : (Jvm.Cond.methodLink "ClockForTalk$Town" (40 : Nat) ({ cls := "ClockForTalk$Town", name := "hasPerson", desc := "(I)Z" } : Jvm.MethodName)) ∈ li_ws := li_mem 888 (by decide +kernel) (by decide +kernel)
theorem dX8_hasPerson_0 : decode cX8_hasPerson 0 = .ok (.iload_n 1, 1) := by decide +kernel
theorem dX8_hasPerson_1 : decode cX8_hasPerson 1 = .ok (.ifCond .lt 15, 3) := by decide +kernel
theorem dX8_hasPerson_4 : decode cX8_hasPerson 4 = .ok (.iload_n 1, 1) := by decide +kernel
theorem dX8_hasPerson_5 : decode cX8_hasPerson 5 = .ok (.aload_n 0, 1) := by decide +kernel
theorem dX8_hasPerson_6 : decode cX8_hasPerson 6 = .ok (.getfield 33, 3) := by decide +kernel
theorem dX8_hasPerson_9 : decode cX8_hasPerson 9 = .ok (.if_icmp .ge 7, 3) := by decide +kernel
theorem dX8_hasPerson_12 : decode cX8_hasPerson 12 = .ok (.iconst 1, 1) := by decide +kernel
theorem dX8_hasPerson_13 : decode cX8_hasPerson 13 = .ok (.goto 4, 3) := by decide +kernel
theorem dX8_hasPerson_16 : decode cX8_hasPerson 16 = .ok (.iconst 0, 1) := by decide +kernel
theorem dX8_hasPerson_17 : decode cX8_hasPerson 17 = .ok (.ireturn, 1) := by decide +kernel
abbrev YX8_hasPerson : li_Y := (yX8_hasPerson, cX8_hasPerson, 2, (some .boolean))
theorem dX8_hasThing_0 : decode cX8_hasThing 0 = .ok (.iload_n 1, 1) := by decide +kernel
theorem dX8_hasThing_1 : decode cX8_hasThing 1 = .ok (.ifCond .lt 15, 3) := by decide +kernel
theorem dX8_hasThing_4 : decode cX8_hasThing 4 = .ok (.iload_n 1, 1) := by decide +kernel
theorem dX8_hasThing_5 : decode cX8_hasThing 5 = .ok (.aload_n 0, 1) := by decide +kernel
theorem dX8_hasThing_6 : decode cX8_hasThing 6 = .ok (.getfield 37, 3) := by decide +kernel
theorem dX8_hasThing_9 : decode cX8_hasThing 9 = .ok (.if_icmp .ge 7, 3) := by decide +kernel
theorem dX8_hasThing_12 : decode cX8_hasThing 12 = .ok (.iconst 1, 1) := by decide +kernel
theorem dX8_hasThing_13 : decode cX8_hasThing 13 = .ok (.goto 4, 3) := by decide +kernel
theorem dX8_hasThing_16 : decode cX8_hasThing 16 = .ok (.iconst 0, 1) := by decide +kernel
theorem dX8_hasThing_17 : decode cX8_hasThing 17 = .ok (.ireturn, 1) := by decide +kernel
abbrev YX8_hasThing : li_Y := (yX8_hasThing, cX8_hasThing, 2, (some .boolean))
theorem dX8_areTwo_0 : decode cX8_areTwo 0 = .ok (.aload_n 0, 1) := by decide +kernel
theorem dX8_areTwo_1 : decode cX8_areTwo 1 = .ok (.iload_n 1, 1) := by decide +kernel
theorem dX8_areTwo_2 : decode cX8_areTwo 2 = .ok (.invokevirtual 40, 3) := by decide +kernel
theorem dX8_areTwo_5 : decode cX8_areTwo 5 = .ok (.ifCond .eq 20, 3) := by decide +kernel
theorem dX8_areTwo_8 : decode cX8_areTwo 8 = .ok (.aload_n 0, 1) := by decide +kernel
theorem dX8_areTwo_9 : decode cX8_areTwo 9 = .ok (.iload_n 2, 1) := by decide +kernel
theorem dX8_areTwo_10 : decode cX8_areTwo 10 = .ok (.invokevirtual 40, 3) := by decide +kernel
theorem dX8_areTwo_13 : decode cX8_areTwo 13 = .ok (.ifCond .eq 12, 3) := by decide +kernel
theorem dX8_areTwo_16 : decode cX8_areTwo 16 = .ok (.iload_n 1, 1) := by decide +kernel
theorem dX8_areTwo_17 : decode cX8_areTwo 17 = .ok (.iload_n 2, 1) := by decide +kernel
theorem dX8_areTwo_18 : decode cX8_areTwo 18 = .ok (.if_icmp .eq 7, 3) := by decide +kernel
theorem dX8_areTwo_21 : decode cX8_areTwo 21 = .ok (.iconst 1, 1) := by decide +kernel
theorem dX8_areTwo_22 : decode cX8_areTwo 22 = .ok (.goto 4, 3) := by decide +kernel
theorem dX8_areTwo_25 : decode cX8_areTwo 25 = .ok (.iconst 0, 1) := by decide +kernel
theorem dX8_areTwo_26 : decode cX8_areTwo 26 = .ok (.ireturn, 1) := by decide +kernel
abbrev YX8_areTwo : li_Y := (yX8_areTwo, cX8_areTwo, 3, (some .boolean))
theorem dX8_apart_0 : decode cX8_apart 0 = .ok (.aload_n 0, 1) := by decide +kernel
theorem dX8_apart_1 : decode cX8_apart 1 = .ok (.getfield 9, 3) := by decide +kernel
theorem dX8_apart_4 : decode cX8_apart 4 = .ok (.iload_n 1, 1) := by decide +kernel
theorem dX8_apart_5 : decode cX8_apart 5 = .ok (.invokestatic 44, 3) := by decide +kernel
theorem dX8_apart_8 : decode cX8_apart 8 = .ok (.aload_n 0, 1) := by decide +kernel
theorem dX8_apart_9 : decode cX8_apart 9 = .ok (.getfield 9, 3) := by decide +kernel
theorem dX8_apart_12 : decode cX8_apart 12 = .ok (.iload_n 2, 1) := by decide +kernel
theorem dX8_apart_13 : decode cX8_apart 13 = .ok (.invokestatic 44, 3) := by decide +kernel
theorem dX8_apart_16 : decode cX8_apart 16 = .ok (.isub, 1) := by decide +kernel
theorem dX8_apart_17 : decode cX8_apart 17 = .ok (.invokestatic 48, 3) := by decide +kernel
theorem dX8_apart_20 : decode cX8_apart 20 = .ok (.ireturn, 1) := by decide +kernel
abbrev YX8_apart : li_Y := (yX8_apart, cX8_apart, 3, (some .int))
set_option maxRecDepth 100000 in
set_option maxHeartbeats 4000000 in
theorem k_X8_apart {l : Launch} {Z : li_Z} (d : Nat) (hd : 2 ≤ d) (p1 : Int32) (p2 : Int32) (M0 : li_M) : li_Met l Z YX8_apart d [.ref (Z.2.2 5), .int p1, .int p2] M0 (li_SI (fun i => False) M0) := by
  refine li_enter (by decide +kernel) (Nat.le_of_ble_eq_true rfl) ?_
  show li_T l Z YX8_apart d 0 [(0, .ref (Z.2.2 5)), (1, .int p1), (2, .int p2)] [] M0 _
  have hf : li_fr (fun i => False) M0 M0 := li_fr_refl
  refine li_aload_n 0 dX8_apart_0 rfl ?_
  refine li_getr (k := 2) (N := 9) (T := TX8) (C0 := RX8) dX8_apart_1 (by decide) sh_5 rfl rfl (by decide) (by decide) li_in8 w_183 ?_
  refine li_iload_n 1 dX8_apart_4 rfl ?_
  refine li_callN (n := 2) (As := [.ref (Z.2.2 6), .int p1]) dX8_apart_5 (k_X11_at (d - 1) (by omega) (by decide) sh_6 (by decide) p1 M0) (by omega) (Nat.le_of_ble_eq_true rfl) nw_15 w_569 w_101 w_570 (by decide +kernel) rfl rfl (Nat.le_of_ble_eq_true rfl) (fun r M2 h3 => ?_)
  obtain ⟨⟨x1, rfl⟩, h3⟩ := h3
  have hf := li_fr_trans hf h3 (fun i h => False.elim h)
  refine li_aload_n 0 dX8_apart_8 rfl ?_
  refine li_getr (k := 2) (N := 9) (T := TX8) (C0 := RX8) dX8_apart_9 (by decide) sh_5 rfl rfl (by decide) (by decide) li_in8 w_183 ?_
  refine li_iload_n 2 dX8_apart_12 rfl ?_
  refine li_callN (n := 2) (As := [.ref (Z.2.2 6), .int p2]) dX8_apart_13 (k_X11_at (d - 1) (by omega) (by decide) sh_6 (by decide) p2 M2) (by omega) (Nat.le_of_ble_eq_true rfl) nw_15 w_569 w_101 w_570 (by decide +kernel) rfl rfl (Nat.le_of_ble_eq_true rfl) (fun r M5 h6 => ?_)
  obtain ⟨⟨x4, rfl⟩, h6⟩ := h6
  have hf := li_fr_trans hf h6 (fun i h => False.elim h)
  refine li_isub dX8_apart_16 ?_
  refine li_top (fun x7 ex7 => ?_)
  refine li_mabs dX8_apart_17 (by omega) w_801 w_802 w_113 w_803 (Nat.le_of_ble_eq_true rfl) ?_
  refine li_top (fun x8 ex8 => ?_)
  exact li_iret dX8_apart_20 rfl rfl ⟨⟨_, rfl⟩, hf⟩
