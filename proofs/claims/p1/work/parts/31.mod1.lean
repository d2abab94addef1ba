theorem li_fr_none {M M' : li_M} (h : li_fr (fun _ => False) M M') : M' = M := by
  obtain ⟨h1, h2, h3⟩ := h
  have e1 : M'.1 = M.1 := funext fun i => h1 i id
  have e2 : M'.2.1 = M.2.1 := funext fun i => h2 i id
  obtain ⟨a, b, c⟩ := M
  obtain ⟨a', b', c'⟩ := M'
  simp only at e1 e2 h3
  rw [e1, e2, h3]
theorem w_56 : (Jvm.Cond.selects "ClockForTalkModel" ({ cls := "ClockForTalkModel", name := "isOne", desc := "(I)Z" } : Jvm.MethodName) ({ cls := "ClockForTalkModel", name := "isOne", desc := "(I)Z" } : Jvm.MethodName)) ∈ li_ws := li_mem 56 (by decide +kernel) (by decide +kernel)
theorem w_112 : (Jvm.Cond.initialized "ClockForTalkModel") ∈ li_ws := li_mem 112 (by decide +kernel) (by decide +kernel)
theorem w_1405 : (Jvm.Cond.fieldLink "ClockForTalkModel" (110 : Nat) "ClockForTalkModel" "people" "I") ∈ li_ws := li_mem 1405 (by decide +kernel) (by decide +kernel)
theorem w_1408 : (Jvm.Cond.fieldLink "ClockForTalkModel" (121 : Nat) "ClockForTalkModel" "things" "I") ∈ li_ws := li_mem 1408 (by decide +kernel) (by decide +kernel)
theorem w_1414 : (Jvm.Cond.fieldLink "ClockForTalkModel" (103 : Nat) "ClockForTalkModel" "thrown" "I") ∈ li_ws := li_mem 1414 (by decide +kernel) (by decide +kernel)
theorem w_1419 : (Jvm.Cond.fieldLink "ClockForTalkModel" (139 : Nat) "ClockForTalkModel" "wrong" "I") ∈ li_ws := li_mem 1419 (by decide +kernel) (by decide +kernel)
theorem w_1574 : (Jvm.Cond.methodLink "ClockForTalkModel" (113 : Nat) ({ cls := "ClockForTalkModel", name := "in", desc := "(III)Z" } : Jvm.MethodName)) ∈ li_ws := li_mem 1574 (by decide +kernel) (by decide +kernel)
theorem w_1575 : (Jvm.Cond.static ({ cls := "ClockForTalkModel", name := "in", desc := "(III)Z" } : Jvm.MethodName)) ∈ li_ws := li_mem 1575 (by decide +kernel) (by decide +kernel)
theorem w_1576 : (Jvm.Cond.code ({ cls := "ClockForTalkModel", name := "in", desc := "(III)Z" } : Jvm.MethodName) prog_13_method_3_code (3 : Nat) (Option.some Jvm.ClassFile.FieldType.boolean)) ∈ li_ws := li_mem 1576 (by decide +kernel) (by decide +kernel)
theorem w_1652 : (Jvm.Cond.methodLink "ClockForTalkModel" (117 : Nat) ({ cls := "ClockForTalkModel", name := "isOne", desc := "(I)Z" } : Jvm.MethodName)) ∈ li_ws := li_mem 1652 (by decide +kernel) (by decide +kernel)
theorem w_1654 : (Jvm.Cond.instanceMethod ({ cls := "ClockForTalkModel", name := "isOne", desc := "(I)Z" } : Jvm.MethodName)) ∈ li_ws := li_mem 1654 (by decide +kernel) (by decide +kernel)
theorem w_1655 : (Jvm.Cond.code ({ cls := "ClockForTalkModel", name := "isOne", desc := "(I)Z" } : Jvm.MethodName) prog_13_method_7_code (2 : Nat) (Option.some Jvm.ClassFile.FieldType.boolean)) ∈ li_ws := li_mem 1655 (by decide +kernel) (by decide +kernel)
theorem dX12_in_0 : decode cX12_in 0 = .ok (.iload_n 0, 1) := by decide +kernel
theorem dX12_in_1 : decode cX12_in 1 = .ok (.iload_n 1, 1) := by decide +kernel
theorem dX12_in_2 : decode cX12_in 2 = .ok (.if_icmp .lt 12, 3) := by decide +kernel
theorem dX12_in_5 : decode cX12_in 5 = .ok (.iload_n 0, 1) := by decide +kernel
theorem dX12_in_6 : decode cX12_in 6 = .ok (.iload_n 2, 1) := by decide +kernel
theorem dX12_in_7 : decode cX12_in 7 = .ok (.if_icmp .gt 7, 3) := by decide +kernel
theorem dX12_in_10 : decode cX12_in 10 = .ok (.iconst 1, 1) := by decide +kernel
theorem dX12_in_11 : decode cX12_in 11 = .ok (.goto 4, 3) := by decide +kernel
theorem dX12_in_14 : decode cX12_in 14 = .ok (.iconst 0, 1) := by decide +kernel
theorem dX12_in_15 : decode cX12_in 15 = .ok (.ireturn, 1) := by decide +kernel
abbrev YX12_in : li_Y := (yX12_in, cX12_in, 3, (some .boolean))
theorem dX12_lost_0 : decode cX12_lost 0 = .ok (.aload_n 0, 1) := by decide +kernel
theorem dX12_lost_1 : decode cX12_lost 1 = .ok (.iconst 1, 1) := by decide +kernel
theorem dX12_lost_2 : decode cX12_lost 2 = .ok (.putfield 103, 3) := by decide +kernel
theorem dX12_lost_5 : decode cX12_lost 5 = .ok (.iconst 0, 1) := by decide +kernel
theorem dX12_lost_6 : decode cX12_lost 6 = .ok (.ireturn, 1) := by decide +kernel
abbrev YX12_lost : li_Y := (yX12_lost, cX12_lost, 1, (some .int))
theorem dX12_thrown_0 : decode cX12_thrown 0 = .ok (.aload_n 0, 1) := by decide +kernel
theorem dX12_thrown_1 : decode cX12_thrown 1 = .ok (.getfield 103, 3) := by decide +kernel
theorem dX12_thrown_4 : decode cX12_thrown 4 = .ok (.ireturn, 1) := by decide +kernel
abbrev YX12_thrown : li_Y := (yX12_thrown, cX12_thrown, 1, (some .int))
theorem dX12_isOne_0 : decode cX12_isOne 0 = .ok (.iload_n 1, 1) := by decide +kernel
theorem dX12_isOne_1 : decode cX12_isOne 1 = .ok (.iconst 0, 1) := by decide +kernel
theorem dX12_isOne_2 : decode cX12_isOne 2 = .ok (.aload_n 0, 1) := by decide +kernel
theorem dX12_isOne_3 : decode cX12_isOne 3 = .ok (.getfield 110, 3) := by decide +kernel
theorem dX12_isOne_6 : decode cX12_isOne 6 = .ok (.iconst 1, 1) := by decide +kernel
theorem dX12_isOne_7 : decode cX12_isOne 7 = .ok (.isub, 1) := by decide +kernel
theorem dX12_isOne_8 : decode cX12_isOne 8 = .ok (.invokestatic 113, 3) := by decide +kernel
theorem dX12_isOne_11 : decode cX12_isOne 11 = .ok (.ireturn, 1) := by decide +kernel
abbrev YX12_isOne : li_Y := (yX12_isOne, cX12_isOne, 2, (some .boolean))
theorem dX12_areTwo_0 : decode cX12_areTwo 0 = .ok (.aload_n 0, 1) := by decide +kernel
theorem dX12_areTwo_1 : decode cX12_areTwo 1 = .ok (.iload_n 1, 1) := by decide +kernel
theorem dX12_areTwo_2 : decode cX12_areTwo 2 = .ok (.invokevirtual 117, 3) := by decide +kernel
theorem dX12_areTwo_5 : decode cX12_areTwo 5 = .ok (.ifCond .eq 20, 3) := by decide +kernel
theorem dX12_areTwo_8 : decode cX12_areTwo 8 = .ok (.aload_n 0, 1) := by decide +kernel
theorem dX12_areTwo_9 : decode cX12_areTwo 9 = .ok (.iload_n 2, 1) := by decide +kernel
theorem dX12_areTwo_10 : decode cX12_areTwo 10 = .ok (.invokevirtual 117, 3) := by decide +kernel
theorem dX12_areTwo_13 : decode cX12_areTwo 13 = .ok (.ifCond .eq 12, 3) := by decide +kernel
theorem dX12_areTwo_16 : decode cX12_areTwo 16 = .ok (.iload_n 1, 1) := by decide +kernel
theorem dX12_areTwo_17 : decode cX12_areTwo 17 = .ok (.iload_n 2, 1) := by decide +kernel
theorem dX12_areTwo_18 : decode cX12_areTwo 18 = .ok (.if_icmp .eq 7, 3) := by decide +kernel
theorem dX12_areTwo_21 : decode cX12_areTwo 21 = .ok (.iconst 1, 1) := by decide +kernel
theorem dX12_areTwo_22 : decode cX12_areTwo 22 = .ok (.goto 4, 3) := by decide +kernel
theorem dX12_areTwo_25 : decode cX12_areTwo 25 = .ok (.iconst 0, 1) := by decide +kernel
theorem dX12_areTwo_26 : decode cX12_areTwo 26 = .ok (.ireturn, 1) := by decide +kernel
abbrev YX12_areTwo : li_Y := (yX12_areTwo, cX12_areTwo, 3, (some .boolean))
theorem dX12_isThing_0 : decode cX12_isThing 0 = .ok (.iload_n 1, 1) := by decide +kernel
theorem dX12_isThing_1 : decode cX12_isThing 1 = .ok (.iconst 0, 1) := by decide +kernel
theorem dX12_isThing_2 : decode cX12_isThing 2 = .ok (.aload_n 0, 1) := by decide +kernel
theorem dX12_isThing_3 : decode cX12_isThing 3 = .ok (.getfield 121, 3) := by decide +kernel
theorem dX12_isThing_6 : decode cX12_isThing 6 = .ok (.iconst 1, 1) := by decide +kernel
theorem dX12_isThing_7 : decode cX12_isThing 7 = .ok (.isub, 1) := by decide +kernel
theorem dX12_isThing_8 : decode cX12_isThing 8 = .ok (.invokestatic 113, 3) := by decide +kernel
theorem dX12_isThing_11 : decode cX12_isThing 11 = .ok (.ireturn, 1) := by decide +kernel
abbrev YX12_isThing : li_Y := (yX12_isThing, cX12_isThing, 2, (some .boolean))
theorem dX12_fine_0 : decode cX12_fine 0 = .ok (.aload_n 0, 1) := by decide +kernel
theorem dX12_fine_1 : decode cX12_fine 1 = .ok (.getfield 139, 3) := by decide +kernel
theorem dX12_fine_4 : decode cX12_fine 4 = .ok (.iconst (-1), 1) := by decide +kernel
theorem dX12_fine_5 : decode cX12_fine 5 = .ok (.if_icmp .ne 7, 3) := by decide +kernel
theorem dX12_fine_8 : decode cX12_fine 8 = .ok (.iconst 1, 1) := by decide +kernel
theorem dX12_fine_9 : decode cX12_fine 9 = .ok (.goto 4, 3) := by decide +kernel
theorem dX12_fine_12 : decode cX12_fine 12 = .ok (.iconst 0, 1) := by decide +kernel
theorem dX12_fine_13 : decode cX12_fine 13 = .ok (.ireturn, 1) := by decide +kernel
abbrev YX12_fine : li_Y := (yX12_fine, cX12_fine, 1, (some .boolean))
set_option maxRecDepth 100000 in
set_option maxHeartbeats 4000000 in
theorem k_X12_in {l : Launch} {Z : li_Z} (d : Nat) (hd : 1 ≤ d) (p1 p2 p3 : Int32) (M0 : li_M) (hJ : li_J M0) : li_Met l Z YX12_in d [.int p1, .int p2, .int p3] M0 (fun r M' => ((r = some (.int 1) ∧ (p2.toInt ≤ p1.toInt ∧ p1.toInt ≤ p3.toInt)) ∨ (r = some (.int 0) ∧ (p1.toInt < p2.toInt ∨ p3.toInt < p1.toInt))) ∧ li_fs (fun i k => False) M0 M' ∧ li_J M') := by
  refine li_enter (by decide +kernel) (Nat.le_of_ble_eq_true rfl) ?_
  show li_T l Z YX12_in d 0 [(0, .int p1), (1, .int p2), (2, .int p3)] [] M0 _
  have hf : li_fs (fun i k => False) M0 M0 := li_fs_refl
  have gp1 := tl_rg p1
  have gp2 := tl_rg p2
  have gp3 := tl_rg p3
  refine li_iload_n 0 dX12_in_0 rfl ?_
  refine li_iload_n 1 dX12_in_1 rfl ?_
  refine li_icmp_lt 14 dX12_in_2 (by decide) (fun c1 => ?_) (fun c1 => ?_)
  · have tc1 : p1.toInt < p2.toInt := tl_lt c1
    refine li_iconst 0 dX12_in_14 (by decide) ?_
    have z0 : (0 : Int32).toInt = 0 := rfl
    exact li_iret dX12_in_15 rfl (li_nz (Or.inl rfl)) ⟨Or.inr ⟨rfl, (by omega)⟩, hf, hJ⟩
  · have tc1 : p2.toInt ≤ p1.toInt := tl_nlt c1
    refine li_iload_n 0 dX12_in_5 rfl ?_
    refine li_iload_n 2 dX12_in_6 rfl ?_
    refine li_icmp_gt 14 dX12_in_7 (by decide) (fun c2 => ?_) (fun c2 => ?_)
    · have tc2 : p3.toInt < p1.toInt := tl_lt c2
      refine li_iconst 0 dX12_in_14 (by decide) ?_
      have z0 : (0 : Int32).toInt = 0 := rfl
      exact li_iret dX12_in_15 rfl (li_nz (Or.inl rfl)) ⟨Or.inr ⟨rfl, (by omega)⟩, hf, hJ⟩
    · have tc2 : p1.toInt ≤ p3.toInt := tl_nlt c2
      refine li_iconst 1 dX12_in_10 (by decide) ?_
      refine li_goto 15 dX12_in_11 (by decide) ?_
      have z1 : (1 : Int32).toInt = 1 := rfl
      exact li_iret dX12_in_15 rfl (li_nz (Or.inr rfl)) ⟨Or.inl ⟨rfl, (by omega)⟩, hf, hJ⟩
set_option maxRecDepth 100000 in
set_option maxHeartbeats 4000000 in
theorem k_X12_isOne {l : Launch} {Z : li_Z} (d : Nat) (hd : 2 ≤ d) (p1 : Int32) (M0 : li_M) (hJ : li_J M0) : li_Met l Z YX12_isOne d [.ref (Z.2.2 175), .int p1] M0 (fun r M' => ((r = some (.int 1) ∧ (0 ≤ p1.toInt ∧ p1.toInt < (M0.1 175 1).toInt)) ∨ (r = some (.int 0) ∧ (p1.toInt < 0 ∨ (M0.1 175 1).toInt ≤ p1.toInt))) ∧ li_fs (fun i k => False) M0 M' ∧ li_J M') := by
  refine li_enter (by decide +kernel) (Nat.le_of_ble_eq_true rfl) ?_
  show li_T l Z YX12_isOne d 0 [(0, .ref (Z.2.2 175)), (1, .int p1)] [] M0 _
  have hf : li_fs (fun i k => False) M0 M0 := li_fs_refl
  have gp1 := tl_rg p1
  refine li_iload_n 1 dX12_isOne_0 rfl ?_
  refine li_iconst 0 dX12_isOne_1 (by decide) ?_
  refine li_aload_n 0 dX12_isOne_2 rfl ?_
  refine li_geti (k := 1) (N := 52) (T := TX12) (C0 := RX12) dX12_isOne_3 (by decide) sh_175 rfl rfl (by decide) li_in12 w_1405 ?_
  refine li_top (fun x1 ex1 => ?_)
  have gx1 : 0 ≤ x1.toInt ∧ x1.toInt ≤ 6 := by rw [ex1]; exact J_sl1 hJ
  have sx1 : x1.toInt = (M0.1 175 1).toInt := tl_slot (ex1.trans (hf.1 175 1 id))
  refine li_iconst 1 dX12_isOne_6 (by decide) ?_
  refine li_isub dX12_isOne_7 ?_
  refine li_top (fun x2 ex2 => ?_)
  have z1 : (1 : Int32).toInt = 1 := rfl
  try (have tx2 : x2.toInt = (x1 : Int32).toInt - (1 : Int32).toInt := tl_sub ex2 (by omega))
  have z0 : (0 : Int32).toInt = 0 := rfl
  refine li_callS (n := 3) (As := [.int p1, .int 0, .int x2]) dX12_isOne_8 (k_X12_in (d - 1) (by omega) p1 0 x2 M0 hJ ) (by omega) (Nat.le_of_ble_eq_true rfl) w_1574 w_1575 w_112 w_1576 (by decide +kernel) rfl rfl (Nat.le_of_ble_eq_true rfl) (fun r M4 h5 => ?_)
  obtain ⟨qx3, h5, jM4⟩ := h5
  have hf := li_fs_trans hf h5 (fun i k h => False.elim h)
  have hJ := jM4
  rcases qx3 with ⟨rfl, qx3⟩ | ⟨rfl, qx3⟩
  · skip
    have z1 : (1 : Int32).toInt = 1 := rfl
    exact li_iret dX12_isOne_11 rfl (li_nz (Or.inr rfl)) ⟨Or.inl ⟨rfl, (by omega)⟩, hf, hJ⟩
  · skip
    have z0 : (0 : Int32).toInt = 0 := rfl
    exact li_iret dX12_isOne_11 rfl (li_nz (Or.inl rfl)) ⟨Or.inr ⟨rfl, (by omega)⟩, hf, hJ⟩
set_option maxRecDepth 100000 in
set_option maxHeartbeats 4000000 in
theorem k_X12_areTwo {l : Launch} {Z : li_Z} (d : Nat) (hd : 3 ≤ d) (p1 p2 : Int32) (M0 : li_M) (hJ : li_J M0) : li_Met l Z YX12_areTwo d [.ref (Z.2.2 175), .int p1, .int p2] M0 (fun r M' => ((r = some (.int 1) ∧ (0 ≤ p1.toInt ∧ p1.toInt < (M0.1 175 1).toInt ∧ 0 ≤ p2.toInt ∧ p2.toInt < (M0.1 175 1).toInt ∧ ¬ p1.toInt = p2.toInt)) ∨ (r = some (.int 0) ∧ (p1.toInt < 0 ∨ (M0.1 175 1).toInt ≤ p1.toInt ∨ p2.toInt < 0 ∨ (M0.1 175 1).toInt ≤ p2.toInt ∨ p1.toInt = p2.toInt))) ∧ li_fs (fun i k => False) M0 M' ∧ li_J M') := by
  refine li_enter (by decide +kernel) (Nat.le_of_ble_eq_true rfl) ?_
  show li_T l Z YX12_areTwo d 0 [(0, .ref (Z.2.2 175)), (1, .int p1), (2, .int p2)] [] M0 _
  have hf : li_fs (fun i k => False) M0 M0 := li_fs_refl
  have gp1 := tl_rg p1
  have gp2 := tl_rg p2
  have rM0_1 := J_sl1 (M := M0) hJ
  refine li_aload_n 0 dX12_areTwo_0 rfl ?_
  refine li_iload_n 1 dX12_areTwo_1 rfl ?_
  refine li_callV (n := 1) (As := [.int p1]) dX12_areTwo_2 (k_X12_isOne (d - 1) (by omega) p1 M0 hJ ) (by omega) (Nat.le_of_ble_eq_true rfl) w_1652 w_1654 w_56 w_112 w_1655 (by decide +kernel) rfl (by decide) sh_175 rfl rfl (Nat.le_of_ble_eq_true rfl) (fun r M2 h3 => ?_)
  obtain ⟨qx1, h3, jM2⟩ := h3
  have hf := li_fs_trans hf h3 (fun i k h => False.elim h)
  have hJ := jM2
  have rM2_1 := J_sl1 (M := M2) hJ
  have mM2_1 : (M2.1 175 1).toInt = (M0.1 175 1).toInt := tl_slot (h3.1 175 1 id)
  rcases qx1 with ⟨rfl, qx1⟩ | ⟨rfl, qx1⟩
  · skip
    refine li_if_eq 25 dX12_areTwo_5 (by decide) (fun c => absurd c (by decide)) (fun c => ?_)
    refine li_aload_n 0 dX12_areTwo_8 rfl ?_
    refine li_iload_n 2 dX12_areTwo_9 rfl ?_
    refine li_callV (n := 1) (As := [.int p2]) dX12_areTwo_10 (k_X12_isOne (d - 1) (by omega) p2 M2 hJ ) (by omega) (Nat.le_of_ble_eq_true rfl) w_1652 w_1654 w_56 w_112 w_1655 (by decide +kernel) rfl (by decide) sh_175 rfl rfl (Nat.le_of_ble_eq_true rfl) (fun r M6 h7 => ?_)
    obtain ⟨qx5, h7, jM6⟩ := h7
    have hf := li_fs_trans hf h7 (fun i k h => False.elim h)
    have hJ := jM6
    have rM6_1 := J_sl1 (M := M6) hJ
    have mM6_1 : (M6.1 175 1).toInt = (M2.1 175 1).toInt := tl_slot (h7.1 175 1 id)
    rcases qx5 with ⟨rfl, qx5⟩ | ⟨rfl, qx5⟩
    · skip
      refine li_if_eq 25 dX12_areTwo_13 (by decide) (fun c => absurd c (by decide)) (fun c => ?_)
      refine li_iload_n 1 dX12_areTwo_16 rfl ?_
      refine li_iload_n 2 dX12_areTwo_17 rfl ?_
      refine li_icmp_eq 25 dX12_areTwo_18 (by decide) (fun c9 => ?_) (fun c9 => ?_)
      · have tc9 : p1.toInt = p2.toInt := tl_eq c9
        refine li_iconst 0 dX12_areTwo_25 (by decide) ?_
        have z0 : (0 : Int32).toInt = 0 := rfl
        exact li_iret dX12_areTwo_26 rfl (li_nz (Or.inl rfl)) ⟨Or.inr ⟨rfl, (by omega)⟩, hf, hJ⟩
      · have tc9 : ¬ p1.toInt = p2.toInt := tl_ne c9
        refine li_iconst 1 dX12_areTwo_21 (by decide) ?_
        refine li_goto 26 dX12_areTwo_22 (by decide) ?_
        have z1 : (1 : Int32).toInt = 1 := rfl
        exact li_iret dX12_areTwo_26 rfl (li_nz (Or.inr rfl)) ⟨Or.inl ⟨rfl, (by omega)⟩, hf, hJ⟩
    · skip
      refine li_if_eq 25 dX12_areTwo_13 (by decide) (fun c => ?_) (fun c => absurd rfl c)
      refine li_iconst 0 dX12_areTwo_25 (by decide) ?_
      have z0 : (0 : Int32).toInt = 0 := rfl
      exact li_iret dX12_areTwo_26 rfl (li_nz (Or.inl rfl)) ⟨Or.inr ⟨rfl, (by omega)⟩, hf, hJ⟩
  · skip
    refine li_if_eq 25 dX12_areTwo_5 (by decide) (fun c => ?_) (fun c => absurd rfl c)
    refine li_iconst 0 dX12_areTwo_25 (by decide) ?_
    have z0 : (0 : Int32).toInt = 0 := rfl
    exact li_iret dX12_areTwo_26 rfl (li_nz (Or.inl rfl)) ⟨Or.inr ⟨rfl, (by omega)⟩, hf, hJ⟩
set_option maxRecDepth 100000 in
set_option maxHeartbeats 4000000 in
theorem k_X12_isThing {l : Launch} {Z : li_Z} (d : Nat) (hd : 2 ≤ d) (p1 : Int32) (M0 : li_M) (hJ : li_J M0) : li_Met l Z YX12_isThing d [.ref (Z.2.2 175), .int p1] M0 (fun r M' => ((r = some (.int 1) ∧ (0 ≤ p1.toInt ∧ p1.toInt < (M0.1 175 4).toInt)) ∨ (r = some (.int 0) ∧ (p1.toInt < 0 ∨ (M0.1 175 4).toInt ≤ p1.toInt))) ∧ li_fs (fun i k => False) M0 M' ∧ li_J M') := by
  refine li_enter (by decide +kernel) (Nat.le_of_ble_eq_true rfl) ?_
  show li_T l Z YX12_isThing d 0 [(0, .ref (Z.2.2 175)), (1, .int p1)] [] M0 _
  have hf : li_fs (fun i k => False) M0 M0 := li_fs_refl
  have gp1 := tl_rg p1
  refine li_iload_n 1 dX12_isThing_0 rfl ?_
  refine li_iconst 0 dX12_isThing_1 (by decide) ?_
  refine li_aload_n 0 dX12_isThing_2 rfl ?_
  refine li_geti (k := 4) (N := 52) (T := TX12) (C0 := RX12) dX12_isThing_3 (by decide) sh_175 rfl rfl (by decide) li_in12 w_1408 ?_
  refine li_top (fun x1 ex1 => ?_)
  have gx1 : 0 ≤ x1.toInt ∧ x1.toInt ≤ 8 := by rw [ex1]; exact J_sl4 hJ
  have sx1 : x1.toInt = (M0.1 175 4).toInt := tl_slot (ex1.trans (hf.1 175 4 id))
  refine li_iconst 1 dX12_isThing_6 (by decide) ?_
  refine li_isub dX12_isThing_7 ?_
  refine li_top (fun x2 ex2 => ?_)
  have z1 : (1 : Int32).toInt = 1 := rfl
  try (have tx2 : x2.toInt = (x1 : Int32).toInt - (1 : Int32).toInt := tl_sub ex2 (by omega))
  have z0 : (0 : Int32).toInt = 0 := rfl
  refine li_callS (n := 3) (As := [.int p1, .int 0, .int x2]) dX12_isThing_8 (k_X12_in (d - 1) (by omega) p1 0 x2 M0 hJ ) (by omega) (Nat.le_of_ble_eq_true rfl) w_1574 w_1575 w_112 w_1576 (by decide +kernel) rfl rfl (Nat.le_of_ble_eq_true rfl) (fun r M4 h5 => ?_)
  obtain ⟨qx3, h5, jM4⟩ := h5
  have hf := li_fs_trans hf h5 (fun i k h => False.elim h)
  have hJ := jM4
  rcases qx3 with ⟨rfl, qx3⟩ | ⟨rfl, qx3⟩
  · skip
    have z1 : (1 : Int32).toInt = 1 := rfl
    exact li_iret dX12_isThing_11 rfl (li_nz (Or.inr rfl)) ⟨Or.inl ⟨rfl, (by omega)⟩, hf, hJ⟩
  · skip
    have z0 : (0 : Int32).toInt = 0 := rfl
    exact li_iret dX12_isThing_11 rfl (li_nz (Or.inl rfl)) ⟨Or.inr ⟨rfl, (by omega)⟩, hf, hJ⟩
set_option maxRecDepth 100000 in
set_option maxHeartbeats 4000000 in
theorem k_X12_fine {l : Launch} {Z : li_Z} (d : Nat) (hd : 1 ≤ d) (M0 : li_M) (hJ : li_J M0) : li_Met l Z YX12_fine d [.ref (Z.2.2 175)] M0 (fun r M' => ((r = some (.int 1) ∧ (M0.1 175 15).toInt = -1) ∨ (r = some (.int 0) ∧ ¬ (M0.1 175 15).toInt = -1)) ∧ li_fs (fun i k => False) M0 M' ∧ li_J M') := by
  refine li_enter (by decide +kernel) (Nat.le_of_ble_eq_true rfl) ?_
  show li_T l Z YX12_fine d 0 [(0, .ref (Z.2.2 175))] [] M0 _
  have hf : li_fs (fun i k => False) M0 M0 := li_fs_refl
  refine li_aload_n 0 dX12_fine_0 rfl ?_
  refine li_geti (k := 15) (N := 52) (T := TX12) (C0 := RX12) dX12_fine_1 (by decide) sh_175 rfl rfl (by decide) li_in12 w_1419 ?_
  refine li_top (fun x1 ex1 => ?_)
  have gx1 : -1 ≤ x1.toInt ∧ x1.toInt ≤ 81 := by rw [ex1]; exact J_sl15 hJ
  have sx1 : x1.toInt = (M0.1 175 15).toInt := tl_slot (ex1.trans (hf.1 175 15 id))
  refine li_iconst (-1) dX12_fine_4 (by decide) ?_
  refine li_icmp_ne 12 dX12_fine_5 (by decide) (fun c2 => ?_) (fun c2 => ?_)
  · have tc2 : ¬ x1.toInt = (-1) := tl_ne c2
    refine li_iconst 0 dX12_fine_12 (by decide) ?_
    have z0 : (0 : Int32).toInt = 0 := rfl
    exact li_iret dX12_fine_13 rfl (li_nz (Or.inl rfl)) ⟨Or.inr ⟨rfl, (by omega)⟩, hf, hJ⟩
  · have tc2 : x1.toInt = (-1) := tl_eq c2
    refine li_iconst 1 dX12_fine_8 (by decide) ?_
    refine li_goto 13 dX12_fine_9 (by decide) ?_
    have z1 : (1 : Int32).toInt = 1 := rfl
    exact li_iret dX12_fine_13 rfl (li_nz (Or.inr rfl)) ⟨Or.inl ⟨rfl, (by omega)⟩, hf, hJ⟩
