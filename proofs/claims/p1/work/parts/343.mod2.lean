theorem w_1433 : (Jvm.Cond.fieldLink "ClockForTalkModel" (50 : Nat) "ClockForTalkModel" "least" "[I") ∈ li_ws := li_mem 1433 (by decide +kernel) (by decide +kernel)
theorem dX12_worthOf_0 : decode cX12_worthOf 0 = .ok (.iconst 0, 1) := by decide +kernel
theorem dX12_worthOf_1 : decode cX12_worthOf 1 = .ok (.istore_n 2, 1) := by decide +kernel
theorem dX12_worthOf_2 : decode cX12_worthOf 2 = .ok (.iconst 0, 1) := by decide +kernel
theorem dX12_worthOf_3 : decode cX12_worthOf 3 = .ok (.istore_n 3, 1) := by decide +kernel
theorem dX12_worthOf_4 : decode cX12_worthOf 4 = .ok (.iload_n 3, 1) := by decide +kernel
theorem dX12_worthOf_5 : decode cX12_worthOf 5 = .ok (.aload_n 0, 1) := by decide +kernel
theorem dX12_worthOf_6 : decode cX12_worthOf 6 = .ok (.getfield 121, 3) := by decide +kernel
theorem dX12_worthOf_9 : decode cX12_worthOf 9 = .ok (.if_icmp .ge 30, 3) := by decide +kernel
theorem dX12_worthOf_39 : decode cX12_worthOf 39 = .ok (.iload_n 2, 1) := by decide +kernel
theorem dX12_worthOf_40 : decode cX12_worthOf 40 = .ok (.ireturn, 1) := by decide +kernel
abbrev YX12_worthOf : li_Y := (yX12_worthOf, cX12_worthOf, 4, (some .int))
theorem dX12_sumOf_0 : decode cX12_sumOf 0 = .ok (.iconst 0, 1) := by decide +kernel
theorem dX12_sumOf_1 : decode cX12_sumOf 1 = .ok (.istore_n 2, 1) := by decide +kernel
theorem dX12_sumOf_2 : decode cX12_sumOf 2 = .ok (.iconst 0, 1) := by decide +kernel
theorem dX12_sumOf_3 : decode cX12_sumOf 3 = .ok (.istore_n 3, 1) := by decide +kernel
theorem dX12_sumOf_4 : decode cX12_sumOf 4 = .ok (.iload_n 3, 1) := by decide +kernel
theorem dX12_sumOf_5 : decode cX12_sumOf 5 = .ok (.aload_n 0, 1) := by decide +kernel
theorem dX12_sumOf_6 : decode cX12_sumOf 6 = .ok (.getfield 121, 3) := by decide +kernel
theorem dX12_sumOf_9 : decode cX12_sumOf 9 = .ok (.if_icmp .ge 30, 3) := by decide +kernel
theorem dX12_sumOf_39 : decode cX12_sumOf 39 = .ok (.iload_n 2, 1) := by decide +kernel
theorem dX12_sumOf_40 : decode cX12_sumOf 40 = .ok (.ireturn, 1) := by decide +kernel
abbrev YX12_sumOf : li_Y := (yX12_sumOf, cX12_sumOf, 4, (some .int))
theorem dX12_allClocks_0 : decode cX12_allClocks 0 = .ok (.iconst 0, 1) := by decide +kernel
theorem dX12_allClocks_1 : decode cX12_allClocks 1 = .ok (.istore_n 1, 1) := by decide +kernel
theorem dX12_allClocks_2 : decode cX12_allClocks 2 = .ok (.iconst 0, 1) := by decide +kernel
theorem dX12_allClocks_3 : decode cX12_allClocks 3 = .ok (.istore_n 2, 1) := by decide +kernel
theorem dX12_allClocks_4 : decode cX12_allClocks 4 = .ok (.iload_n 2, 1) := by decide +kernel
theorem dX12_allClocks_5 : decode cX12_allClocks 5 = .ok (.aload_n 0, 1) := by decide +kernel
theorem dX12_allClocks_6 : decode cX12_allClocks 6 = .ok (.getfield 110, 3) := by decide +kernel
theorem dX12_allClocks_9 : decode cX12_allClocks 9 = .ok (.if_icmp .ge 18, 3) := by decide +kernel
theorem dX12_allClocks_27 : decode cX12_allClocks 27 = .ok (.iload_n 1, 1) := by decide +kernel
theorem dX12_allClocks_28 : decode cX12_allClocks 28 = .ok (.ireturn, 1) := by decide +kernel
abbrev YX12_allClocks : li_Y := (yX12_allClocks, cX12_allClocks, 3, (some .int))
theorem dX12_isLeft_0 : decode cX12_isLeft 0 = .ok (.iload_n 0, 1) := by decide +kernel
theorem dX12_isLeft_1 : decode cX12_isLeft 1 = .ok (.iconst 0, 1) := by decide +kernel
theorem dX12_isLeft_2 : decode cX12_isLeft 2 = .ok (.bipush 60, 2) := by decide +kernel
theorem dX12_isLeft_4 : decode cX12_isLeft 4 = .ok (.invokestatic 113, 3) := by decide +kernel
theorem dX12_isLeft_7 : decode cX12_isLeft 7 = .ok (.ireturn, 1) := by decide +kernel
abbrev YX12_isLeft : li_Y := (yX12_isLeft, cX12_isLeft, 1, (some .boolean))
set_option maxRecDepth 100000 in
set_option maxHeartbeats 4000000 in
theorem k_X12_isLeft {l : Launch} {Z : li_Z} (d : Nat) (hd : 2 ≤ d) (p1 : Int32) (M0 : li_M) (hJ : li_J M0) : li_Met l Z YX12_isLeft d [.int p1] M0 (fun r M' => ((r = some (.int 1) ∧ (0 ≤ p1.toInt ∧ p1.toInt ≤ 60)) ∨ (r = some (.int 0) ∧ (p1.toInt < 0 ∨ 60 < p1.toInt))) ∧ li_fs (fun i k => False) M0 M' ∧ li_J M') := by
  refine li_enter (by decide +kernel) (Nat.le_of_ble_eq_true rfl) ?_
  show li_T l Z YX12_isLeft d 0 [(0, .int p1)] [] M0 _
  have hf : li_fs (fun i k => False) M0 M0 := li_fs_refl
  have gp1 := tl_rg p1
  refine li_iload_n 0 dX12_isLeft_0 rfl ?_
  refine li_iconst 0 dX12_isLeft_1 (by decide) ?_
  refine li_bipush 60 dX12_isLeft_2 (by decide) ?_
  have z0 : (0 : Int32).toInt = 0 := rfl
  have z60 : (60 : Int32).toInt = 60 := rfl
  refine li_callS (n := 3) (As := [.int p1, .int 0, .int 60]) dX12_isLeft_4 (k_X12_in (d - 1) (by omega) p1 0 60 M0 hJ ) (by omega) (Nat.le_of_ble_eq_true rfl) w_1574 w_1575 w_112 w_1576 (by decide +kernel) rfl rfl (Nat.le_of_ble_eq_true rfl) (fun r M2 h3 => ?_)
  obtain ⟨qx1, h3, jM2⟩ := h3
  have hf := li_fs_trans hf h3 (fun i k h => False.elim h)
  have hJ := jM2
  rcases qx1 with ⟨rfl, qx1⟩ | ⟨rfl, qx1⟩
  · skip
    have z1 : (1 : Int32).toInt = 1 := rfl
    exact li_iret dX12_isLeft_7 rfl (li_nz (Or.inr rfl)) ⟨Or.inl ⟨rfl, (by omega)⟩, hf, hJ⟩
  · skip
    have z0 : (0 : Int32).toInt = 0 := rfl
    exact li_iret dX12_isLeft_7 rfl (li_nz (Or.inl rfl)) ⟨Or.inr ⟨rfl, (by omega)⟩, hf, hJ⟩
