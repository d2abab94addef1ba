theorem w_122 : (Jvm.Cond.initialized "java/util/NoSuchElementException") ∈ li_ws := li_mem 122 (by decide +kernel) (by decide +kernel)
theorem w_1303 : (Jvm.Cond.classLink "ClockForTalk" (132 : Nat) "java/util/NoSuchElementException") ∈ li_ws := li_mem 1303 (by decide +kernel) (by decide +kernel)
theorem dX11_person_0 : decode cX11_person 0 = .ok (.aload_n 0, 1) := by decide +kernel
theorem dX11_person_1 : decode cX11_person 1 = .ok (.getfield 26, 3) := by decide +kernel
theorem dX11_person_4 : decode cX11_person 4 = .ok (.iload_n 1, 1) := by decide +kernel
theorem dX11_person_5 : decode cX11_person 5 = .ok (.invokevirtual 125, 3) := by decide +kernel
theorem dX11_person_8 : decode cX11_person 8 = .ok (.ifCond .eq 13, 3) := by decide +kernel
theorem dX11_person_21 : decode cX11_person 21 = .ok (.new 132, 3) := by decide +kernel
theorem dX11_person_24 : decode cX11_person 24 = .ok (.dup, 1) := by decide +kernel
theorem dX11_person_25 : decode cX11_person 25 = .ok (.ldc 134, 2) := by decide +kernel
theorem dX11_person_27 : decode cX11_person 27 = .ok (.invokespecial 136, 3) := by decide +kernel
theorem dX11_person_30 : decode cX11_person 30 = .ok (.athrow, 1) := by decide +kernel
abbrev YX11_person : li_Y := (yX11_person, cX11_person, 3, (some .int))
theorem dX11_thing_0 : decode cX11_thing 0 = .ok (.aload_n 0, 1) := by decide +kernel
theorem dX11_thing_1 : decode cX11_thing 1 = .ok (.getfield 26, 3) := by decide +kernel
theorem dX11_thing_4 : decode cX11_thing 4 = .ok (.iload_n 1, 1) := by decide +kernel
theorem dX11_thing_5 : decode cX11_thing 5 = .ok (.invokevirtual 170, 3) := by decide +kernel
theorem dX11_thing_8 : decode cX11_thing 8 = .ok (.ifCond .eq 13, 3) := by decide +kernel
theorem dX11_thing_21 : decode cX11_thing 21 = .ok (.new 132, 3) := by decide +kernel
theorem dX11_thing_24 : decode cX11_thing 24 = .ok (.dup, 1) := by decide +kernel
theorem dX11_thing_25 : decode cX11_thing 25 = .ok (.ldc 173, 2) := by decide +kernel
theorem dX11_thing_27 : decode cX11_thing 27 = .ok (.invokespecial 136, 3) := by decide +kernel
theorem dX11_thing_30 : decode cX11_thing 30 = .ok (.athrow, 1) := by decide +kernel
abbrev YX11_thing : li_Y := (yX11_thing, cX11_thing, 3, (some .int))
theorem dX11_loan_0 : decode cX11_loan 0 = .ok (.iload_n 1, 1) := by decide +kernel
theorem dX11_loan_1 : decode cX11_loan 1 = .ok (.iconst 0, 1) := by decide +kernel
theorem dX11_loan_2 : decode cX11_loan 2 = .ok (.aload_n 0, 1) := by decide +kernel
theorem dX11_loan_3 : decode cX11_loan 3 = .ok (.getfield 33, 3) := by decide +kernel
theorem dX11_loan_6 : decode cX11_loan 6 = .ok (.getfield 204, 3) := by decide +kernel
theorem dX11_loan_9 : decode cX11_loan 9 = .ok (.iconst 1, 1) := by decide +kernel
theorem dX11_loan_10 : decode cX11_loan 10 = .ok (.isub, 1) := by decide +kernel
theorem dX11_loan_11 : decode cX11_loan 11 = .ok (.invokestatic 128, 3) := by decide +kernel
theorem dX11_loan_14 : decode cX11_loan 14 = .ok (.ifCond .eq 12, 3) := by decide +kernel
theorem dX11_loan_26 : decode cX11_loan 26 = .ok (.new 132, 3) := by decide +kernel
theorem dX11_loan_29 : decode cX11_loan 29 = .ok (.dup, 1) := by decide +kernel
theorem dX11_loan_30 : decode cX11_loan 30 = .ok (.ldc 207, 2) := by decide +kernel
theorem dX11_loan_32 : decode cX11_loan 32 = .ok (.invokespecial 136, 3) := by decide +kernel
theorem dX11_loan_35 : decode cX11_loan 35 = .ok (.athrow, 1) := by decide +kernel
abbrev YX11_loan : li_Y := (yX11_loan, cX11_loan, 3, (some .int))
theorem dX11_row_0 : decode cX11_row 0 = .ok (.iload_n 1, 1) := by decide +kernel
theorem dX11_row_1 : decode cX11_row 1 = .ok (.iconst 0, 1) := by decide +kernel
theorem dX11_row_2 : decode cX11_row 2 = .ok (.aload_n 0, 1) := by decide +kernel
theorem dX11_row_3 : decode cX11_row 3 = .ok (.getfield 19, 3) := by decide +kernel
theorem dX11_row_6 : decode cX11_row 6 = .ok (.getfield 432, 3) := by decide +kernel
theorem dX11_row_9 : decode cX11_row 9 = .ok (.iconst 1, 1) := by decide +kernel
theorem dX11_row_10 : decode cX11_row 10 = .ok (.isub, 1) := by decide +kernel
theorem dX11_row_11 : decode cX11_row 11 = .ok (.invokestatic 128, 3) := by decide +kernel
theorem dX11_row_14 : decode cX11_row 14 = .ok (.ifCond .ne 14, 3) := by decide +kernel
theorem dX11_row_17 : decode cX11_row 17 = .ok (.new 132, 3) := by decide +kernel
theorem dX11_row_20 : decode cX11_row 20 = .ok (.dup, 1) := by decide +kernel
theorem dX11_row_21 : decode cX11_row 21 = .ok (.ldc_w 433, 3) := by decide +kernel
theorem dX11_row_24 : decode cX11_row 24 = .ok (.invokespecial 136, 3) := by decide +kernel
theorem dX11_row_27 : decode cX11_row 27 = .ok (.athrow, 1) := by decide +kernel
abbrev YX11_row : li_Y := (yX11_row, cX11_row, 2, (some .int))
set_option maxRecDepth 100000 in
set_option maxHeartbeats 4000000 in
theorem k2_X12_keep {l : Launch} {Z : li_Z} (d : Nat) (hd : 2 ≤ d) (p1 : Int32) (M0 : li_M) (hJ : li_J M0) : li_Met l Z YX12_keep d [.ref (Z.2.2 175), .int p1] M0 (fun r M' => ((r = some (.int 1) ∧ (0 ≤ p1.toInt ∧ p1.toInt ≤ 1)) ∨ (r = some (.int 0) ∧ (p1.toInt < 0 ∨ 1 < p1.toInt))) ∧ li_fs (fun i k => i = 201 ∨ i = 202 ∨ i = 203 ∨ (i = 175 ∧ k = 10)) M0 M' ∧ li_J M') := by
  refine li_enter (by decide +kernel) (Nat.le_of_ble_eq_true rfl) ?_
  show li_T l Z YX12_keep d 0 [(0, .ref (Z.2.2 175)), (1, .int p1)] [] M0 _
  have hf : li_fs (fun i k => i = 201 ∨ i = 202 ∨ i = 203 ∨ (i = 175 ∧ k = 10)) M0 M0 := li_fs_refl
  have gp1 := tl_rg p1
  refine li_aload_n 0 dX12_keep_0 rfl ?_
  refine li_iconst 0 dX12_keep_1 (by decide) ?_
  refine li_puti (k := 10) (N := 52) (T := TX12) (C0 := RX12) dX12_keep_2 (by decide) sh_175 rfl rfl (by decide) li_in12 tyX12_ok nmX12 rfl rfl rfl rfl w_1414 ?_
  refine li_nm (fun M1 eM1 => ?_)
  have hf := li_fs_ui hf (Or.inr (Or.inr (Or.inr (⟨rfl, rfl⟩)))) eM1
  have z0 : (0 : Int32).toInt = 0 := rfl
  have hJ := hJ.put (k := 10) (by decide) (rg_free rfl) eM1
  refine li_iload_n 1 dX12_keep_5 rfl ?_
  refine li_iconst 0 dX12_keep_6 (by decide) ?_
  refine li_iconst 1 dX12_keep_7 (by decide) ?_
  have z0 : (0 : Int32).toInt = 0 := rfl
  have z1 : (1 : Int32).toInt = 1 := rfl
  refine li_callS (n := 3) (As := [.int p1, .int 0, .int 1]) dX12_keep_8 (k_X12_in (d - 1) (by omega) p1 0 1 M1 hJ ) (by omega) (Nat.le_of_ble_eq_true rfl) w_1574 w_1575 w_112 w_1576 (by decide +kernel) rfl rfl (Nat.le_of_ble_eq_true rfl) (fun r M3 h4 => ?_)
  obtain ⟨qx2, h4, jM3⟩ := h4
  have hf := li_fs_trans hf h4 (fun i k h => False.elim h)
  have hJ := jM3
  rcases qx2 with ⟨rfl, qx2⟩ | ⟨rfl, qx2⟩
  · skip
    refine li_if_ne 16 dX12_keep_11 (by decide) (fun c => ?_) (fun c => absurd c (by decide))
    refine li_aload_n 0 dX12_keep_16 rfl ?_
    refine li_getr (k := 50) (N := 52) (T := TX12) (C0 := RX12) dX12_keep_17 (by decide) sh_175 rfl rfl (by decide) (by decide) li_in12 w_1454 ?_
    refine li_iload_n 1 dX12_keep_20 rfl ?_
    refine li_iconst 1 dX12_keep_21 (by decide) ?_
    have z1 : (1 : Int32).toInt = 1 := rfl
    refine li_zast dX12_keep_22 (by decide) sh_202 (tl_in (by omega)) (Or.inr rfl) ?_
    refine li_nm (fun M6 eM6 => ?_)
    have hf := li_fs_ui hf (Or.inr (Or.inl rfl)) eM6
    have hJ := hJ.st (by decide) (li_el_free (by unfold li_led; omega) (by decide) (by decide) (by unfold li_rq; omega)) eM6
    refine li_aload_n 0 dX12_keep_23 rfl ?_
    refine li_getr (k := 51) (N := 52) (T := TX12) (C0 := RX12) dX12_keep_24 (by decide) sh_175 rfl rfl (by decide) (by decide) li_in12 w_1455 ?_
    refine li_iload_n 1 dX12_keep_27 rfl ?_
    refine li_aload_n 0 dX12_keep_28 rfl ?_
    refine li_geti (k := 48) (N := 52) (T := TX12) (C0 := RX12) dX12_keep_29 (by decide) sh_175 rfl rfl (by decide) li_in12 w_1452 ?_
    refine li_top (fun x7 ex7 => ?_)
    have gx7 := tl_rg x7
    have sx7 : x7.toInt = (M0.1 175 48).toInt := tl_slot (ex7.trans (hf.1 175 48 (show ¬ (175 = 201 ∨ 175 = 202 ∨ 175 = 203 ∨ (175 = 175 ∧ 48 = 10)) by decide)))
    refine li_iast dX12_keep_32 (by decide) sh_203 (tl_in (by omega)) ?_
    refine li_nm (fun M8 eM8 => ?_)
    have hf := li_fs_ui hf (Or.inr (Or.inr (Or.inl rfl))) eM8
    have hJ := hJ.st (by decide) (li_el_free (by unfold li_led; omega) (by decide) (by decide) (by unfold li_rq; omega)) eM8
    refine li_aload_n 0 dX12_keep_33 rfl ?_
    refine li_getr (k := 0) (N := 52) (T := TX12) (C0 := RX12) dX12_keep_34 (by decide) sh_175 rfl rfl (by decide) (by decide) li_in12 w_1404 ?_
    refine li_aload_n 0 dX12_keep_37 rfl ?_
    refine li_getr (k := 49) (N := 52) (T := TX12) (C0 := RX12) dX12_keep_38 (by decide) sh_175 rfl rfl (by decide) (by decide) li_in12 w_1453 ?_
    refine li_bipush 51 dX12_keep_41 (by decide) ?_
    refine li_iload_n 1 dX12_keep_43 rfl ?_
    refine li_imul dX12_keep_44 ?_
    refine li_top (fun x9 ex9 => ?_)
    have z51 : (51 : Int32).toInt = 51 := rfl
    try (have tx9 : x9.toInt = 51 * (p1 : Int32).toInt := tl_mul ex9 (show -2147483648 ≤ 51 * (p1 : Int32).toInt ∧ 51 * (p1 : Int32).toInt ≤ 2147483647 by omega))
    refine li_callS (n := 3) (As := [.ref (Z.2.2 176), .ref (Z.2.2 201), .int x9]) dX12_keep_45 (k_X12_lay_nk (d - 1) (by omega) x9 M8 hJ (by omega)) (by omega) (Nat.le_of_ble_eq_true rfl) w_1749 w_1750 w_112 w_1751 (by decide +kernel) rfl rfl (Nat.le_of_ble_eq_true rfl) (fun r M11 h12 => ?_)
    obtain ⟨rfl, h12, jM11⟩ := h12
    have hf := li_fs_trans hf h12 (fun i k => fun h => Or.inl h)
    have hJ := jM11
    refine li_iconst 1 dX12_keep_48 (by decide) ?_
    have z1 : (1 : Int32).toInt = 1 := rfl
    exact li_iret dX12_keep_49 rfl (li_nz (Or.inr rfl)) ⟨Or.inl ⟨rfl, (by omega)⟩, hf, hJ⟩
  · skip
    refine li_if_ne 16 dX12_keep_11 (by decide) (fun c => absurd rfl c) (fun c => ?_)
    refine li_iconst 0 dX12_keep_14 (by decide) ?_
    have z0 : (0 : Int32).toInt = 0 := rfl
    exact li_iret dX12_keep_15 rfl (li_nz (Or.inl rfl)) ⟨Or.inr ⟨rfl, (by omega)⟩, hf, hJ⟩
