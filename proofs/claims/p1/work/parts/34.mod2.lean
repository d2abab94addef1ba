theorem w_1406 : (Jvm.Cond.fieldLink "ClockForTalkModel" (13 : Nat) "ClockForTalkModel" "step" "[I") ∈ li_ws := li_mem 1406 (by decide +kernel) (by decide +kernel)
theorem w_1409 : (Jvm.Cond.fieldLink "ClockForTalkModel" (19 : Nat) "ClockForTalkModel" "thing" "[I") ∈ li_ws := li_mem 1409 (by decide +kernel) (by decide +kernel)
theorem w_1410 : (Jvm.Cond.fieldLink "ClockForTalkModel" (22 : Nat) "ClockForTalkModel" "text" "[B") ∈ li_ws := li_mem 1410 (by decide +kernel) (by decide +kernel)
theorem w_1411 : (Jvm.Cond.fieldLink "ClockForTalkModel" (124 : Nat) "ClockForTalkModel" "typed" "I") ∈ li_ws := li_mem 1411 (by decide +kernel) (by decide +kernel)
theorem w_1412 : (Jvm.Cond.fieldLink "ClockForTalkModel" (26 : Nat) "ClockForTalkModel" "row" "[I") ∈ li_ws := li_mem 1412 (by decide +kernel) (by decide +kernel)
theorem w_1413 : (Jvm.Cond.fieldLink "ClockForTalkModel" (107 : Nat) "ClockForTalkModel" "rowMany" "I") ∈ li_ws := li_mem 1413 (by decide +kernel) (by decide +kernel)
theorem dX12_tell_0 : decode cX12_tell 0 = .ok (.aload_n 0, 1) := by decide +kernel
theorem dX12_tell_1 : decode cX12_tell 1 = .ok (.getfield 26, 3) := by decide +kernel
theorem dX12_tell_4 : decode cX12_tell 4 = .ok (.aload_n 0, 1) := by decide +kernel
theorem dX12_tell_5 : decode cX12_tell 5 = .ok (.getfield 107, 3) := by decide +kernel
theorem dX12_tell_8 : decode cX12_tell 8 = .ok (.iload_n 1, 1) := by decide +kernel
theorem dX12_tell_9 : decode cX12_tell 9 = .ok (.iastore, 1) := by decide +kernel
theorem dX12_tell_10 : decode cX12_tell 10 = .ok (.aload_n 0, 1) := by decide +kernel
theorem dX12_tell_11 : decode cX12_tell 11 = .ok (.dup, 1) := by decide +kernel
theorem dX12_tell_12 : decode cX12_tell 12 = .ok (.getfield 107, 3) := by decide +kernel
theorem dX12_tell_15 : decode cX12_tell 15 = .ok (.iconst 1, 1) := by decide +kernel
theorem dX12_tell_16 : decode cX12_tell 16 = .ok (.iadd, 1) := by decide +kernel
theorem dX12_tell_17 : decode cX12_tell 17 = .ok (.putfield 107, 3) := by decide +kernel
theorem dX12_tell_20 : decode cX12_tell 20 = .ok (.return_, 1) := by decide +kernel
abbrev YX12_tell : li_Y := (yX12_tell, cX12_tell, 2, none)
theorem dX12_sign_0 : decode cX12_sign 0 = .ok (.aload_n 0, 1) := by decide +kernel
theorem dX12_sign_1 : decode cX12_sign 1 = .ok (.iconst 0, 1) := by decide +kernel
theorem dX12_sign_2 : decode cX12_sign 2 = .ok (.putfield 103, 3) := by decide +kernel
theorem dX12_sign_5 : decode cX12_sign 5 = .ok (.aload_n 0, 1) := by decide +kernel
theorem dX12_sign_6 : decode cX12_sign 6 = .ok (.getfield 124, 3) := by decide +kernel
theorem dX12_sign_9 : decode cX12_sign 9 = .ok (.iconst 4, 1) := by decide +kernel
theorem dX12_sign_10 : decode cX12_sign 10 = .ok (.iadd, 1) := by decide +kernel
theorem dX12_sign_11 : decode cX12_sign 11 = .ok (.bipush 80, 2) := by decide +kernel
theorem dX12_sign_13 : decode cX12_sign 13 = .ok (.if_icmp .le 5, 3) := by decide +kernel
theorem dX12_sign_16 : decode cX12_sign 16 = .ok (.iconst (-1), 1) := by decide +kernel
theorem dX12_sign_17 : decode cX12_sign 17 = .ok (.ireturn, 1) := by decide +kernel
theorem dX12_sign_18 : decode cX12_sign 18 = .ok (.iconst 3, 1) := by decide +kernel
theorem dX12_sign_19 : decode cX12_sign 19 = .ok (.istore_n 2, 1) := by decide +kernel
theorem dX12_sign_20 : decode cX12_sign 20 = .ok (.iload_n 2, 1) := by decide +kernel
theorem dX12_sign_21 : decode cX12_sign 21 = .ok (.ifCond .lt 32, 3) := by decide +kernel
theorem dX12_sign_24 : decode cX12_sign 24 = .ok (.aload_n 0, 1) := by decide +kernel
theorem dX12_sign_25 : decode cX12_sign 25 = .ok (.getfield 22, 3) := by decide +kernel
theorem dX12_sign_28 : decode cX12_sign 28 = .ok (.aload_n 0, 1) := by decide +kernel
theorem dX12_sign_29 : decode cX12_sign 29 = .ok (.dup, 1) := by decide +kernel
theorem dX12_sign_30 : decode cX12_sign 30 = .ok (.getfield 124, 3) := by decide +kernel
theorem dX12_sign_33 : decode cX12_sign 33 = .ok (.dup_x1, 1) := by decide +kernel
theorem dX12_sign_34 : decode cX12_sign 34 = .ok (.iconst 1, 1) := by decide +kernel
theorem dX12_sign_35 : decode cX12_sign 35 = .ok (.iadd, 1) := by decide +kernel
theorem dX12_sign_36 : decode cX12_sign 36 = .ok (.putfield 124, 3) := by decide +kernel
theorem dX12_sign_39 : decode cX12_sign 39 = .ok (.iload_n 1, 1) := by decide +kernel
theorem dX12_sign_40 : decode cX12_sign 40 = .ok (.bipush 8, 2) := by decide +kernel
theorem dX12_sign_42 : decode cX12_sign 42 = .ok (.iload_n 2, 1) := by decide +kernel
theorem dX12_sign_43 : decode cX12_sign 43 = .ok (.imul, 1) := by decide +kernel
theorem dX12_sign_44 : decode cX12_sign 44 = .ok (.ishr, 1) := by decide +kernel
theorem dX12_sign_45 : decode cX12_sign 45 = .ok (.i2b, 1) := by decide +kernel
theorem dX12_sign_46 : decode cX12_sign 46 = .ok (.bastore, 1) := by decide +kernel
theorem dX12_sign_47 : decode cX12_sign 47 = .ok (.iinc 2 (-1), 3) := by decide +kernel
theorem dX12_sign_50 : decode cX12_sign 50 = .ok (.goto (-30), 3) := by decide +kernel
theorem dX12_sign_53 : decode cX12_sign 53 = .ok (.aload_n 0, 1) := by decide +kernel
theorem dX12_sign_54 : decode cX12_sign 54 = .ok (.getfield 124, 3) := by decide +kernel
theorem dX12_sign_57 : decode cX12_sign 57 = .ok (.ireturn, 1) := by decide +kernel
abbrev YX12_sign : li_Y := (yX12_sign, cX12_sign, 3, (some .int))
theorem dX12_end_0 : decode cX12_end 0 = .ok (.aload_n 0, 1) := by decide +kernel
theorem dX12_end_1 : decode cX12_end 1 = .ok (.iconst 0, 1) := by decide +kernel
theorem dX12_end_2 : decode cX12_end 2 = .ok (.putfield 103, 3) := by decide +kernel
theorem dX12_end_5 : decode cX12_end 5 = .ok (.iload_n 1, 1) := by decide +kernel
theorem dX12_end_6 : decode cX12_end 6 = .ok (.iconst 0, 1) := by decide +kernel
theorem dX12_end_7 : decode cX12_end 7 = .ok (.aload_n 0, 1) := by decide +kernel
theorem dX12_end_8 : decode cX12_end 8 = .ok (.getfield 124, 3) := by decide +kernel
theorem dX12_end_11 : decode cX12_end 11 = .ok (.invokestatic 113, 3) := by decide +kernel
theorem dX12_end_14 : decode cX12_end 14 = .ok (.ifCond .ne 5, 3) := by decide +kernel
theorem dX12_end_17 : decode cX12_end 17 = .ok (.iconst 0, 1) := by decide +kernel
theorem dX12_end_18 : decode cX12_end 18 = .ok (.ireturn, 1) := by decide +kernel
theorem dX12_end_19 : decode cX12_end 19 = .ok (.aload_n 0, 1) := by decide +kernel
theorem dX12_end_20 : decode cX12_end 20 = .ok (.iload_n 1, 1) := by decide +kernel
theorem dX12_end_21 : decode cX12_end 21 = .ok (.putfield 124, 3) := by decide +kernel
theorem dX12_end_24 : decode cX12_end 24 = .ok (.iconst 1, 1) := by decide +kernel
theorem dX12_end_25 : decode cX12_end 25 = .ok (.ireturn, 1) := by decide +kernel
abbrev YX12_end : li_Y := (yX12_end, cX12_end, 2, (some .boolean))
set_option maxRecDepth 100000 in
set_option maxHeartbeats 4000000 in
theorem k_X12_tell {l : Launch} {Z : li_Z} (d : Nat) (hd : 1 ≤ d) (p1 : Int32) (M0 : li_M) (hJ : li_J M0) (h1 : (M0.1 175 9).toInt ≤ 19) : li_Met l Z YX12_tell d [.ref (Z.2.2 175), .int p1] M0 (fun r M' => r = none ∧ li_fs (fun i k => i = 181 ∨ (i = 175 ∧ k = 9)) M0 M' ∧ li_J M' ∧ ((M'.1 175 9).toInt = (M0.1 175 9).toInt + 1)) := by
  refine li_enter (by decide +kernel) (Nat.le_of_ble_eq_true rfl) ?_
  show li_T l Z YX12_tell d 0 [(0, .ref (Z.2.2 175)), (1, .int p1)] [] M0 _
  have hf : li_fs (fun i k => i = 181 ∨ (i = 175 ∧ k = 9)) M0 M0 := li_fs_refl
  have gp1 := tl_rg p1
  have rM0_9 := J_sl9 (M := M0) hJ
  refine li_aload_n 0 dX12_tell_0 rfl ?_
  refine li_getr (k := 8) (N := 52) (T := TX12) (C0 := RX12) dX12_tell_1 (by decide) sh_175 rfl rfl (by decide) (by decide) li_in12 w_1412 ?_
  refine li_aload_n 0 dX12_tell_4 rfl ?_
  refine li_geti (k := 9) (N := 52) (T := TX12) (C0 := RX12) dX12_tell_5 (by decide) sh_175 rfl rfl (by decide) li_in12 w_1413 ?_
  refine li_top (fun x1 ex1 => ?_)
  have gx1 : 0 ≤ x1.toInt ∧ x1.toInt ≤ 20 := by rw [ex1]; exact J_sl9 hJ
  have mx1 : x1.toInt = (M0.1 175 9).toInt := tl_slot ex1
  refine li_iload_n 1 dX12_tell_8 rfl ?_
  refine li_iast dX12_tell_9 (by decide) sh_181 (tl_in (by omega)) ?_
  refine li_nm (fun M2 eM2 => ?_)
  have hf := li_fs_ui hf (Or.inl rfl) eM2
  have hJ := hJ.st (by decide) (li_el_free (by unfold li_led; omega) (by decide) (by decide) (by unfold li_rq; omega)) eM2
  have rM2_9 := J_sl9 (M := M2) hJ
  have mM2_9 : (M2.1 175 9).toInt = (M0.1 175 9).toInt := by rw [eM2, li_ui_at, if_neg (by decide)]
  refine li_aload_n 0 dX12_tell_10 rfl ?_
  refine li_dup dX12_tell_11 rfl ?_
  refine li_geti (k := 9) (N := 52) (T := TX12) (C0 := RX12) dX12_tell_12 (by decide) sh_175 rfl rfl (by decide) li_in12 w_1413 ?_
  refine li_top (fun x3 ex3 => ?_)
  have gx3 : 0 ≤ x3.toInt ∧ x3.toInt ≤ 20 := by rw [ex3]; exact J_sl9 hJ
  have mx3 : x3.toInt = (M2.1 175 9).toInt := tl_slot ex3
  refine li_iconst 1 dX12_tell_15 (by decide) ?_
  refine li_iadd dX12_tell_16 ?_
  refine li_top (fun x4 ex4 => ?_)
  have z1 : (1 : Int32).toInt = 1 := rfl
  try (have tx4 : x4.toInt = (x3 : Int32).toInt + (1 : Int32).toInt := tl_add ex4 (by omega))
  refine li_puti (k := 9) (N := 52) (T := TX12) (C0 := RX12) dX12_tell_17 (by decide) sh_175 rfl rfl (by decide) li_in12 tyX12_ok nmX12 rfl rfl rfl rfl w_1413 ?_
  refine li_nm (fun M5 eM5 => ?_)
  have hf := li_fs_ui hf (Or.inr (⟨rfl, rfl⟩)) eM5
  have hJ := J_pt9 hJ (show 0 ≤ (x4 : Int32).toInt ∧ (x4 : Int32).toInt ≤ 20 by omega) eM5
  have rM5_9 := J_sl9 (M := M5) hJ
  have mM5_9 : (M5.1 175 9).toInt = x4.toInt := by rw [eM5, li_ui_at, if_pos rfl, if_pos rfl]
  exact li_vret dX12_tell_20 rfl ⟨rfl, hf, hJ, (by first | omega | (intro _; omega) | (refine ⟨?_, ?_⟩ <;> first | omega | (intro _; omega)) | (refine ⟨?_, ?_, ?_, ?_⟩ <;> first | omega | (intro _; omega)))⟩
set_option maxRecDepth 100000 in
set_option maxHeartbeats 4000000 in
theorem k_X12_sign {l : Launch} {Z : li_Z} (d : Nat) (hd : 1 ≤ d) (p1 : Int32) (M0 : li_M) (hJ : li_J M0) : li_Met l Z YX12_sign d [.ref (Z.2.2 175), .int p1] M0 (fun r M' => (∃ x : Int32, r = some (.int x) ∧ ((80 < (M0.1 175 7).toInt + 4 → x.toInt = -1 ∧ (M'.1 175 7).toInt = (M0.1 175 7).toInt) ∧ ((M0.1 175 7).toInt + 4 ≤ 80 → x.toInt = (M0.1 175 7).toInt + 4 ∧ (M'.1 175 7).toInt = (M0.1 175 7).toInt + 4))) ∧ li_fs (fun i k => i = 180 ∨ (i = 175 ∧ k = 10) ∨ (i = 175 ∧ k = 7)) M0 M' ∧ li_J M') := by
  refine li_enter (by decide +kernel) (Nat.le_of_ble_eq_true rfl) ?_
  show li_T l Z YX12_sign d 0 [(0, .ref (Z.2.2 175)), (1, .int p1)] [] M0 _
  have hf : li_fs (fun i k => i = 180 ∨ (i = 175 ∧ k = 10) ∨ (i = 175 ∧ k = 7)) M0 M0 := li_fs_refl
  have gp1 := tl_rg p1
  have rM0_7 := J_sl7 (M := M0) hJ
  refine li_aload_n 0 dX12_sign_0 rfl ?_
  refine li_iconst 0 dX12_sign_1 (by decide) ?_
  refine li_puti (k := 10) (N := 52) (T := TX12) (C0 := RX12) dX12_sign_2 (by decide) sh_175 rfl rfl (by decide) li_in12 tyX12_ok nmX12 rfl rfl rfl rfl w_1414 ?_
  refine li_nm (fun M1 eM1 => ?_)
  have hf := li_fs_ui hf (Or.inr (Or.inl ⟨rfl, rfl⟩)) eM1
  have z0 : (0 : Int32).toInt = 0 := rfl
  have hJ := hJ.put (k := 10) (by decide) (rg_free rfl) eM1
  have rM1_7 := J_sl7 (M := M1) hJ
  have mM1_7 : (M1.1 175 7).toInt = (M0.1 175 7).toInt := by rw [eM1, li_ui_at, if_pos rfl, if_neg (by decide)]
  refine li_aload_n 0 dX12_sign_5 rfl ?_
  refine li_geti (k := 7) (N := 52) (T := TX12) (C0 := RX12) dX12_sign_6 (by decide) sh_175 rfl rfl (by decide) li_in12 w_1411 ?_
  refine li_top (fun x2 ex2 => ?_)
  have gx2 : 0 ≤ x2.toInt ∧ x2.toInt ≤ 80 := by rw [ex2]; exact J_sl7 hJ
  have mx2 : x2.toInt = (M1.1 175 7).toInt := tl_slot ex2
  refine li_iconst 4 dX12_sign_9 (by decide) ?_
  refine li_iadd dX12_sign_10 ?_
  refine li_top (fun x3 ex3 => ?_)
  have z4 : (4 : Int32).toInt = 4 := rfl
  try (have tx3 : x3.toInt = (x2 : Int32).toInt + (4 : Int32).toInt := tl_add ex3 (by omega))
  refine li_bipush 80 dX12_sign_11 (by decide) ?_
  refine li_icmp_le 18 dX12_sign_13 (by decide) (fun c4 => ?_) (fun c4 => ?_)
  · have tc4 : x3.toInt ≤ 80 := tl_le c4
    refine li_iconst 3 dX12_sign_18 (by decide) ?_
    refine li_istore_n [(2, .int 3), (0, .ref (Z.2.2 175)), (1, .int p1)] dX12_sign_19 (by decide) rfl ?_
    have L20 : ∀ (n : Nat) (x5 : Int32) (M6 : li_M), ((x5 : Int32).toInt + 1).toNat < n → li_fs (fun i k => i = 180 ∨ (i = 175 ∧ k = 10) ∨ (i = 175 ∧ k = 7)) M0 M6 → li_J M6 → (M6.1 175 7).toInt + (x5 : Int32).toInt = (M0.1 175 7).toInt + 3 ∧ -1 ≤ (x5 : Int32).toInt ∧ (x5 : Int32).toInt ≤ 3 ∧ (M0.1 175 7).toInt + 4 ≤ 80 → li_T l Z YX12_sign d 20 [(2, .int x5), (0, .ref (Z.2.2 175)), (1, .int p1)] [] M6 (fun r M' => (∃ x : Int32, r = some (.int x) ∧ ((80 < (M0.1 175 7).toInt + 4 → x.toInt = -1 ∧ (M'.1 175 7).toInt = (M0.1 175 7).toInt) ∧ ((M0.1 175 7).toInt + 4 ≤ 80 → x.toInt = (M0.1 175 7).toInt + 4 ∧ (M'.1 175 7).toInt = (M0.1 175 7).toInt + 4))) ∧ li_fs (fun i k => i = 180 ∨ (i = 175 ∧ k = 10) ∨ (i = 175 ∧ k = 7)) M0 M' ∧ li_J M') := by
      intro n
      induction n with
      | zero => intro x5 M6 hn; exact absurd hn (Nat.not_lt_zero _)
      | succ n ih20 =>
        intro x5 M6 hn hf hJ hi
        have gx5 := tl_rg x5
        have rM6_7 := J_sl7 (M := M6) hJ
        refine li_iload_n 0 dX12_sign_20 rfl ?_
        refine li_if_lt 53 dX12_sign_21 (by decide) (fun c7 => ?_) (fun c7 => ?_)
        · have tc7 : x5.toInt < 0 := tl_lt c7
          refine li_aload_n 1 dX12_sign_53 rfl ?_
          refine li_geti (k := 7) (N := 52) (T := TX12) (C0 := RX12) dX12_sign_54 (by decide) sh_175 rfl rfl (by decide) li_in12 w_1411 ?_
          refine li_top (fun x8 ex8 => ?_)
          have gx8 : 0 ≤ x8.toInt ∧ x8.toInt ≤ 80 := by rw [ex8]; exact J_sl7 hJ
          have mx8 : x8.toInt = (M6.1 175 7).toInt := tl_slot ex8
          exact li_iret dX12_sign_57 rfl rfl ⟨⟨_, rfl, (by first | omega | (intro _; omega) | (refine ⟨?_, ?_⟩ <;> first | omega | (intro _; omega)) | (refine ⟨?_, ?_, ?_, ?_⟩ <;> first | omega | (intro _; omega)))⟩, hf, hJ⟩
        · have tc7 : 0 ≤ x5.toInt := tl_nlt c7
          refine li_aload_n 1 dX12_sign_24 rfl ?_
          refine li_getr (k := 6) (N := 52) (T := TX12) (C0 := RX12) dX12_sign_25 (by decide) sh_175 rfl rfl (by decide) (by decide) li_in12 w_1410 ?_
          refine li_aload_n 1 dX12_sign_28 rfl ?_
          refine li_dup dX12_sign_29 rfl ?_
          refine li_geti (k := 7) (N := 52) (T := TX12) (C0 := RX12) dX12_sign_30 (by decide) sh_175 rfl rfl (by decide) li_in12 w_1411 ?_
          refine li_top (fun x9 ex9 => ?_)
          have gx9 : 0 ≤ x9.toInt ∧ x9.toInt ≤ 80 := by rw [ex9]; exact J_sl7 hJ
          have mx9 : x9.toInt = (M6.1 175 7).toInt := tl_slot ex9
          refine li_dup_x1 dX12_sign_33 rfl rfl ?_
          refine li_iconst 1 dX12_sign_34 (by decide) ?_
          refine li_iadd dX12_sign_35 ?_
          refine li_top (fun x10 ex10 => ?_)
          have z1 : (1 : Int32).toInt = 1 := rfl
          try (have tx10 : x10.toInt = (x9 : Int32).toInt + (1 : Int32).toInt := tl_add ex10 (by omega))
          refine li_puti (k := 7) (N := 52) (T := TX12) (C0 := RX12) dX12_sign_36 (by decide) sh_175 rfl rfl (by decide) li_in12 tyX12_ok nmX12 rfl rfl rfl rfl w_1411 ?_
          refine li_nm (fun M11 eM11 => ?_)
          have hf := li_fs_ui hf (Or.inr (Or.inr (⟨rfl, rfl⟩))) eM11
          have hJ := J_pt7 hJ (show 0 ≤ (x10 : Int32).toInt ∧ (x10 : Int32).toInt ≤ 80 by omega) eM11
          have rM11_7 := J_sl7 (M := M11) hJ
          have mM11_7 : (M11.1 175 7).toInt = x10.toInt := by rw [eM11, li_ui_at, if_pos rfl, if_pos rfl]
          refine li_iload_n 2 dX12_sign_39 rfl ?_
          refine li_bipush 8 dX12_sign_40 (by decide) ?_
          refine li_iload_n 0 dX12_sign_42 rfl ?_
          refine li_imul dX12_sign_43 ?_
          refine li_top (fun x12 ex12 => ?_)
          have z8 : (8 : Int32).toInt = 8 := rfl
          try (have tx12 : x12.toInt = 8 * (x5 : Int32).toInt := tl_mul ex12 (show -2147483648 ≤ 8 * (x5 : Int32).toInt ∧ 8 * (x5 : Int32).toInt ≤ 2147483647 by omega))
          refine li_ishr dX12_sign_44 ?_
          refine li_top (fun x13 ex13 => ?_)
          refine li_i2b dX12_sign_45 ?_
          refine li_top (fun x14 ex14 => ?_)
          refine li_bast dX12_sign_46 (by decide) sh_180 (tl_in (by omega)) ?_
          refine li_nm (fun M15 eM15 => ?_)
          have hf := li_fs_ui hf (Or.inl rfl) eM15
          have hJ := hJ.st (by decide) (li_el_byte (by unfold li_rq; omega)) eM15
          have rM15_7 := J_sl7 (M := M15) hJ
          have mM15_7 : (M15.1 175 7).toInt = (M11.1 175 7).toInt := by rw [eM15, li_ui_at, if_neg (by decide)]
          obtain ⟨x16, ex16⟩ : ∃ y : Int32, y = x5 + (-1) := ⟨_, rfl⟩
          have zm1 : ((-1) : Int32).toInt = -1 := rfl
          try (have tx16 : x16.toInt = (x5 : Int32).toInt + ((-1) : Int32).toInt := tl_add ex16 (by omega))
          refine li_iinc 0 [(2, .int x16), (0, .ref (Z.2.2 175)), (1, .int p1)] x16 dX12_sign_47 rfl (by rw [ex16]; rfl) (by decide) rfl ?_
          refine li_goto 20 dX12_sign_50 (by decide) ?_
          refine li_pick [0, 1, 2] [(2, .int x16), (0, .ref (Z.2.2 175)), (1, .int p1)] rfl ?_
          exact ih20 x16 M15 (by omega) hf hJ (by omega)
    have z3 : (3 : Int32).toInt = 3 := rfl
    exact L20 _ 3 M1 (Nat.lt_succ_self _) hf hJ (by omega)
  · have tc4 : 80 < x3.toInt := tl_nle c4
    refine li_iconst (-1) dX12_sign_16 (by decide) ?_
    have zm1 : ((-1) : Int32).toInt = -1 := rfl
    exact li_iret dX12_sign_17 rfl rfl ⟨⟨_, rfl, (by first | omega | (intro _; omega) | (refine ⟨?_, ?_⟩ <;> first | omega | (intro _; omega)) | (refine ⟨?_, ?_, ?_, ?_⟩ <;> first | omega | (intro _; omega)))⟩, hf, hJ⟩
set_option maxRecDepth 100000 in
set_option maxHeartbeats 4000000 in
theorem k_X12_end {l : Launch} {Z : li_Z} (d : Nat) (hd : 2 ≤ d) (p1 : Int32) (M0 : li_M) (hJ : li_J M0) : li_Met l Z YX12_end d [.ref (Z.2.2 175), .int p1] M0 (fun r M' => ((r = some (.int 1) ∧ (0 ≤ p1.toInt ∧ p1.toInt ≤ (M0.1 175 7).toInt ∧ (M'.1 175 7).toInt = p1.toInt)) ∨ (r = some (.int 0) ∧ ((p1.toInt < 0 ∨ (M0.1 175 7).toInt < p1.toInt) ∧ (M'.1 175 7).toInt = (M0.1 175 7).toInt))) ∧ li_fs (fun i k => (i = 175 ∧ k = 10) ∨ (i = 175 ∧ k = 7)) M0 M' ∧ li_J M') := by
  refine li_enter (by decide +kernel) (Nat.le_of_ble_eq_true rfl) ?_
  show li_T l Z YX12_end d 0 [(0, .ref (Z.2.2 175)), (1, .int p1)] [] M0 _
  have hf : li_fs (fun i k => (i = 175 ∧ k = 10) ∨ (i = 175 ∧ k = 7)) M0 M0 := li_fs_refl
  have gp1 := tl_rg p1
  have rM0_7 := J_sl7 (M := M0) hJ
  refine li_aload_n 0 dX12_end_0 rfl ?_
  refine li_iconst 0 dX12_end_1 (by decide) ?_
  refine li_puti (k := 10) (N := 52) (T := TX12) (C0 := RX12) dX12_end_2 (by decide) sh_175 rfl rfl (by decide) li_in12 tyX12_ok nmX12 rfl rfl rfl rfl w_1414 ?_
  refine li_nm (fun M1 eM1 => ?_)
  have hf := li_fs_ui hf (Or.inl ⟨rfl, rfl⟩) eM1
  have z0 : (0 : Int32).toInt = 0 := rfl
  have hJ := hJ.put (k := 10) (by decide) (rg_free rfl) eM1
  have rM1_7 := J_sl7 (M := M1) hJ
  have mM1_7 : (M1.1 175 7).toInt = (M0.1 175 7).toInt := by rw [eM1, li_ui_at, if_pos rfl, if_neg (by decide)]
  refine li_iload_n 1 dX12_end_5 rfl ?_
  refine li_iconst 0 dX12_end_6 (by decide) ?_
  refine li_aload_n 0 dX12_end_7 rfl ?_
  refine li_geti (k := 7) (N := 52) (T := TX12) (C0 := RX12) dX12_end_8 (by decide) sh_175 rfl rfl (by decide) li_in12 w_1411 ?_
  refine li_top (fun x2 ex2 => ?_)
  have gx2 : 0 ≤ x2.toInt ∧ x2.toInt ≤ 80 := by rw [ex2]; exact J_sl7 hJ
  have mx2 : x2.toInt = (M1.1 175 7).toInt := tl_slot ex2
  have z0 : (0 : Int32).toInt = 0 := rfl
  refine li_callS (n := 3) (As := [.int p1, .int 0, .int x2]) dX12_end_11 (k_X12_in (d - 1) (by omega) p1 0 x2 M1 hJ ) (by omega) (Nat.le_of_ble_eq_true rfl) w_1574 w_1575 w_112 w_1576 (by decide +kernel) rfl rfl (Nat.le_of_ble_eq_true rfl) (fun r M4 h5 => ?_)
  obtain ⟨qx3, h5, jM4⟩ := h5
  have hf := li_fs_trans hf h5 (fun i k h => False.elim h)
  have hJ := jM4
  have rM4_7 := J_sl7 (M := M4) hJ
  have mM4_7 : (M4.1 175 7).toInt = (M1.1 175 7).toInt := tl_slot (h5.1 175 7 id)
  rcases qx3 with ⟨rfl, qx3⟩ | ⟨rfl, qx3⟩
  · skip
    refine li_if_ne 19 dX12_end_14 (by decide) (fun c => ?_) (fun c => absurd c (by decide))
    refine li_aload_n 0 dX12_end_19 rfl ?_
    refine li_iload_n 1 dX12_end_20 rfl ?_
    refine li_puti (k := 7) (N := 52) (T := TX12) (C0 := RX12) dX12_end_21 (by decide) sh_175 rfl rfl (by decide) li_in12 tyX12_ok nmX12 rfl rfl rfl rfl w_1411 ?_
    refine li_nm (fun M7 eM7 => ?_)
    have hf := li_fs_ui hf (Or.inr (⟨rfl, rfl⟩)) eM7
    have hJ := J_pt7 hJ (show 0 ≤ (p1 : Int32).toInt ∧ (p1 : Int32).toInt ≤ 80 by omega) eM7
    have rM7_7 := J_sl7 (M := M7) hJ
    have mM7_7 : (M7.1 175 7).toInt = p1.toInt := by rw [eM7, li_ui_at, if_pos rfl, if_pos rfl]
    refine li_iconst 1 dX12_end_24 (by decide) ?_
    have z1 : (1 : Int32).toInt = 1 := rfl
    exact li_iret dX12_end_25 rfl (li_nz (Or.inr rfl)) ⟨Or.inl ⟨rfl, (by omega)⟩, hf, hJ⟩
  · skip
    refine li_if_ne 19 dX12_end_14 (by decide) (fun c => absurd rfl c) (fun c => ?_)
    refine li_iconst 0 dX12_end_17 (by decide) ?_
    have z0 : (0 : Int32).toInt = 0 := rfl
    exact li_iret dX12_end_18 rfl (li_nz (Or.inl rfl)) ⟨Or.inr ⟨rfl, (by omega)⟩, hf, hJ⟩
