theorem w_1433 : (Jvm.Cond.fieldLink "ClockForTalkModel" (50 : Nat) "ClockForTalkModel" "least" "[I") ∈ li_ws := li_mem 1433 (by decide +kernel) (by decide +kernel)
theorem dX12_thingsOf_0 : decode cX12_thingsOf 0 = .ok (.iconst 0, 1) := by decide +kernel
theorem dX12_thingsOf_1 : decode cX12_thingsOf 1 = .ok (.istore_n 2, 1) := by decide +kernel
theorem dX12_thingsOf_2 : decode cX12_thingsOf 2 = .ok (.iconst 0, 1) := by decide +kernel
theorem dX12_thingsOf_3 : decode cX12_thingsOf 3 = .ok (.istore_n 3, 1) := by decide +kernel
theorem dX12_thingsOf_4 : decode cX12_thingsOf 4 = .ok (.iload_n 3, 1) := by decide +kernel
theorem dX12_thingsOf_5 : decode cX12_thingsOf 5 = .ok (.aload_n 0, 1) := by decide +kernel
theorem dX12_thingsOf_6 : decode cX12_thingsOf 6 = .ok (.getfield 121, 3) := by decide +kernel
theorem dX12_thingsOf_9 : decode cX12_thingsOf 9 = .ok (.if_icmp .ge 29, 3) := by decide +kernel
theorem dX12_thingsOf_12 : decode cX12_thingsOf 12 = .ok (.iload_n 2, 1) := by decide +kernel
theorem dX12_thingsOf_13 : decode cX12_thingsOf 13 = .ok (.aload_n 0, 1) := by decide +kernel
theorem dX12_thingsOf_14 : decode cX12_thingsOf 14 = .ok (.iload_n 3, 1) := by decide +kernel
theorem dX12_thingsOf_15 : decode cX12_thingsOf 15 = .ok (.iconst 0, 1) := by decide +kernel
theorem dX12_thingsOf_16 : decode cX12_thingsOf 16 = .ok (.invokevirtual 220, 3) := by decide +kernel
theorem dX12_thingsOf_19 : decode cX12_thingsOf 19 = .ok (.iload_n 1, 1) := by decide +kernel
theorem dX12_thingsOf_20 : decode cX12_thingsOf 20 = .ok (.if_icmp .ne 9, 3) := by decide +kernel
theorem dX12_thingsOf_23 : decode cX12_thingsOf 23 = .ok (.iconst 1, 1) := by decide +kernel
theorem dX12_thingsOf_24 : decode cX12_thingsOf 24 = .ok (.iload_n 3, 1) := by decide +kernel
theorem dX12_thingsOf_25 : decode cX12_thingsOf 25 = .ok (.ishl, 1) := by decide +kernel
theorem dX12_thingsOf_26 : decode cX12_thingsOf 26 = .ok (.goto 4, 3) := by decide +kernel
theorem dX12_thingsOf_29 : decode cX12_thingsOf 29 = .ok (.iconst 0, 1) := by decide +kernel
theorem dX12_thingsOf_30 : decode cX12_thingsOf 30 = .ok (.ior, 1) := by decide +kernel
theorem dX12_thingsOf_31 : decode cX12_thingsOf 31 = .ok (.istore_n 2, 1) := by decide +kernel
theorem dX12_thingsOf_32 : decode cX12_thingsOf 32 = .ok (.iinc 3 1, 3) := by decide +kernel
theorem dX12_thingsOf_35 : decode cX12_thingsOf 35 = .ok (.goto (-31), 3) := by decide +kernel
theorem dX12_thingsOf_38 : decode cX12_thingsOf 38 = .ok (.iload_n 2, 1) := by decide +kernel
theorem dX12_thingsOf_39 : decode cX12_thingsOf 39 = .ok (.ireturn, 1) := by decide +kernel
abbrev YX12_thingsOf : li_Y := (yX12_thingsOf, cX12_thingsOf, 4, (some .int))
theorem dX12_worthOf_0 : decode cX12_worthOf 0 = .ok (.iconst 0, 1) := by decide +kernel
theorem dX12_worthOf_1 : decode cX12_worthOf 1 = .ok (.istore_n 2, 1) := by decide +kernel
theorem dX12_worthOf_2 : decode cX12_worthOf 2 = .ok (.iconst 0, 1) := by decide +kernel
theorem dX12_worthOf_3 : decode cX12_worthOf 3 = .ok (.istore_n 3, 1) := by decide +kernel
theorem dX12_worthOf_4 : decode cX12_worthOf 4 = .ok (.iload_n 3, 1) := by decide +kernel
theorem dX12_worthOf_5 : decode cX12_worthOf 5 = .ok (.aload_n 0, 1) := by decide +kernel
theorem dX12_worthOf_6 : decode cX12_worthOf 6 = .ok (.getfield 121, 3) := by decide +kernel
theorem dX12_worthOf_9 : decode cX12_worthOf 9 = .ok (.if_icmp .ge 30, 3) := by decide +kernel
theorem dX12_worthOf_12 : decode cX12_worthOf 12 = .ok (.iload_n 2, 1) := by decide +kernel
theorem dX12_worthOf_13 : decode cX12_worthOf 13 = .ok (.iload_n 1, 1) := by decide +kernel
theorem dX12_worthOf_14 : decode cX12_worthOf 14 = .ok (.iload_n 3, 1) := by decide +kernel
theorem dX12_worthOf_15 : decode cX12_worthOf 15 = .ok (.invokestatic 251, 3) := by decide +kernel
theorem dX12_worthOf_18 : decode cX12_worthOf 18 = .ok (.ifCond .eq 12, 3) := by decide +kernel
theorem dX12_worthOf_21 : decode cX12_worthOf 21 = .ok (.aload_n 0, 1) := by decide +kernel
theorem dX12_worthOf_22 : decode cX12_worthOf 22 = .ok (.iload_n 3, 1) := by decide +kernel
theorem dX12_worthOf_23 : decode cX12_worthOf 23 = .ok (.iconst 4, 1) := by decide +kernel
theorem dX12_worthOf_24 : decode cX12_worthOf 24 = .ok (.invokevirtual 220, 3) := by decide +kernel
theorem dX12_worthOf_27 : decode cX12_worthOf 27 = .ok (.goto 4, 3) := by decide +kernel
theorem dX12_worthOf_30 : decode cX12_worthOf 30 = .ok (.iconst 0, 1) := by decide +kernel
theorem dX12_worthOf_31 : decode cX12_worthOf 31 = .ok (.iadd, 1) := by decide +kernel
theorem dX12_worthOf_32 : decode cX12_worthOf 32 = .ok (.istore_n 2, 1) := by decide +kernel
theorem dX12_worthOf_33 : decode cX12_worthOf 33 = .ok (.iinc 3 1, 3) := by decide +kernel
theorem dX12_worthOf_36 : decode cX12_worthOf 36 = .ok (.goto (-32), 3) := by decide +kernel
theorem dX12_worthOf_39 : decode cX12_worthOf 39 = .ok (.iload_n 2, 1) := by decide +kernel
theorem dX12_worthOf_40 : decode cX12_worthOf 40 = .ok (.ireturn, 1) := by decide +kernel
abbrev YX12_worthOf : li_Y := (yX12_worthOf, cX12_worthOf, 4, (some .int))
theorem dX12_sumOf_0 : decode cX12_sumOf 0 = .ok (.iconst 0, 1) := by decide +kernel
theorem dX12_sumOf_1 : decode cX12_sumOf 1 = .ok (.istore_n 2, 1) := by decide +kernel
theorem dX12_sumOf_2 : decode cX12_sumOf 2 = .ok (.iconst 0, 1) := by decide +kernel
theorem dX12_sumOf_3 : decode cX12_sumOf 3 = .ok (.istore_n 3, 1) := by decide +kernel
theorem dX12_sumOf_4 : decode cX12_sumOf 4 = .ok (.iload_n 3, 1) := by decide +kernel
theorem dX12_sumOf_5 : decode cX12_sumOf 5 = .ok (.aload_n 0, 1) := by decide +kernel
theorem dX12_sumOf_6 : decode cX12_sumOf 6 = .ok (.getfield 121, 3) := by decide +kernel
theorem dX12_sumOf_9 : decode cX12_sumOf 9 = .ok (.if_icmp .ge 30, 3) := by decide +kernel
theorem dX12_sumOf_12 : decode cX12_sumOf 12 = .ok (.iload_n 2, 1) := by decide +kernel
theorem dX12_sumOf_13 : decode cX12_sumOf 13 = .ok (.iload_n 1, 1) := by decide +kernel
theorem dX12_sumOf_14 : decode cX12_sumOf 14 = .ok (.iload_n 3, 1) := by decide +kernel
theorem dX12_sumOf_15 : decode cX12_sumOf 15 = .ok (.invokestatic 251, 3) := by decide +kernel
theorem dX12_sumOf_18 : decode cX12_sumOf 18 = .ok (.ifCond .eq 12, 3) := by decide +kernel
theorem dX12_sumOf_21 : decode cX12_sumOf 21 = .ok (.aload_n 0, 1) := by decide +kernel
theorem dX12_sumOf_22 : decode cX12_sumOf 22 = .ok (.getfield 50, 3) := by decide +kernel
theorem dX12_sumOf_25 : decode cX12_sumOf 25 = .ok (.iload_n 3, 1) := by decide +kernel
theorem dX12_sumOf_26 : decode cX12_sumOf 26 = .ok (.iaload, 1) := by decide +kernel
theorem dX12_sumOf_27 : decode cX12_sumOf 27 = .ok (.goto 4, 3) := by decide +kernel
theorem dX12_sumOf_30 : decode cX12_sumOf 30 = .ok (.iconst 0, 1) := by decide +kernel
theorem dX12_sumOf_31 : decode cX12_sumOf 31 = .ok (.iadd, 1) := by decide +kernel
theorem dX12_sumOf_32 : decode cX12_sumOf 32 = .ok (.istore_n 2, 1) := by decide +kernel
theorem dX12_sumOf_33 : decode cX12_sumOf 33 = .ok (.iinc 3 1, 3) := by decide +kernel
theorem dX12_sumOf_36 : decode cX12_sumOf 36 = .ok (.goto (-32), 3) := by decide +kernel
theorem dX12_sumOf_39 : decode cX12_sumOf 39 = .ok (.iload_n 2, 1) := by decide +kernel
theorem dX12_sumOf_40 : decode cX12_sumOf 40 = .ok (.ireturn, 1) := by decide +kernel
abbrev YX12_sumOf : li_Y := (yX12_sumOf, cX12_sumOf, 4, (some .int))
theorem dX12_allClocks_0 : decode cX12_allClocks 0 = .ok (.iconst 0, 1) := by decide +kernel
theorem dX12_allClocks_1 : decode cX12_allClocks 1 = .ok (.istore_n 1, 1) := by decide +kernel
theorem dX12_allClocks_2 : decode cX12_allClocks 2 = .ok (.iconst 0, 1) := by decide +kernel
theorem dX12_allClocks_3 : decode cX12_allClocks 3 = .ok (.istore_n 2, 1) := by decide +kernel
theorem dX12_allClocks_4 : decode cX12_allClocks 4 = .ok (.iload_n 2, 1) := by decide +kernel
theorem dX12_allClocks_5 : decode cX12_allClocks 5 = .ok (.aload_n 0, 1) := by decide +kernel
theorem dX12_allClocks_6 : decode cX12_allClocks 6 = .ok (.getfield 110, 3) := by decide +kernel
theorem dX12_allClocks_9 : decode cX12_allClocks 9 = .ok (.if_icmp .ge 18, 3) := by decide +kernel
theorem dX12_allClocks_12 : decode cX12_allClocks 12 = .ok (.iload_n 1, 1) := by decide +kernel
theorem dX12_allClocks_13 : decode cX12_allClocks 13 = .ok (.aload_n 0, 1) := by decide +kernel
theorem dX12_allClocks_14 : decode cX12_allClocks 14 = .ok (.getfield 9, 3) := by decide +kernel
theorem dX12_allClocks_17 : decode cX12_allClocks 17 = .ok (.iload_n 2, 1) := by decide +kernel
theorem dX12_allClocks_18 : decode cX12_allClocks 18 = .ok (.iaload, 1) := by decide +kernel
theorem dX12_allClocks_19 : decode cX12_allClocks 19 = .ok (.iadd, 1) := by decide +kernel
theorem dX12_allClocks_20 : decode cX12_allClocks 20 = .ok (.istore_n 1, 1) := by decide +kernel
theorem dX12_allClocks_21 : decode cX12_allClocks 21 = .ok (.iinc 2 1, 3) := by decide +kernel
theorem dX12_allClocks_24 : decode cX12_allClocks 24 = .ok (.goto (-20), 3) := by decide +kernel
theorem dX12_allClocks_27 : decode cX12_allClocks 27 = .ok (.iload_n 1, 1) := by decide +kernel
theorem dX12_allClocks_28 : decode cX12_allClocks 28 = .ok (.ireturn, 1) := by decide +kernel
abbrev YX12_allClocks : li_Y := (yX12_allClocks, cX12_allClocks, 3, (some .int))
theorem dX12_isLeft_0 : decode cX12_isLeft 0 = .ok (.iload_n 0, 1) := by decide +kernel
theorem dX12_isLeft_1 : decode cX12_isLeft 1 = .ok (.iconst 0, 1) := by decide +kernel
theorem dX12_isLeft_2 : decode cX12_isLeft 2 = .ok (.bipush 60, 2) := by decide +kernel
theorem dX12_isLeft_4 : decode cX12_isLeft 4 = .ok (.invokestatic 113, 3) := by decide +kernel
theorem dX12_isLeft_7 : decode cX12_isLeft 7 = .ok (.ireturn, 1) := by decide +kernel
abbrev YX12_isLeft : li_Y := (yX12_isLeft, cX12_isLeft, 1, (some .boolean))
set_option maxRecDepth 100000 in
set_option maxHeartbeats 4000000 in
theorem k_X12_thingsOf {l : Launch} {Z : li_Z} (d : Nat) (hd : 2 ≤ d) (p1 : Int32) (M0 : li_M) (hJ : li_J M0) : li_Met l Z YX12_thingsOf d [.ref (Z.2.2 175), .int p1] M0 (fun r M' => (∃ x : Int32, r = some (.int x) ∧ (0 ≤ x.toInt ∧ x.toInt ≤ 255)) ∧ li_fs (fun i k => False) M0 M' ∧ li_J M') := by
  refine li_enter (by decide +kernel) (Nat.le_of_ble_eq_true rfl) ?_
  show li_T l Z YX12_thingsOf d 0 [(0, .ref (Z.2.2 175)), (1, .int p1)] [] M0 _
  have hf : li_fs (fun i k => False) M0 M0 := li_fs_refl
  have gp1 := tl_rg p1
  refine li_iconst 0 dX12_thingsOf_0 (by decide) ?_
  refine li_istore_n [(2, .int 0), (0, .ref (Z.2.2 175)), (1, .int p1)] dX12_thingsOf_1 (by decide) rfl ?_
  refine li_iconst 0 dX12_thingsOf_2 (by decide) ?_
  refine li_istore_n [(3, .int 0), (2, .int 0), (0, .ref (Z.2.2 175)), (1, .int p1)] dX12_thingsOf_3 (by decide) rfl ?_
  have L4 : ∀ (n : Nat) (x1 : Int32) (x2 : Int32) (M3 : li_M), (8 - (x1 : Int32).toInt).toNat < n → li_fs (fun i k => False) M0 M3 → li_J M3 → 0 ≤ (x1 : Int32).toInt ∧ 0 ≤ (x2 : Int32).toInt ∧ (x2 : Int32).toInt ≤ 255 → li_T l Z YX12_thingsOf d 4 [(3, .int x1), (2, .int x2), (0, .ref (Z.2.2 175)), (1, .int p1)] [] M3 (fun r M' => (∃ x : Int32, r = some (.int x) ∧ (0 ≤ x.toInt ∧ x.toInt ≤ 255)) ∧ li_fs (fun i k => False) M0 M' ∧ li_J M') := by
    intro n
    induction n with
    | zero => intro x1 x2 M3 hn; exact absurd hn (Nat.not_lt_zero _)
    | succ n ih4 =>
      intro x1 x2 M3 hn hf hJ hi
      have gx1 := tl_rg x1
      have gx2 := tl_rg x2
      refine li_iload_n 0 dX12_thingsOf_4 rfl ?_
      refine li_aload_n 2 dX12_thingsOf_5 rfl ?_
      refine li_geti (k := 4) (N := 52) (T := TX12) (C0 := RX12) dX12_thingsOf_6 (by decide) sh_175 rfl rfl (by decide) li_in12 w_1408 ?_
      refine li_top (fun x4 ex4 => ?_)
      have gx4 : 0 ≤ x4.toInt ∧ x4.toInt ≤ 8 := by rw [ex4]; exact J_sl4 hJ
      have sx4 : x4.toInt = (M0.1 175 4).toInt := tl_slot (ex4.trans (hf.1 175 4 id))
      refine li_icmp_ge 38 dX12_thingsOf_9 (by decide) (fun c5 => ?_) (fun c5 => ?_)
      · have tc5 : x4.toInt ≤ x1.toInt := tl_le c5
        refine li_iload_n 1 dX12_thingsOf_38 rfl ?_
        exact li_iret dX12_thingsOf_39 rfl rfl ⟨⟨_, rfl, (by first | omega | (intro _; omega) | (refine ⟨?_, ?_⟩ <;> first | omega | (intro _; omega)) | (refine ⟨?_, ?_, ?_, ?_⟩ <;> first | omega | (intro _; omega)))⟩, hf, hJ⟩
      · have tc5 : x1.toInt < x4.toInt := tl_nle c5
        refine li_iload_n 1 dX12_thingsOf_12 rfl ?_
        refine li_aload_n 2 dX12_thingsOf_13 rfl ?_
        refine li_iload_n 0 dX12_thingsOf_14 rfl ?_
        refine li_iconst 0 dX12_thingsOf_15 (by decide) ?_
        have z0 : (0 : Int32).toInt = 0 := rfl
        refine li_callV (n := 2) (As := [.int x1, .int 0]) dX12_thingsOf_16 (k_X12_field (d - 1) (by omega) x1 0 M3 hJ (by omega) (by omega)) (by omega) (Nat.le_of_ble_eq_true rfl) w_1668 w_1670 w_60 w_112 w_1671 (by decide +kernel) rfl (by decide) sh_175 rfl rfl (Nat.le_of_ble_eq_true rfl) (fun r M7 h8 => ?_)
        obtain ⟨⟨x6, rfl, qx6⟩, h8, jM7⟩ := h8
        have gx6 := tl_rg x6
        have hf := li_fs_trans hf h8 (fun i k h => False.elim h)
        have hJ := jM7
        refine li_iload_n 3 dX12_thingsOf_19 rfl ?_
        have J30 : ∀ (x10 : Int32) (M11 : li_M), li_fs (fun i k => False) M0 M11 → li_J M11 → 0 ≤ (x10 : Int32).toInt ∧ (x10 : Int32).toInt ≤ 255 → li_T l Z YX12_thingsOf d 30 [(3, .int x1), (2, .int x2), (0, .ref (Z.2.2 175)), (1, .int p1)] [.int x10, .int x2] M11 (fun r M' => (∃ x : Int32, r = some (.int x) ∧ (0 ≤ x.toInt ∧ x.toInt ≤ 255)) ∧ li_fs (fun i k => False) M0 M' ∧ li_J M') := by
          intro x10 M11 hf hJ hi
          have gx10 := tl_rg x10
          refine li_ior dX12_thingsOf_30 ?_
          refine li_top (fun x12 ex12 => ?_)
          try (have tx12 := tl_or255 ex12 (by omega) (by omega))
          refine li_istore_n [(2, .int x12), (3, .int x1), (0, .ref (Z.2.2 175)), (1, .int p1)] dX12_thingsOf_31 (by decide) rfl ?_
          obtain ⟨x13, ex13⟩ : ∃ y : Int32, y = x1 + 1 := ⟨_, rfl⟩
          have z1 : (1 : Int32).toInt = 1 := rfl
          try (have tx13 : x13.toInt = (x1 : Int32).toInt + (1 : Int32).toInt := tl_add ex13 (by omega))
          refine li_iinc 1 [(3, .int x13), (2, .int x12), (0, .ref (Z.2.2 175)), (1, .int p1)] x13 dX12_thingsOf_32 rfl (by rw [ex13]; rfl) (by decide) rfl ?_
          refine li_goto 4 dX12_thingsOf_35 (by decide) ?_
          refine li_pick [0, 1, 2, 3] [(3, .int x13), (2, .int x12), (0, .ref (Z.2.2 175)), (1, .int p1)] rfl ?_
          exact ih4 x13 x12 M11 (by omega) hf hJ (by omega)
        refine li_icmp_ne 29 dX12_thingsOf_20 (by decide) (fun c9 => ?_) (fun c9 => ?_)
        · have tc9 : ¬ x6.toInt = p1.toInt := tl_ne c9
          refine li_iconst 0 dX12_thingsOf_29 (by decide) ?_
          refine li_pick [0, 1, 2, 3] [(3, .int x1), (2, .int x2), (0, .ref (Z.2.2 175)), (1, .int p1)] rfl ?_
          have z0 : (0 : Int32).toInt = 0 := rfl
          exact J30 0 M7 hf hJ (by omega)
        · have tc9 : x6.toInt = p1.toInt := tl_eq c9
          refine li_iconst 1 dX12_thingsOf_23 (by decide) ?_
          refine li_iload_n 0 dX12_thingsOf_24 rfl ?_
          refine li_ishl dX12_thingsOf_25 ?_
          refine li_top (fun x14 ex14 => ?_)
          have z1 : (1 : Int32).toInt = 1 := rfl
          try (have tx14 := tl_shl255 ex14 (by omega))
          refine li_goto 30 dX12_thingsOf_26 (by decide) ?_
          refine li_pick [0, 1, 2, 3] [(3, .int x1), (2, .int x2), (0, .ref (Z.2.2 175)), (1, .int p1)] rfl ?_
          exact J30 x14 M7 hf hJ (by omega)
  have z0 : (0 : Int32).toInt = 0 := rfl
  have z0 : (0 : Int32).toInt = 0 := rfl
  exact L4 _ 0 0 M0 (Nat.lt_succ_self _) hf hJ (by omega)
set_option maxRecDepth 100000 in
set_option maxHeartbeats 4000000 in
theorem k_X12_worthOf {l : Launch} {Z : li_Z} (d : Nat) (hd : 2 ≤ d) (p1 : Int32) (M0 : li_M) (hJ : li_J M0) : li_Met l Z YX12_worthOf d [.ref (Z.2.2 175), .int p1] M0 (fun r M' => (∃ x : Int32, r = some (.int x)) ∧ li_fs (fun i k => False) M0 M' ∧ li_J M') := by
  refine li_enter (by decide +kernel) (Nat.le_of_ble_eq_true rfl) ?_
  show li_T l Z YX12_worthOf d 0 [(0, .ref (Z.2.2 175)), (1, .int p1)] [] M0 _
  have hf : li_fs (fun i k => False) M0 M0 := li_fs_refl
  have gp1 := tl_rg p1
  refine li_iconst 0 dX12_worthOf_0 (by decide) ?_
  refine li_istore_n [(2, .int 0), (0, .ref (Z.2.2 175)), (1, .int p1)] dX12_worthOf_1 (by decide) rfl ?_
  refine li_iconst 0 dX12_worthOf_2 (by decide) ?_
  refine li_istore_n [(3, .int 0), (2, .int 0), (0, .ref (Z.2.2 175)), (1, .int p1)] dX12_worthOf_3 (by decide) rfl ?_
  have L4 : ∀ (n : Nat) (x1 : Int32) (x2 : Int32) (M3 : li_M), (8 - (x1 : Int32).toInt).toNat < n → li_fs (fun i k => False) M0 M3 → li_J M3 → 0 ≤ (x1 : Int32).toInt → li_T l Z YX12_worthOf d 4 [(3, .int x1), (2, .int x2), (0, .ref (Z.2.2 175)), (1, .int p1)] [] M3 (fun r M' => (∃ x : Int32, r = some (.int x)) ∧ li_fs (fun i k => False) M0 M' ∧ li_J M') := by
    intro n
    induction n with
    | zero => intro x1 x2 M3 hn; exact absurd hn (Nat.not_lt_zero _)
    | succ n ih4 =>
      intro x1 x2 M3 hn hf hJ hi
      have gx1 := tl_rg x1
      have gx2 := tl_rg x2
      refine li_iload_n 0 dX12_worthOf_4 rfl ?_
      refine li_aload_n 2 dX12_worthOf_5 rfl ?_
      refine li_geti (k := 4) (N := 52) (T := TX12) (C0 := RX12) dX12_worthOf_6 (by decide) sh_175 rfl rfl (by decide) li_in12 w_1408 ?_
      refine li_top (fun x4 ex4 => ?_)
      have gx4 : 0 ≤ x4.toInt ∧ x4.toInt ≤ 8 := by rw [ex4]; exact J_sl4 hJ
      have sx4 : x4.toInt = (M0.1 175 4).toInt := tl_slot (ex4.trans (hf.1 175 4 id))
      refine li_icmp_ge 39 dX12_worthOf_9 (by decide) (fun c5 => ?_) (fun c5 => ?_)
      · have tc5 : x4.toInt ≤ x1.toInt := tl_le c5
        refine li_iload_n 1 dX12_worthOf_39 rfl ?_
        exact li_iret dX12_worthOf_40 rfl rfl ⟨⟨_, rfl⟩, hf, hJ⟩
      · have tc5 : x1.toInt < x4.toInt := tl_nle c5
        refine li_iload_n 1 dX12_worthOf_12 rfl ?_
        refine li_iload_n 3 dX12_worthOf_13 rfl ?_
        refine li_iload_n 0 dX12_worthOf_14 rfl ?_
        refine li_callS (n := 2) (As := [.int p1, .int x1]) dX12_worthOf_15 (k_X12_has (d - 1) (by omega) p1 x1 M3 hJ ) (by omega) (Nat.le_of_ble_eq_true rfl) w_1734 w_1735 w_112 w_1736 (by decide +kernel) rfl rfl (Nat.le_of_ble_eq_true rfl) (fun r M7 h8 => ?_)
        obtain ⟨qx6, h8, jM7⟩ := h8
        have hf := li_fs_trans hf h8 (fun i k h => False.elim h)
        have hJ := jM7
        rcases qx6 with ⟨rfl, qx6⟩ | ⟨rfl, qx6⟩
        · skip
          refine li_if_eq 30 dX12_worthOf_18 (by decide) (fun c => absurd c (by decide)) (fun c => ?_)
          refine li_aload_n 2 dX12_worthOf_21 rfl ?_
          refine li_iload_n 0 dX12_worthOf_22 rfl ?_
          refine li_iconst 4 dX12_worthOf_23 (by decide) ?_
          have z4 : (4 : Int32).toInt = 4 := rfl
          refine li_callV (n := 2) (As := [.int x1, .int 4]) dX12_worthOf_24 (k_X12_field (d - 1) (by omega) x1 4 M7 hJ (by omega) (by omega)) (by omega) (Nat.le_of_ble_eq_true rfl) w_1668 w_1670 w_60 w_112 w_1671 (by decide +kernel) rfl (by decide) sh_175 rfl rfl (Nat.le_of_ble_eq_true rfl) (fun r M11 h12 => ?_)
          obtain ⟨⟨x10, rfl, qx10⟩, h12, jM11⟩ := h12
          have gx10 := tl_rg x10
          have hf := li_fs_trans hf h12 (fun i k h => False.elim h)
          have hJ := jM11
          refine li_goto 31 dX12_worthOf_27 (by decide) ?_
          refine li_iadd dX12_worthOf_31 ?_
          refine li_top (fun x13 ex13 => ?_)
          try (have tx13 : x13.toInt = (x2 : Int32).toInt + (x10 : Int32).toInt := tl_add ex13 (by omega))
          refine li_istore_n [(2, .int x13), (3, .int x1), (0, .ref (Z.2.2 175)), (1, .int p1)] dX12_worthOf_32 (by decide) rfl ?_
          obtain ⟨x14, ex14⟩ : ∃ y : Int32, y = x1 + 1 := ⟨_, rfl⟩
          have z1 : (1 : Int32).toInt = 1 := rfl
          try (have tx14 : x14.toInt = (x1 : Int32).toInt + (1 : Int32).toInt := tl_add ex14 (by omega))
          refine li_iinc 1 [(3, .int x14), (2, .int x13), (0, .ref (Z.2.2 175)), (1, .int p1)] x14 dX12_worthOf_33 rfl (by rw [ex14]; rfl) (by decide) rfl ?_
          refine li_goto 4 dX12_worthOf_36 (by decide) ?_
          refine li_pick [0, 1, 2, 3] [(3, .int x14), (2, .int x13), (0, .ref (Z.2.2 175)), (1, .int p1)] rfl ?_
          exact ih4 x14 x13 M11 (by omega) hf hJ (by omega)
        · skip
          refine li_if_eq 30 dX12_worthOf_18 (by decide) (fun c => ?_) (fun c => absurd rfl c)
          refine li_iconst 0 dX12_worthOf_30 (by decide) ?_
          refine li_iadd dX12_worthOf_31 ?_
          refine li_top (fun x16 ex16 => ?_)
          have z0 : (0 : Int32).toInt = 0 := rfl
          try (have tx16 : x16.toInt = (x2 : Int32).toInt + (0 : Int32).toInt := tl_add ex16 (by omega))
          refine li_istore_n [(2, .int x16), (3, .int x1), (0, .ref (Z.2.2 175)), (1, .int p1)] dX12_worthOf_32 (by decide) rfl ?_
          obtain ⟨x17, ex17⟩ : ∃ y : Int32, y = x1 + 1 := ⟨_, rfl⟩
          have z1 : (1 : Int32).toInt = 1 := rfl
          try (have tx17 : x17.toInt = (x1 : Int32).toInt + (1 : Int32).toInt := tl_add ex17 (by omega))
          refine li_iinc 1 [(3, .int x17), (2, .int x16), (0, .ref (Z.2.2 175)), (1, .int p1)] x17 dX12_worthOf_33 rfl (by rw [ex17]; rfl) (by decide) rfl ?_
          refine li_goto 4 dX12_worthOf_36 (by decide) ?_
          refine li_pick [0, 1, 2, 3] [(3, .int x17), (2, .int x16), (0, .ref (Z.2.2 175)), (1, .int p1)] rfl ?_
          exact ih4 x17 x16 M7 (by omega) hf hJ (by omega)
  have z0 : (0 : Int32).toInt = 0 := rfl
  have z0 : (0 : Int32).toInt = 0 := rfl
  exact L4 _ 0 0 M0 (Nat.lt_succ_self _) hf hJ (by omega)
set_option maxRecDepth 100000 in
set_option maxHeartbeats 4000000 in
theorem k_X12_sumOf {l : Launch} {Z : li_Z} (d : Nat) (hd : 2 ≤ d) (p1 : Int32) (M0 : li_M) (hJ : li_J M0) : li_Met l Z YX12_sumOf d [.ref (Z.2.2 175), .int p1] M0 (fun r M' => (∃ x : Int32, r = some (.int x)) ∧ li_fs (fun i k => False) M0 M' ∧ li_J M') := by
  refine li_enter (by decide +kernel) (Nat.le_of_ble_eq_true rfl) ?_
  show li_T l Z YX12_sumOf d 0 [(0, .ref (Z.2.2 175)), (1, .int p1)] [] M0 _
  have hf : li_fs (fun i k => False) M0 M0 := li_fs_refl
  have gp1 := tl_rg p1
  refine li_iconst 0 dX12_sumOf_0 (by decide) ?_
  refine li_istore_n [(2, .int 0), (0, .ref (Z.2.2 175)), (1, .int p1)] dX12_sumOf_1 (by decide) rfl ?_
  refine li_iconst 0 dX12_sumOf_2 (by decide) ?_
  refine li_istore_n [(3, .int 0), (2, .int 0), (0, .ref (Z.2.2 175)), (1, .int p1)] dX12_sumOf_3 (by decide) rfl ?_
  have L4 : ∀ (n : Nat) (x1 : Int32) (x2 : Int32) (M3 : li_M), (8 - (x1 : Int32).toInt).toNat < n → li_fs (fun i k => False) M0 M3 → li_J M3 → 0 ≤ (x1 : Int32).toInt → li_T l Z YX12_sumOf d 4 [(3, .int x1), (2, .int x2), (0, .ref (Z.2.2 175)), (1, .int p1)] [] M3 (fun r M' => (∃ x : Int32, r = some (.int x)) ∧ li_fs (fun i k => False) M0 M' ∧ li_J M') := by
    intro n
    induction n with
    | zero => intro x1 x2 M3 hn; exact absurd hn (Nat.not_lt_zero _)
    | succ n ih4 =>
      intro x1 x2 M3 hn hf hJ hi
      have gx1 := tl_rg x1
      have gx2 := tl_rg x2
      refine li_iload_n 0 dX12_sumOf_4 rfl ?_
      refine li_aload_n 2 dX12_sumOf_5 rfl ?_
      refine li_geti (k := 4) (N := 52) (T := TX12) (C0 := RX12) dX12_sumOf_6 (by decide) sh_175 rfl rfl (by decide) li_in12 w_1408 ?_
      refine li_top (fun x4 ex4 => ?_)
      have gx4 : 0 ≤ x4.toInt ∧ x4.toInt ≤ 8 := by rw [ex4]; exact J_sl4 hJ
      have sx4 : x4.toInt = (M0.1 175 4).toInt := tl_slot (ex4.trans (hf.1 175 4 id))
      refine li_icmp_ge 39 dX12_sumOf_9 (by decide) (fun c5 => ?_) (fun c5 => ?_)
      · have tc5 : x4.toInt ≤ x1.toInt := tl_le c5
        refine li_iload_n 1 dX12_sumOf_39 rfl ?_
        exact li_iret dX12_sumOf_40 rfl rfl ⟨⟨_, rfl⟩, hf, hJ⟩
      · have tc5 : x1.toInt < x4.toInt := tl_nle c5
        refine li_iload_n 1 dX12_sumOf_12 rfl ?_
        refine li_iload_n 3 dX12_sumOf_13 rfl ?_
        refine li_iload_n 0 dX12_sumOf_14 rfl ?_
        refine li_callS (n := 2) (As := [.int p1, .int x1]) dX12_sumOf_15 (k_X12_has (d - 1) (by omega) p1 x1 M3 hJ ) (by omega) (Nat.le_of_ble_eq_true rfl) w_1734 w_1735 w_112 w_1736 (by decide +kernel) rfl rfl (Nat.le_of_ble_eq_true rfl) (fun r M7 h8 => ?_)
        obtain ⟨qx6, h8, jM7⟩ := h8
        have hf := li_fs_trans hf h8 (fun i k h => False.elim h)
        have hJ := jM7
        rcases qx6 with ⟨rfl, qx6⟩ | ⟨rfl, qx6⟩
        · skip
          refine li_if_eq 30 dX12_sumOf_18 (by decide) (fun c => absurd c (by decide)) (fun c => ?_)
          refine li_aload_n 2 dX12_sumOf_21 rfl ?_
          refine li_getr (k := 29) (N := 52) (T := TX12) (C0 := RX12) dX12_sumOf_22 (by decide) sh_175 rfl rfl (by decide) (by decide) li_in12 w_1433 ?_
          refine li_iload_n 0 dX12_sumOf_25 rfl ?_
          refine li_iald dX12_sumOf_26 (by decide) sh_189 (tl_in (by omega)) ?_
          refine li_top (fun x10 ex10 => ?_)
          have gx10 := tl_rg x10
          refine li_goto 31 dX12_sumOf_27 (by decide) ?_
          refine li_iadd dX12_sumOf_31 ?_
          refine li_top (fun x11 ex11 => ?_)
          try (have tx11 : x11.toInt = (x2 : Int32).toInt + (x10 : Int32).toInt := tl_add ex11 (by omega))
          refine li_istore_n [(2, .int x11), (3, .int x1), (0, .ref (Z.2.2 175)), (1, .int p1)] dX12_sumOf_32 (by decide) rfl ?_
          obtain ⟨x12, ex12⟩ : ∃ y : Int32, y = x1 + 1 := ⟨_, rfl⟩
          have z1 : (1 : Int32).toInt = 1 := rfl
          try (have tx12 : x12.toInt = (x1 : Int32).toInt + (1 : Int32).toInt := tl_add ex12 (by omega))
          refine li_iinc 1 [(3, .int x12), (2, .int x11), (0, .ref (Z.2.2 175)), (1, .int p1)] x12 dX12_sumOf_33 rfl (by rw [ex12]; rfl) (by decide) rfl ?_
          refine li_goto 4 dX12_sumOf_36 (by decide) ?_
          refine li_pick [0, 1, 2, 3] [(3, .int x12), (2, .int x11), (0, .ref (Z.2.2 175)), (1, .int p1)] rfl ?_
          exact ih4 x12 x11 M7 (by omega) hf hJ (by omega)
        · skip
          refine li_if_eq 30 dX12_sumOf_18 (by decide) (fun c => ?_) (fun c => absurd rfl c)
          refine li_iconst 0 dX12_sumOf_30 (by decide) ?_
          refine li_iadd dX12_sumOf_31 ?_
          refine li_top (fun x14 ex14 => ?_)
          have z0 : (0 : Int32).toInt = 0 := rfl
          try (have tx14 : x14.toInt = (x2 : Int32).toInt + (0 : Int32).toInt := tl_add ex14 (by omega))
          refine li_istore_n [(2, .int x14), (3, .int x1), (0, .ref (Z.2.2 175)), (1, .int p1)] dX12_sumOf_32 (by decide) rfl ?_
          obtain ⟨x15, ex15⟩ : ∃ y : Int32, y = x1 + 1 := ⟨_, rfl⟩
          have z1 : (1 : Int32).toInt = 1 := rfl
          try (have tx15 : x15.toInt = (x1 : Int32).toInt + (1 : Int32).toInt := tl_add ex15 (by omega))
          refine li_iinc 1 [(3, .int x15), (2, .int x14), (0, .ref (Z.2.2 175)), (1, .int p1)] x15 dX12_sumOf_33 rfl (by rw [ex15]; rfl) (by decide) rfl ?_
          refine li_goto 4 dX12_sumOf_36 (by decide) ?_
          refine li_pick [0, 1, 2, 3] [(3, .int x15), (2, .int x14), (0, .ref (Z.2.2 175)), (1, .int p1)] rfl ?_
          exact ih4 x15 x14 M7 (by omega) hf hJ (by omega)
  have z0 : (0 : Int32).toInt = 0 := rfl
  have z0 : (0 : Int32).toInt = 0 := rfl
  exact L4 _ 0 0 M0 (Nat.lt_succ_self _) hf hJ (by omega)
set_option maxRecDepth 100000 in
set_option maxHeartbeats 4000000 in
theorem k_X12_allClocks {l : Launch} {Z : li_Z} (d : Nat) (hd : 1 ≤ d) (M0 : li_M) (hJ : li_J M0) : li_Met l Z YX12_allClocks d [.ref (Z.2.2 175)] M0 (fun r M' => (∃ x : Int32, r = some (.int x)) ∧ li_fs (fun i k => False) M0 M' ∧ li_J M') := by
  refine li_enter (by decide +kernel) (Nat.le_of_ble_eq_true rfl) ?_
  show li_T l Z YX12_allClocks d 0 [(0, .ref (Z.2.2 175))] [] M0 _
  have hf : li_fs (fun i k => False) M0 M0 := li_fs_refl
  refine li_iconst 0 dX12_allClocks_0 (by decide) ?_
  refine li_istore_n [(1, .int 0), (0, .ref (Z.2.2 175))] dX12_allClocks_1 (by decide) rfl ?_
  refine li_iconst 0 dX12_allClocks_2 (by decide) ?_
  refine li_istore_n [(2, .int 0), (1, .int 0), (0, .ref (Z.2.2 175))] dX12_allClocks_3 (by decide) rfl ?_
  have L4 : ∀ (n : Nat) (x1 : Int32) (x2 : Int32) (M3 : li_M), (6 - (x1 : Int32).toInt).toNat < n → li_fs (fun i k => False) M0 M3 → li_J M3 → 0 ≤ (x1 : Int32).toInt → li_T l Z YX12_allClocks d 4 [(2, .int x1), (1, .int x2), (0, .ref (Z.2.2 175))] [] M3 (fun r M' => (∃ x : Int32, r = some (.int x)) ∧ li_fs (fun i k => False) M0 M' ∧ li_J M') := by
    intro n
    induction n with
    | zero => intro x1 x2 M3 hn; exact absurd hn (Nat.not_lt_zero _)
    | succ n ih4 =>
      intro x1 x2 M3 hn hf hJ hi
      have gx1 := tl_rg x1
      have gx2 := tl_rg x2
      refine li_iload_n 0 dX12_allClocks_4 rfl ?_
      refine li_aload_n 2 dX12_allClocks_5 rfl ?_
      refine li_geti (k := 1) (N := 52) (T := TX12) (C0 := RX12) dX12_allClocks_6 (by decide) sh_175 rfl rfl (by decide) li_in12 w_1405 ?_
      refine li_top (fun x4 ex4 => ?_)
      have gx4 : 0 ≤ x4.toInt ∧ x4.toInt ≤ 6 := by rw [ex4]; exact J_sl1 hJ
      have sx4 : x4.toInt = (M0.1 175 1).toInt := tl_slot (ex4.trans (hf.1 175 1 id))
      refine li_icmp_ge 27 dX12_allClocks_9 (by decide) (fun c5 => ?_) (fun c5 => ?_)
      · have tc5 : x4.toInt ≤ x1.toInt := tl_le c5
        refine li_iload_n 1 dX12_allClocks_27 rfl ?_
        exact li_iret dX12_allClocks_28 rfl rfl ⟨⟨_, rfl⟩, hf, hJ⟩
      · have tc5 : x1.toInt < x4.toInt := tl_nle c5
        refine li_iload_n 1 dX12_allClocks_12 rfl ?_
        refine li_aload_n 2 dX12_allClocks_13 rfl ?_
        refine li_getr (k := 0) (N := 52) (T := TX12) (C0 := RX12) dX12_allClocks_14 (by decide) sh_175 rfl rfl (by decide) (by decide) li_in12 w_1404 ?_
        refine li_iload_n 0 dX12_allClocks_17 rfl ?_
        refine li_iald dX12_allClocks_18 (by decide) sh_176 (tl_in (by omega)) ?_
        refine li_top (fun x6 ex6 => ?_)
        have gx6 := tl_rg x6
        try (have ox6 : (x1 : Int32).toInt % 51 = (x1 : Int32).toInt := by omega)
        have lx6 : ((x1 : Int32).toInt % 51 = 20 → 0 ≤ x6.toInt ∧ x6.toInt ≤ 6) ∧ (21 ≤ (x1 : Int32).toInt % 51 → ((x1 : Int32).toInt % 51 - 21) % 5 < 2 → 0 ≤ x6.toInt ∧ x6.toInt ≤ 5) := hJ.ldLed (by unfold li_led; omega) ex6 (by omega)
        refine li_iadd dX12_allClocks_19 ?_
        refine li_top (fun x7 ex7 => ?_)
        try (have tx7 : x7.toInt = (x2 : Int32).toInt + (x6 : Int32).toInt := tl_add ex7 (by omega))
        refine li_istore_n [(1, .int x7), (2, .int x1), (0, .ref (Z.2.2 175))] dX12_allClocks_20 (by decide) rfl ?_
        obtain ⟨x8, ex8⟩ : ∃ y : Int32, y = x1 + 1 := ⟨_, rfl⟩
        have z1 : (1 : Int32).toInt = 1 := rfl
        try (have tx8 : x8.toInt = (x1 : Int32).toInt + (1 : Int32).toInt := tl_add ex8 (by omega))
        refine li_iinc 1 [(2, .int x8), (1, .int x7), (0, .ref (Z.2.2 175))] x8 dX12_allClocks_21 rfl (by rw [ex8]; rfl) (by decide) rfl ?_
        refine li_goto 4 dX12_allClocks_24 (by decide) ?_
        refine li_pick [0, 1, 2] [(2, .int x8), (1, .int x7), (0, .ref (Z.2.2 175))] rfl ?_
        exact ih4 x8 x7 M3 (by omega) hf hJ (by omega)
  have z0 : (0 : Int32).toInt = 0 := rfl
  have z0 : (0 : Int32).toInt = 0 := rfl
  exact L4 _ 0 0 M0 (Nat.lt_succ_self _) hf hJ (by omega)
set_option maxRecDepth 100000 in
set_option maxHeartbeats 4000000 in
theorem k_X12_isLeft {l : Launch} {Z : li_Z} (d : Nat) (hd : 2 ≤ d) (p1 : Int32) (M0 : li_M) (hJ : li_J M0) : li_Met l Z YX12_isLeft d [.int p1] M0 (fun r M' => ((r = some (.int 1) ∧ (0 ≤ p1.toInt ∧ p1.toInt ≤ 60)) ∨ (r = some (.int 0) ∧ (p1.toInt < 0 ∨ 60 < p1.toInt))) ∧ li_fs (fun i k => False) M0 M' ∧ li_J M') := by
  refine li_enter (by decide +kernel) (Nat.le_of_ble_eq_true rfl) ?_
  show li_T l Z YX12_isLeft d 0 [(0, .int p1)] [] M0 _
  have hf : li_fs (fun i k => False) M0 M0 := li_fs_refl
  have gp1 := tl_rg p1
  refine li_iload_n 0 dX12_isLeft_0 rfl ?_
  refine li_iconst 0 dX12_isLeft_1 (by decide) ?_
  refine li_bipush 60 dX12_isLeft_2 (by decide) ?_
  have z0 : (0 : Int32).toInt = 0 := rfl
  have z60 : (60 : Int32).toInt = 60 := rfl
  refine li_callS (n := 3) (As := [.int p1, .int 0, .int 60]) dX12_isLeft_4 (k_X12_in (d - 1) (by omega) p1 0 60 M0 hJ ) (by omega) (Nat.le_of_ble_eq_true rfl) w_1570 w_1571 w_112 w_1572 (by decide +kernel) rfl rfl (Nat.le_of_ble_eq_true rfl) (fun r M2 h3 => ?_)
  obtain ⟨qx1, h3, jM2⟩ := h3
  have hf := li_fs_trans hf h3 (fun i k h => False.elim h)
  have hJ := jM2
  rcases qx1 with ⟨rfl, qx1⟩ | ⟨rfl, qx1⟩
  · skip
    have z1 : (1 : Int32).toInt = 1 := rfl
    exact li_iret dX12_isLeft_7 rfl (li_nz (Or.inr rfl)) ⟨Or.inl ⟨rfl, (by omega)⟩, hf, hJ⟩
  · skip
    have z0 : (0 : Int32).toInt = 0 := rfl
    exact li_iret dX12_isLeft_7 rfl (li_nz (Or.inl rfl)) ⟨Or.inr ⟨rfl, (by omega)⟩, hf, hJ⟩
