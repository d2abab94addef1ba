set_option maxRecDepth 100000 in
set_option maxHeartbeats 4000000 in
theorem k9_X11_readLine {l : Launch} {Z : li_Z} (d : Nat) (hdZq : 5 ≤ d) (p1Zq : Int32) (p2Zq : Int32) (M0 : li_M) (h2 : ¬ p1Zq.toInt = 0) : li_Met l Z YX11_readLine d [.ref (Z.2.2 0), .int p1Zq, .int p2Zq] M0 (li_SZ (fun i => i = 1 ∨ i = 10 ∨ i = 11 ∨ i = 12 ∨ i = 165 ∨ i = 174 ∨ i = 8 ∨ i = 9) M0) := by
  refine li_enter (by decide +kernel) (Nat.le_of_ble_eq_true rfl) ?_
  show li_T l Z YX11_readLine d 0 [(0, .ref (Z.2.2 0)), (1, .int p1Zq), (2, .int p2Zq)] [] M0 _
  have hf : li_fr (fun i => i = 1 ∨ i = 10 ∨ i = 11 ∨ i = 12 ∨ i = 165 ∨ i = 174 ∨ i = 8 ∨ i = 9) M0 M0 := li_fr_refl
  have gp1 := tl_rg p1Zq
  have gp2 := tl_rg p2Zq
  refine li_iload_n 1 dX11_readLine_0 rfl ?_
  refine li_table dX11_readLine_1 69 (by decide) (fun c1 => ?_) (fun c1a c1b => ?_)
  · refine li_aload_n 0 dX11_readLine_69 rfl ?_
    refine li_getr (k := 10) (N := 13) (T := TX11) (C0 := RX11) dX11_readLine_70 (by decide) sh_0 rfl rfl (by decide) (by decide) li_in11 w_483 ?_
    refine li_aload_n 0 dX11_readLine_73 rfl ?_
    refine li_getr (k := 0) (N := 13) (T := TX11) (C0 := RX11) dX11_readLine_74 (by decide) sh_0 rfl rfl (by decide) (by decide) li_in11 w_473 ?_
    refine li_iload_n 2 dX11_readLine_77 rfl ?_
    refine li_callV (n := 2) (As := [.ref (Z.2.2 1), .int p2Zq]) dX11_readLine_78 (k_X10_readLine (d - 1) (by omega) p2Zq M0) (by omega) (Nat.le_of_ble_eq_true rfl) w_716 w_717 w_718 w_108 w_719 (by decide +kernel) rfl (by decide) sh_163 rfl rfl (Nat.le_of_ble_eq_true rfl) (fun r M3Zq h4 => ?_)
    obtain ⟨⟨x2Zq, rfl, bx2⟩, h4⟩ := h4
    have ux2 := tl_b bx2
    have hf := li_fr_trans hf h4 (fun i (hZq : i = 1 ∨ i = 165) => (show i = 1 ∨ i = 10 ∨ i = 11 ∨ i = 12 ∨ i = 165 ∨ i = 174 ∨ i = 8 ∨ i = 9 by omega))
    exact li_iret dX11_readLine_81 rfl (li_nz (bx2)) ⟨⟨_, rfl, bx2⟩, hf⟩
  · rcases (show (p1Zq : Int32).toInt = 0 ∨ (p1Zq : Int32).toInt = 1 ∨ (p1Zq : Int32).toInt = 2 by omega) with c1 | c1 | c1
    · exfalso; omega
    · refine ⟨48, 49, by rw [c1]; rfl, by decide, ?_⟩
      refine li_aload_n 0 dX11_readLine_49 rfl ?_
      refine li_aload_n 0 dX11_readLine_50 rfl ?_
      refine li_getr (k := 2) (N := 13) (T := TX11) (C0 := RX11) dX11_readLine_51 (by decide) sh_0 rfl rfl (by decide) (by decide) li_in11 w_475 ?_
      refine li_geti (k := 1) (N := 9) (T := TX8) (C0 := RX8) dX11_readLine_54 (by decide) sh_5 rfl rfl (by decide) li_in8 w_180 ?_
      refine li_top (fun x5Zq ex5 => ?_)
      have gx5 := tl_rg x5Zq
      refine li_iload_n 2 dX11_readLine_57 rfl ?_
      refine li_iadd dX11_readLine_58 ?_
      refine li_top (fun x6 ex6 => ?_)
      have tx6 : (-2147483648 ≤ x5Zq.toInt + p2Zq.toInt ∧ x5Zq.toInt + p2Zq.toInt ≤ 2147483647) → x6.toInt = x5Zq.toInt + p2Zq.toInt := tl_add ex6
      refine li_callV (n := 1) (As := [.int x6]) dX11_readLine_59 (k_X11_readWish (d - 1) (by omega) x6 M0) (by omega) (Nat.le_of_ble_eq_true rfl) w_679 w_681 w_10 w_101 w_682 (by decide +kernel) rfl (by decide) sh_0 rfl rfl (Nat.le_of_ble_eq_true rfl) (fun r M8Zq h9 => ?_)
      obtain ⟨⟨x7, rfl, bx7⟩, h9⟩ := h9
      have ux7 := tl_b bx7
      have hf := li_fr_trans hf h9 (fun i (hZq : i = 1 ∨ i = 10 ∨ i = 11 ∨ i = 12 ∨ i = 8 ∨ i = 9) => (show i = 1 ∨ i = 10 ∨ i = 11 ∨ i = 12 ∨ i = 165 ∨ i = 174 ∨ i = 8 ∨ i = 9 by omega))
      exact li_iret dX11_readLine_62 rfl (li_nz (bx7)) ⟨⟨_, rfl, bx7⟩, hf⟩
    · refine ⟨62, 63, by rw [c1]; rfl, by decide, ?_⟩
      refine li_aload_n 0 dX11_readLine_63 rfl ?_
      refine li_iload_n 2 dX11_readLine_64 rfl ?_
      refine li_callV (n := 1) (As := [.int p2Zq]) dX11_readLine_65 (k_X11_readAct (d - 1) (by omega) p2Zq M0) (by omega) (Nat.le_of_ble_eq_true rfl) w_696 w_698 w_11 w_101 w_699 (by decide +kernel) rfl (by decide) sh_0 rfl rfl (Nat.le_of_ble_eq_true rfl) (fun r M11 h12 => ?_)
      obtain ⟨⟨x10, rfl, bx10⟩, h12⟩ := h12
      have ux10 := tl_b bx10
      have hf := li_fr_trans hf h12 (fun i (hZq : i = 1 ∨ i = 174) => (show i = 1 ∨ i = 10 ∨ i = 11 ∨ i = 12 ∨ i = 165 ∨ i = 174 ∨ i = 8 ∨ i = 9 by omega))
      exact li_iret dX11_readLine_68 rfl (li_nz (bx10)) ⟨⟨_, rfl, bx10⟩, hf⟩
set_option maxRecDepth 100000 in
set_option maxHeartbeats 4000000 in
theorem k9_X11_readLines {l : Launch} {Z : li_Z} (d : Nat) (hdZq : 6 ≤ d) (p1Zq : Int32) (p2Zq : Int32) (M0 : li_M) (h2 : ¬ p1Zq.toInt = 0) : li_Met l Z YX11_readLines d [.ref (Z.2.2 0), .int p1Zq, .int p2Zq] M0 (li_SI (fun i => i = 1 ∨ i = 10 ∨ i = 11 ∨ i = 12 ∨ i = 165 ∨ i = 174 ∨ i = 8 ∨ i = 9) M0) := by
  refine li_enter (by decide +kernel) (Nat.le_of_ble_eq_true rfl) ?_
  show li_T l Z YX11_readLines d 0 [(0, .ref (Z.2.2 0)), (1, .int p1Zq), (2, .int p2Zq)] [] M0 _
  have hf : li_fr (fun i => i = 1 ∨ i = 10 ∨ i = 11 ∨ i = 12 ∨ i = 165 ∨ i = 174 ∨ i = 8 ∨ i = 9) M0 M0 := li_fr_refl
  have gp1 := tl_rg p1Zq
  have gp2 := tl_rg p2Zq
  refine li_iconst 0 dX11_readLines_0 (by decide) ?_
  refine li_istore_n [(3, .int 0), (0, .ref (Z.2.2 0)), (1, .int p1Zq), (2, .int p2Zq)] dX11_readLines_1 (by decide) rfl ?_
  have L2Zq : ∀ (n : Nat) (x1Zq : Int32) (M2Zq : li_M), (2147483647 - (x1Zq : Int32).toInt).toNat < n → li_fr (fun i => i = 1 ∨ i = 10 ∨ i = 11 ∨ i = 12 ∨ i = 165 ∨ i = 174 ∨ i = 8 ∨ i = 9) M0 M2Zq → li_T l Z YX11_readLines d 2 [(3, .int x1Zq), (0, .ref (Z.2.2 0)), (1, .int p1Zq), (2, .int p2Zq)] [] M2Zq (li_SI (fun i => i = 1 ∨ i = 10 ∨ i = 11 ∨ i = 12 ∨ i = 165 ∨ i = 174 ∨ i = 8 ∨ i = 9) M0) := by
    intro n
    induction n with
    | zero => intro x1Zq M2Zq hn; exact absurd hn (Nat.not_lt_zero _)
    | succ n ih2 =>
      intro x1Zq M2Zq hn hf
      have gx1 := tl_rg x1Zq
      refine li_iload_n 0 dX11_readLines_2 rfl ?_
      refine li_iload_n 3 dX11_readLines_3 rfl ?_
      refine li_icmp_ge 52 dX11_readLines_4 (by decide) (fun c3 => ?_) (fun c3 => ?_)
      · have tc3 : p2Zq.toInt ≤ x1Zq.toInt := tl_le c3
        refine li_iconst (-1) dX11_readLines_52 (by decide) ?_
        exact li_iret dX11_readLines_53 rfl rfl ⟨⟨_, rfl⟩, hf⟩
      · have tc3 : x1Zq.toInt < p2Zq.toInt := tl_nle c3
        refine li_aload_n 1 dX11_readLines_7 rfl ?_
        refine li_iload_n 2 dX11_readLines_8 rfl ?_
        refine li_iload_n 0 dX11_readLines_9 rfl ?_
        refine li_callV (n := 2) (As := [.int p1Zq, .int x1Zq]) dX11_readLines_10 (k9_X11_readLine (d - 1) (by omega) p1Zq x1Zq M2Zq (by omega)) (by omega) (Nat.le_of_ble_eq_true rfl) w_668 w_670 w_9 w_101 w_671 (by decide +kernel) rfl (by decide) sh_0 rfl rfl (Nat.le_of_ble_eq_true rfl) (fun r M5Zq h6 => ?_)
        obtain ⟨⟨x4Zq, rfl, bx4⟩, h6⟩ := h6
        have ux4 := tl_b bx4
        have hf := li_fr_trans hf h6 (fun i (hZq : i = 1 ∨ i = 10 ∨ i = 11 ∨ i = 12 ∨ i = 165 ∨ i = 174 ∨ i = 8 ∨ i = 9) => (show i = 1 ∨ i = 10 ∨ i = 11 ∨ i = 12 ∨ i = 165 ∨ i = 174 ∨ i = 8 ∨ i = 9 by omega))
        refine li_if_ne 18 dX11_readLines_13 (by decide) (fun c7Zq => ?_) (fun c7Zq => ?_)
        · have tc7 : ¬ x4Zq.toInt = 0 := tl_ne c7Zq
          refine li_aload_n 1 dX11_readLines_18 rfl ?_
          refine li_getr (k := 0) (N := 13) (T := TX11) (C0 := RX11) dX11_readLines_19 (by decide) sh_0 rfl rfl (by decide) (by decide) li_in11 w_473 ?_
          refine li_callV (n := 0) (As := []) dX11_readLines_22 (k_X7_atEnd (d - 1) (by omega)  M5Zq) (by omega) (Nat.le_of_ble_eq_true rfl) w_663 w_545 w_546 w_102 w_547 (by decide +kernel) rfl (by decide) sh_1 rfl rfl (Nat.le_of_ble_eq_true rfl) (fun r M9Zq h10 => ?_)
          obtain ⟨⟨x8, rfl, bx8⟩, h10⟩ := h10
          have ux8 := tl_b bx8
          have hf := li_fr_trans hf h10 (fun i hZq => False.elim hZq)
          refine li_if_eq 32 dX11_readLines_25 (by decide) (fun c11Zq => ?_) (fun c11Zq => ?_)
          · have tc11 : x8.toInt = 0 := tl_eq c11Zq
            refine li_aload_n 1 dX11_readLines_32 rfl ?_
            refine li_getr (k := 0) (N := 13) (T := TX11) (C0 := RX11) dX11_readLines_33 (by decide) sh_0 rfl rfl (by decide) (by decide) li_in11 w_473 ?_
            refine li_bipush 59 dX11_readLines_36 (by decide) ?_
            refine li_callV (n := 1) (As := [.int 59]) dX11_readLines_38 (k_X7_skip (d - 1) (by omega) 59 M9Zq) (by omega) (Nat.le_of_ble_eq_true rfl) w_700 w_565 w_566 w_102 w_567 (by decide +kernel) rfl (by decide) sh_1 rfl rfl (Nat.le_of_ble_eq_true rfl) (fun r M13 h14 => ?_)
            obtain ⟨⟨x12, rfl, bx12⟩, h14⟩ := h14
            have ux12 := tl_b bx12
            have hf := li_fr_trans hf h14 (fun i (hZq : i = 1) => (show i = 1 ∨ i = 10 ∨ i = 11 ∨ i = 12 ∨ i = 165 ∨ i = 174 ∨ i = 8 ∨ i = 9 by omega))
            refine li_if_ne 46 dX11_readLines_41 (by decide) (fun c15Zq => ?_) (fun c15Zq => ?_)
            · have tc15 : ¬ x12.toInt = 0 := tl_ne c15Zq
              obtain ⟨x16, ex16⟩ : ∃ y : Int32, y = x1Zq + 1 := ⟨_, rfl⟩
              have tx16 : (-2147483648 ≤ x1Zq.toInt + 1 ∧ x1Zq.toInt + 1 ≤ 2147483647) → x16.toInt = x1Zq.toInt + 1 := tl_add ex16
              refine li_iinc 0 [(3, .int x16), (0, .ref (Z.2.2 0)), (1, .int p1Zq), (2, .int p2Zq)] x16 dX11_readLines_46 rfl (by rw [ex16]; rfl) (by decide) rfl ?_
              refine li_goto 2 dX11_readLines_49 (by decide) ?_
              refine li_pick [0, 1, 2, 3] [(3, .int x16), (0, .ref (Z.2.2 0)), (1, .int p1Zq), (2, .int p2Zq)] rfl ?_
              exact ih2 x16 M13 (by have h9 := li_up (li_gt c3); rw [← ex16] at h9; omega) hf
            · have tc15 : x12.toInt = 0 := tl_eq c15Zq
              refine li_iconst (-1) dX11_readLines_44 (by decide) ?_
              exact li_iret dX11_readLines_45 rfl rfl ⟨⟨_, rfl⟩, hf⟩
          · have tc11 : ¬ x8.toInt = 0 := tl_ne c11Zq
            refine li_iload_n 0 dX11_readLines_28 rfl ?_
            refine li_iconst 1 dX11_readLines_29 (by decide) ?_
            refine li_iadd dX11_readLines_30 ?_
            refine li_top (fun x17 ex17 => ?_)
            have tx17 : (-2147483648 ≤ x1Zq.toInt + 1 ∧ x1Zq.toInt + 1 ≤ 2147483647) → x17.toInt = x1Zq.toInt + 1 := tl_add ex17
            exact li_iret dX11_readLines_31 rfl rfl ⟨⟨_, rfl⟩, hf⟩
        · have tc7 : x4Zq.toInt = 0 := tl_eq c7Zq
          refine li_iconst (-1) dX11_readLines_16 (by decide) ?_
          exact li_iret dX11_readLines_17 rfl rfl ⟨⟨_, rfl⟩, hf⟩
  have z0 : (0 : Int32).toInt = 0 := rfl
  exact L2Zq _ 0 M0 (Nat.lt_succ_self _) hf
set_option maxRecDepth 100000 in
set_option maxHeartbeats 4000000 in
theorem k9_X11_readText {l : Launch} {Z : li_Z} (d : Nat) (hdZq : 35 ≤ d) (p1Zq : Int32) (p2Zq : Int32) (p3Zq : Int32) (M0 : li_M) (h2 : ¬ p1Zq.toInt = 0) : li_Met l Z YX11_readText d [.ref (Z.2.2 0), .int p1Zq, .int p2Zq, .int p3Zq] M0 (fun r M' => (∃ x : Int32, r = some (.int x) ∧ ((M'.1 1 1).toInt = 0)) ∧ li_fr (fun i => i = 1 ∨ i = 10 ∨ i = 11 ∨ i = 12 ∨ i = 151 ∨ i = 152 ∨ i = 165 ∨ i = 166 ∨ i = 174 ∨ i = 8 ∨ i = 9) M0 M') := by
  refine li_enter (by decide +kernel) (Nat.le_of_ble_eq_true rfl) ?_
  show li_T l Z YX11_readText d 0 [(0, .ref (Z.2.2 0)), (1, .int p1Zq), (2, .int p2Zq), (3, .int p3Zq)] [] M0 _
  have hf : li_fr (fun i => i = 1 ∨ i = 10 ∨ i = 11 ∨ i = 12 ∨ i = 151 ∨ i = 152 ∨ i = 165 ∨ i = 166 ∨ i = 174 ∨ i = 8 ∨ i = 9) M0 M0 := li_fr_refl
  have gp1 := tl_rg p1Zq
  have gp2 := tl_rg p2Zq
  have gp3 := tl_rg p3Zq
  refine li_aload_n 0 dX11_readText_0 rfl ?_
  refine li_getr (k := 0) (N := 13) (T := TX11) (C0 := RX11) dX11_readText_1 (by decide) sh_0 rfl rfl (by decide) (by decide) li_in11 w_473 ?_
  refine li_iconst 0 dX11_readText_4 (by decide) ?_
  refine li_puti (k := 2) (N := 3) (T := TX7) (C0 := RX7) dX11_readText_5 (by decide) sh_1 rfl rfl (by decide) li_in7 tyX7_ok nmX7 rfl rfl rfl rfl w_144 ?_
  refine li_nm (fun M1Zq eM1 => ?_)
  have hf := li_fr_ui hf (show 1 = 1 ∨ 1 = 10 ∨ 1 = 11 ∨ 1 = 12 ∨ 1 = 151 ∨ 1 = 152 ∨ 1 = 165 ∨ 1 = 166 ∨ 1 = 174 ∨ 1 = 8 ∨ 1 = 9 by omega) eM1
  have mM1_1_1 : (M1Zq.1 1 1).toInt = (M0.1 1 1).toInt := by rw [eM1, li_ui_at, if_pos rfl, if_neg (by decide)]
  have k2Zq : M1Zq.1 1 2 = 0 := by rw [eM1, li_ui_at, if_pos rfl, if_pos rfl]
  refine li_iload_n 1 dX11_readText_8 rfl ?_
  refine li_iconst 4 dX11_readText_9 (by decide) ?_
  have J80 : ∀ (x4Zq : Int32) (M5Zq : li_M), li_fr (fun i => i = 1 ∨ i = 10 ∨ i = 11 ∨ i = 12 ∨ i = 151 ∨ i = 152 ∨ i = 165 ∨ i = 166 ∨ i = 174 ∨ i = 8 ∨ i = 9) M0 M5Zq → li_T l Z YX11_readText d 80 [(0, .ref (Z.2.2 0)), (1, .int p1Zq), (2, .int p2Zq), (3, .int p3Zq), (4, .int x4Zq)] [] M5Zq (fun r M' => (∃ x : Int32, r = some (.int x) ∧ ((M'.1 1 1).toInt = 0)) ∧ li_fr (fun i => i = 1 ∨ i = 10 ∨ i = 11 ∨ i = 12 ∨ i = 151 ∨ i = 152 ∨ i = 165 ∨ i = 166 ∨ i = 174 ∨ i = 8 ∨ i = 9) M0 M') := by
    intro x4Zq M5Zq hf
    have gx4 := tl_rg x4Zq
    refine li_aload_n 0 dX11_readText_80 rfl ?_
    refine li_getr (k := 0) (N := 13) (T := TX11) (C0 := RX11) dX11_readText_81 (by decide) sh_0 rfl rfl (by decide) (by decide) li_in11 w_473 ?_
    refine li_iload 4 dX11_readText_84 rfl ?_
    refine li_iload_n 3 dX11_readText_86 rfl ?_
    refine li_callV (n := 2) (As := [.int x4Zq, .int p3Zq]) dX11_readText_87 (k_X7_verdict (d - 1) (by omega) x4Zq p3Zq M5Zq) (by omega) (Nat.le_of_ble_eq_true rfl) w_721 w_722 w_723 w_102 w_724 (by decide +kernel) rfl (by decide) sh_1 rfl rfl (Nat.le_of_ble_eq_true rfl) (fun r M7Zq h8 => ?_)
    obtain ⟨⟨x6, rfl⟩, h8⟩ := h8
    have gx6 := tl_rg x6
    have hf := li_fr_trans hf h8 (fun i hZq => False.elim hZq)
    have mM7_1_1 : (M7Zq.1 1 1).toInt = (M5Zq.1 1 1).toInt := by rw [h8.1 1 id]
    refine li_istore [(5, .int x6), (0, .ref (Z.2.2 0)), (1, .int p1Zq), (2, .int p2Zq), (3, .int p3Zq), (4, .int x4Zq)] dX11_readText_90 (by decide) rfl ?_
    refine li_aload_n 1 dX11_readText_92 rfl ?_
    refine li_getr (k := 0) (N := 13) (T := TX11) (C0 := RX11) dX11_readText_93 (by decide) sh_0 rfl rfl (by decide) (by decide) li_in11 w_473 ?_
    refine li_iconst 0 dX11_readText_96 (by decide) ?_
    refine li_puti (k := 1) (N := 3) (T := TX7) (C0 := RX7) dX11_readText_97 (by decide) sh_1 rfl rfl (by decide) li_in7 tyX7_ok nmX7 rfl rfl rfl rfl w_140 ?_
    refine li_nm (fun M9Zq eM9 => ?_)
    have hf := li_fr_ui hf (show 1 = 1 ∨ 1 = 10 ∨ 1 = 11 ∨ 1 = 12 ∨ 1 = 151 ∨ 1 = 152 ∨ 1 = 165 ∨ 1 = 166 ∨ 1 = 174 ∨ 1 = 8 ∨ 1 = 9 by omega) eM9
    have mM9_1_1 : (M9Zq.1 1 1).toInt = 0 := by rw [eM9, li_ui_at, if_pos rfl, if_pos rfl]; rfl
    have k10 : M9Zq.1 1 1 = 0 := by rw [eM9, li_ui_at, if_pos rfl, if_pos rfl]
    refine li_iload 0 dX11_readText_100 rfl ?_
    exact li_iret dX11_readText_102 rfl rfl ⟨⟨_, rfl, (by first | omega | (intro _; omega) | (intro hZq; exact absurd hZq (by decide)))⟩, hf⟩
  refine li_icmp_ne 37 dX11_readText_10 (by decide) (fun c3 => ?_) (fun c3 => ?_)
  · have tc3 : ¬ p1Zq.toInt = 4 := tl_ne c3
    refine li_iload_n 1 dX11_readText_37 rfl ?_
    refine li_iconst 5 dX11_readText_38 (by decide) ?_
    refine li_icmp_ne 58 dX11_readText_39 (by decide) (fun c11Zq => ?_) (fun c11Zq => ?_)
    · have tc11 : ¬ p1Zq.toInt = 5 := tl_ne c11Zq
      refine li_aload_n 0 dX11_readText_58 rfl ?_
      refine li_getr (k := 0) (N := 13) (T := TX11) (C0 := RX11) dX11_readText_59 (by decide) sh_0 rfl rfl (by decide) (by decide) li_in11 w_473 ?_
      refine li_callV (n := 0) (As := []) dX11_readText_62 (k_X7_atEnd (d - 1) (by omega)  M1Zq) (by omega) (Nat.le_of_ble_eq_true rfl) w_663 w_545 w_546 w_102 w_547 (by decide +kernel) rfl (by decide) sh_1 rfl rfl (Nat.le_of_ble_eq_true rfl) (fun r M13 h14 => ?_)
      obtain ⟨⟨x12, rfl, bx12⟩, h14⟩ := h14
      have ux12 := tl_b bx12
      have hf := li_fr_trans hf h14 (fun i hZq => False.elim hZq)
      have mM13_1_1 : (M13.1 1 1).toInt = (M1Zq.1 1 1).toInt := by rw [h14.1 1 id]
      have J78 : ∀ (x16 : Int32) (M17 : li_M), li_fr (fun i => i = 1 ∨ i = 10 ∨ i = 11 ∨ i = 12 ∨ i = 151 ∨ i = 152 ∨ i = 165 ∨ i = 166 ∨ i = 174 ∨ i = 8 ∨ i = 9) M0 M17 → li_T l Z YX11_readText d 78 [(0, .ref (Z.2.2 0)), (1, .int p1Zq), (2, .int p2Zq), (3, .int p3Zq)] [.int x16] M17 (fun r M' => (∃ x : Int32, r = some (.int x) ∧ ((M'.1 1 1).toInt = 0)) ∧ li_fr (fun i => i = 1 ∨ i = 10 ∨ i = 11 ∨ i = 12 ∨ i = 151 ∨ i = 152 ∨ i = 165 ∨ i = 166 ∨ i = 174 ∨ i = 8 ∨ i = 9) M0 M') := by
        intro x16 M17 hf
        have gx16 := tl_rg x16
        refine li_istore [(4, .int x16), (0, .ref (Z.2.2 0)), (1, .int p1Zq), (2, .int p2Zq), (3, .int p3Zq)] dX11_readText_78 (by decide) rfl ?_
        refine li_pick [1, 2, 3, 4, 0] [(0, .ref (Z.2.2 0)), (1, .int p1Zq), (2, .int p2Zq), (3, .int p3Zq), (4, .int x16)] rfl ?_
        exact J80 x16 M17 hf
      refine li_if_eq 72 dX11_readText_65 (by decide) (fun c15Zq => ?_) (fun c15Zq => ?_)
      · have tc15 : x12.toInt = 0 := tl_eq c15Zq
        refine li_aload_n 0 dX11_readText_72 rfl ?_
        refine li_iload_n 1 dX11_readText_73 rfl ?_
        refine li_iload_n 2 dX11_readText_74 rfl ?_
        refine li_callV (n := 2) (As := [.int p1Zq, .int p2Zq]) dX11_readText_75 (k9_X11_readLines (d - 1) (by omega) p1Zq p2Zq M13 (by omega)) (by omega) (Nat.le_of_ble_eq_true rfl) w_664 w_666 w_8 w_101 w_667 (by decide +kernel) rfl (by decide) sh_0 rfl rfl (Nat.le_of_ble_eq_true rfl) (fun r M19 h20 => ?_)
        obtain ⟨⟨x18, rfl⟩, h20⟩ := h20
        have gx18 := tl_rg x18
        have hf := li_fr_trans hf h20 (fun i (hZq : i = 1 ∨ i = 10 ∨ i = 11 ∨ i = 12 ∨ i = 165 ∨ i = 174 ∨ i = 8 ∨ i = 9) => (show i = 1 ∨ i = 10 ∨ i = 11 ∨ i = 12 ∨ i = 151 ∨ i = 152 ∨ i = 165 ∨ i = 166 ∨ i = 174 ∨ i = 8 ∨ i = 9 by omega))
        refine li_pick [0, 1, 2, 3] [(0, .ref (Z.2.2 0)), (1, .int p1Zq), (2, .int p2Zq), (3, .int p3Zq)] rfl ?_
        exact J78 x18 M19 hf
      · have tc15 : ¬ x12.toInt = 0 := tl_ne c15Zq
        refine li_iconst 0 dX11_readText_68 (by decide) ?_
        refine li_goto 78 dX11_readText_69 (by decide) ?_
        refine li_pick [0, 1, 2, 3] [(0, .ref (Z.2.2 0)), (1, .int p1Zq), (2, .int p2Zq), (3, .int p3Zq)] rfl ?_
        have z0 : (0 : Int32).toInt = 0 := rfl
        exact J78 0 M13 hf
    · have tc11 : p1Zq.toInt = 5 := tl_eq c11Zq
      refine li_aload_n 0 dX11_readText_42 rfl ?_
      refine li_getr (k := 10) (N := 13) (T := TX11) (C0 := RX11) dX11_readText_43 (by decide) sh_0 rfl rfl (by decide) (by decide) li_in11 w_483 ?_
      refine li_aload_n 0 dX11_readText_46 rfl ?_
      refine li_getr (k := 0) (N := 13) (T := TX11) (C0 := RX11) dX11_readText_47 (by decide) sh_0 rfl rfl (by decide) (by decide) li_in11 w_473 ?_
      refine li_callV (n := 1) (As := [.ref (Z.2.2 1)]) dX11_readText_50 (k_X10_readWording (d - 1) (by omega)  M1Zq) (by omega) (Nat.le_of_ble_eq_true rfl) w_653 w_654 w_655 w_108 w_656 (by decide +kernel) rfl (by decide) sh_163 rfl rfl (Nat.le_of_ble_eq_true rfl) (fun r M22 h23 => ?_)
      obtain ⟨⟨x21, rfl⟩, h23⟩ := h23
      have gx21 := tl_rg x21
      have hf := li_fr_trans hf h23 (fun i (hZq : i = 1 ∨ i = 166) => (show i = 1 ∨ i = 10 ∨ i = 11 ∨ i = 12 ∨ i = 151 ∨ i = 152 ∨ i = 165 ∨ i = 166 ∨ i = 174 ∨ i = 8 ∨ i = 9 by omega))
      refine li_istore [(4, .int x21), (0, .ref (Z.2.2 0)), (1, .int p1Zq), (2, .int p2Zq), (3, .int p3Zq)] dX11_readText_53 (by decide) rfl ?_
      refine li_goto 80 dX11_readText_55 (by decide) ?_
      refine li_pick [1, 2, 3, 4, 0] [(0, .ref (Z.2.2 0)), (1, .int p1Zq), (2, .int p2Zq), (3, .int p3Zq), (4, .int x21)] rfl ?_
      exact J80 x21 M22 hf
  · have tc3 : p1Zq.toInt = 4 := tl_eq c3
    refine li_aload_n 0 dX11_readText_13 rfl ?_
    refine li_getr (k := 6) (N := 13) (T := TX11) (C0 := RX11) dX11_readText_14 (by decide) sh_0 rfl rfl (by decide) (by decide) li_in11 w_479 ?_
    refine li_aload_n 0 dX11_readText_17 rfl ?_
    refine li_getr (k := 0) (N := 13) (T := TX11) (C0 := RX11) dX11_readText_18 (by decide) sh_0 rfl rfl (by decide) (by decide) li_in11 w_473 ?_
    refine li_callV (n := 1) (As := [.ref (Z.2.2 1)]) dX11_readText_21 (k_X6_readAll (d - 1) (by omega) rub_151 M1Zq) (by omega) (Nat.le_of_ble_eq_true rfl) w_540 w_541 w_542 w_107 w_543 (by decide +kernel) rfl (by decide) sh_151 rfl rfl (Nat.le_of_ble_eq_true rfl) (fun r M25 h26 => ?_)
    obtain ⟨⟨x24, rfl, bx24⟩, h26⟩ := h26
    have ux24 := tl_b bx24
    have hf := li_fr_trans hf h26 (fun i (hZq : i = 151 ∨ i = 152 ∨ i = 1) => (show i = 1 ∨ i = 10 ∨ i = 11 ∨ i = 12 ∨ i = 151 ∨ i = 152 ∨ i = 165 ∨ i = 166 ∨ i = 174 ∨ i = 8 ∨ i = 9 by omega))
    have J32 : ∀ (x28 : Int32) (M29 : li_M), li_fr (fun i => i = 1 ∨ i = 10 ∨ i = 11 ∨ i = 12 ∨ i = 151 ∨ i = 152 ∨ i = 165 ∨ i = 166 ∨ i = 174 ∨ i = 8 ∨ i = 9) M0 M29 → li_T l Z YX11_readText d 32 [(0, .ref (Z.2.2 0)), (1, .int p1Zq), (2, .int p2Zq), (3, .int p3Zq)] [.int x28] M29 (fun r M' => (∃ x : Int32, r = some (.int x) ∧ ((M'.1 1 1).toInt = 0)) ∧ li_fr (fun i => i = 1 ∨ i = 10 ∨ i = 11 ∨ i = 12 ∨ i = 151 ∨ i = 152 ∨ i = 165 ∨ i = 166 ∨ i = 174 ∨ i = 8 ∨ i = 9) M0 M') := by
      intro x28 M29 hf
      have gx28 := tl_rg x28
      refine li_istore [(4, .int x28), (0, .ref (Z.2.2 0)), (1, .int p1Zq), (2, .int p2Zq), (3, .int p3Zq)] dX11_readText_32 (by decide) rfl ?_
      refine li_goto 80 dX11_readText_34 (by decide) ?_
      refine li_pick [1, 2, 3, 4, 0] [(0, .ref (Z.2.2 0)), (1, .int p1Zq), (2, .int p2Zq), (3, .int p3Zq), (4, .int x28)] rfl ?_
      exact J80 x28 M29 hf
    refine li_if_eq 31 dX11_readText_24 (by decide) (fun c27Zq => ?_) (fun c27Zq => ?_)
    · have tc27 : x24.toInt = 0 := tl_eq c27Zq
      refine li_iconst (-1) dX11_readText_31 (by decide) ?_
      refine li_pick [0, 1, 2, 3] [(0, .ref (Z.2.2 0)), (1, .int p1Zq), (2, .int p2Zq), (3, .int p3Zq)] rfl ?_
      have zm1 : ((-1) : Int32).toInt = -1 := rfl
      exact J32 (-1) M25 hf
    · have tc27 : ¬ x24.toInt = 0 := tl_ne c27Zq
      refine li_iconst 0 dX11_readText_27 (by decide) ?_
      refine li_goto 32 dX11_readText_28 (by decide) ?_
      refine li_pick [0, 1, 2, 3] [(0, .ref (Z.2.2 0)), (1, .int p1Zq), (2, .int p2Zq), (3, .int p3Zq)] rfl ?_
      have z0 : (0 : Int32).toInt = 0 := rfl
      exact J32 0 M25 hf
set_option maxRecDepth 100000 in
set_option maxHeartbeats 4000000 in
theorem k9_X11_rule {l : Launch} {Z : li_Z} (d : Nat) (hdZq : 36 ≤ d) (M0 : li_M) : li_Met l Z YX11_rule d [.ref (Z.2.2 0)] M0 (fun r M' => (∃ x : Int32, r = some (.int x) ∧ ((M'.1 1 1).toInt = 0)) ∧ li_fr (fun i => i = 1 ∨ i = 10 ∨ i = 11 ∨ i = 12 ∨ i = 144 ∨ i = 145 ∨ i = 151 ∨ i = 152 ∨ i = 165 ∨ i = 166 ∨ i = 174 ∨ i = 8 ∨ i = 9) M0 M') := by
  refine li_enter (by decide +kernel) (Nat.le_of_ble_eq_true rfl) ?_
  show li_T l Z YX11_rule d 0 [(0, .ref (Z.2.2 0))] [] M0 _
  have hf : li_fr (fun i => i = 1 ∨ i = 10 ∨ i = 11 ∨ i = 12 ∨ i = 144 ∨ i = 145 ∨ i = 151 ∨ i = 152 ∨ i = 165 ∨ i = 166 ∨ i = 174 ∨ i = 8 ∨ i = 9) M0 M0 := li_fr_refl
  refine li_aload_n 0 dX11_rule_0 rfl ?_
  refine li_iconst 4 dX11_rule_1 (by decide) ?_
  refine li_iconst 0 dX11_rule_2 (by decide) ?_
  refine li_bipush 40 dX11_rule_3 (by decide) ?_
  refine li_callV (n := 3) (As := [.int 4, .int 0, .int 40]) dX11_rule_5 (k9_X11_readText (d - 1) (by omega) 4 0 40 M0 (by decide)) (by omega) (Nat.le_of_ble_eq_true rfl) w_536 w_538 w_0 w_101 w_539 (by decide +kernel) rfl (by decide) sh_0 rfl rfl (Nat.le_of_ble_eq_true rfl) (fun r M2Zq h3 => ?_)
  have z4 : (4 : Int32).toInt = 4 := rfl
  have z0 : (0 : Int32).toInt = 0 := rfl
  have z40 : (40 : Int32).toInt = 40 := rfl
  obtain ⟨⟨x1Zq, rfl, qx1⟩, h3⟩ := h3
  have gx1 := tl_rg x1Zq
  have hf := li_fr_trans hf h3 (fun i (hZq : i = 1 ∨ i = 10 ∨ i = 11 ∨ i = 12 ∨ i = 151 ∨ i = 152 ∨ i = 165 ∨ i = 166 ∨ i = 174 ∨ i = 8 ∨ i = 9) => (show i = 1 ∨ i = 10 ∨ i = 11 ∨ i = 12 ∨ i = 144 ∨ i = 145 ∨ i = 151 ∨ i = 152 ∨ i = 165 ∨ i = 166 ∨ i = 174 ∨ i = 8 ∨ i = 9 by omega))
  refine li_istore_n [(1, .int x1Zq), (0, .ref (Z.2.2 0))] dX11_rule_8 (by decide) rfl ?_
  refine li_iload_n 0 dX11_rule_9 rfl ?_
  refine li_if_lt 24 dX11_rule_10 (by decide) (fun c4 => ?_) (fun c4 => ?_)
  · have tc4 : x1Zq.toInt < 0 := tl_lt c4
    refine li_iload_n 0 dX11_rule_24 rfl ?_
    exact li_iret dX11_rule_25 rfl rfl ⟨⟨_, rfl, (by first | omega | (intro _; omega) | (intro hZq; exact absurd hZq (by decide)))⟩, hf⟩
  · have tc4 : 0 ≤ x1Zq.toInt := tl_nlt c4
    refine li_aload_n 1 dX11_rule_13 rfl ?_
    refine li_getr (k := 5) (N := 13) (T := TX11) (C0 := RX11) dX11_rule_14 (by decide) sh_0 rfl rfl (by decide) (by decide) li_in11 w_478 ?_
    refine li_aload_n 1 dX11_rule_17 rfl ?_
    refine li_getr (k := 6) (N := 13) (T := TX11) (C0 := RX11) dX11_rule_18 (by decide) sh_0 rfl rfl (by decide) (by decide) li_in11 w_479 ?_
    refine li_callV (n := 1) (As := [.ref (Z.2.2 151)]) dX11_rule_21 (k_X6_copyFrom (d - 1) (by omega)  M2Zq) (by omega) (Nat.le_of_ble_eq_true rfl) w_747 w_748 w_749 w_107 w_750 (by decide +kernel) rfl (by decide) sh_144 rfl rfl (Nat.le_of_ble_eq_true rfl) (fun r M6Zq h7 => ?_)
    obtain ⟨rfl, h7⟩ := h7
    have hf := li_fr_trans hf h7 (fun i (hZq : i = 144 ∨ i = 145) => (show i = 1 ∨ i = 10 ∨ i = 11 ∨ i = 12 ∨ i = 144 ∨ i = 145 ∨ i = 151 ∨ i = 152 ∨ i = 165 ∨ i = 166 ∨ i = 174 ∨ i = 8 ∨ i = 9 by omega))
    have mM6_1_1 : (M6Zq.1 1 1).toInt = (M2Zq.1 1 1).toInt := by rw [h7.1 1 (show ¬ (1 = 144 ∨ 1 = 145) by omega)]
    refine li_iload_n 0 dX11_rule_24 rfl ?_
    exact li_iret dX11_rule_25 rfl rfl ⟨⟨_, rfl, (by first | omega | (intro _; omega) | (intro hZq; exact absurd hZq (by decide)))⟩, hf⟩
set_option maxRecDepth 100000 in
set_option maxHeartbeats 4000000 in
theorem k9_X11_talk {l : Launch} {Z : li_Z} (d : Nat) (hdZq : 36 ≤ d) (M0 : li_M) : li_Met l Z YX11_talk d [.ref (Z.2.2 0)] M0 (fun r M' => (∃ x : Int32, r = some (.int x) ∧ ((M'.1 1 1).toInt = 0)) ∧ li_fr (fun i => i = 1 ∨ i = 10 ∨ i = 11 ∨ i = 12 ∨ i = 13 ∨ i = 14 ∨ i = 146 ∨ i = 147 ∨ i = 15 ∨ i = 151 ∨ i = 152 ∨ i = 16 ∨ i = 165 ∨ i = 166 ∨ i = 174 ∨ i = 20 ∨ i = 21 ∨ i = 24 ∨ i = 25 ∨ i = 26 ∨ i = 27 ∨ i = 28 ∨ i = 29 ∨ i = 3 ∨ i = 30 ∨ i = 31 ∨ i = 4 ∨ i = 8 ∨ i = 9 ∨ (32 ≤ i ∧ i < 128)) M0 M') := by
  refine li_enter (by decide +kernel) (Nat.le_of_ble_eq_true rfl) ?_
  show li_T l Z YX11_talk d 0 [(0, .ref (Z.2.2 0))] [] M0 _
  have hf : li_fr (fun i => i = 1 ∨ i = 10 ∨ i = 11 ∨ i = 12 ∨ i = 13 ∨ i = 14 ∨ i = 146 ∨ i = 147 ∨ i = 15 ∨ i = 151 ∨ i = 152 ∨ i = 16 ∨ i = 165 ∨ i = 166 ∨ i = 174 ∨ i = 20 ∨ i = 21 ∨ i = 24 ∨ i = 25 ∨ i = 26 ∨ i = 27 ∨ i = 28 ∨ i = 29 ∨ i = 3 ∨ i = 30 ∨ i = 31 ∨ i = 4 ∨ i = 8 ∨ i = 9 ∨ (32 ≤ i ∧ i < 128)) M0 M0 := li_fr_refl
  refine li_aload_n 0 dX11_talk_0 rfl ?_
  refine li_iconst 2 dX11_talk_1 (by decide) ?_
  refine li_bipush 40 dX11_talk_2 (by decide) ?_
  refine li_bipush 60 dX11_talk_4 (by decide) ?_
  refine li_callV (n := 3) (As := [.int 2, .int 40, .int 60]) dX11_talk_6 (k9_X11_readText (d - 1) (by omega) 2 40 60 M0 (by decide)) (by omega) (Nat.le_of_ble_eq_true rfl) w_536 w_538 w_0 w_101 w_539 (by decide +kernel) rfl (by decide) sh_0 rfl rfl (Nat.le_of_ble_eq_true rfl) (fun r M2Zq h3 => ?_)
  have z2 : (2 : Int32).toInt = 2 := rfl
  have z40 : (40 : Int32).toInt = 40 := rfl
  have z60Zq : (60 : Int32).toInt = 60 := rfl
  obtain ⟨⟨x1Zq, rfl, qx1⟩, h3⟩ := h3
  have gx1 := tl_rg x1Zq
  have hf := li_fr_trans hf h3 (fun i (hZq : i = 1 ∨ i = 10 ∨ i = 11 ∨ i = 12 ∨ i = 151 ∨ i = 152 ∨ i = 165 ∨ i = 166 ∨ i = 174 ∨ i = 8 ∨ i = 9) => (show i = 1 ∨ i = 10 ∨ i = 11 ∨ i = 12 ∨ i = 13 ∨ i = 14 ∨ i = 146 ∨ i = 147 ∨ i = 15 ∨ i = 151 ∨ i = 152 ∨ i = 16 ∨ i = 165 ∨ i = 166 ∨ i = 174 ∨ i = 20 ∨ i = 21 ∨ i = 24 ∨ i = 25 ∨ i = 26 ∨ i = 27 ∨ i = 28 ∨ i = 29 ∨ i = 3 ∨ i = 30 ∨ i = 31 ∨ i = 4 ∨ i = 8 ∨ i = 9 ∨ (32 ≤ i ∧ i < 128) by omega))
  refine li_istore_n [(1, .int x1Zq), (0, .ref (Z.2.2 0))] dX11_talk_9 (by decide) rfl ?_
  refine li_iload_n 0 dX11_talk_10 rfl ?_
  refine li_if_ge 16 dX11_talk_11 (by decide) (fun c4 => ?_) (fun c4 => ?_)
  · have tc4 : 0 ≤ x1Zq.toInt := tl_le c4
    refine li_aload_n 1 dX11_talk_16 rfl ?_
    refine li_getr (k := 4) (N := 13) (T := TX11) (C0 := RX11) dX11_talk_17 (by decide) sh_0 rfl rfl (by decide) (by decide) li_in11 w_477 ?_
    refine li_aload_n 1 dX11_talk_20 rfl ?_
    refine li_getr (k := 3) (N := 13) (T := TX11) (C0 := RX11) dX11_talk_21 (by decide) sh_0 rfl rfl (by decide) (by decide) li_in11 w_476 ?_
    refine li_callV (n := 1) (As := [.ref (Z.2.2 13)]) dX11_talk_24 (k_X3_note (d - 1) (by omega)  M2Zq) (by omega) (Nat.le_of_ble_eq_true rfl) w_843 w_844 w_845 w_106 w_846 (by decide +kernel) rfl (by decide) sh_21 rfl rfl (Nat.le_of_ble_eq_true rfl) (fun r M6Zq h7 => ?_)
    obtain ⟨rfl, h7⟩ := h7
    have hf := li_fr_trans hf h7 (fun i (hZq : i = 24 ∨ i = 25 ∨ i = 26 ∨ i = 27 ∨ i = 28 ∨ i = 29 ∨ i = 30 ∨ i = 31) => (show i = 1 ∨ i = 10 ∨ i = 11 ∨ i = 12 ∨ i = 13 ∨ i = 14 ∨ i = 146 ∨ i = 147 ∨ i = 15 ∨ i = 151 ∨ i = 152 ∨ i = 16 ∨ i = 165 ∨ i = 166 ∨ i = 174 ∨ i = 20 ∨ i = 21 ∨ i = 24 ∨ i = 25 ∨ i = 26 ∨ i = 27 ∨ i = 28 ∨ i = 29 ∨ i = 3 ∨ i = 30 ∨ i = 31 ∨ i = 4 ∨ i = 8 ∨ i = 9 ∨ (32 ≤ i ∧ i < 128) by omega))
    have mM6_1_1 : (M6Zq.1 1 1).toInt = (M2Zq.1 1 1).toInt := by rw [h7.1 1 (show ¬ (1 = 24 ∨ 1 = 25 ∨ 1 = 26 ∨ 1 = 27 ∨ 1 = 28 ∨ 1 = 29 ∨ 1 = 30 ∨ 1 = 31) by omega)]
    refine li_iconst 0 dX11_talk_27 (by decide) ?_
    refine li_istore_n [(2, .int 0), (1, .int x1Zq), (0, .ref (Z.2.2 0))] dX11_talk_28 (by decide) rfl ?_
    refine li_iconst 0 dX11_talk_29 (by decide) ?_
    refine li_istore_n [(3, .int 0), (2, .int 0), (1, .int x1Zq), (0, .ref (Z.2.2 0))] dX11_talk_30 (by decide) rfl ?_
    refine li_iconst 0 dX11_talk_31 (by decide) ?_
    refine li_istore [(4, .int 0), (3, .int 0), (2, .int 0), (1, .int x1Zq), (0, .ref (Z.2.2 0))] dX11_talk_32 (by decide) rfl ?_
    have L34 : ∀ (n : Nat) (x8 : Int32) (x9 : Int32) (x10 : Int32) (M11 : li_M), (2147483647 - (x8 : Int32).toInt).toNat < n → li_fr (fun i => i = 1 ∨ i = 10 ∨ i = 11 ∨ i = 12 ∨ i = 13 ∨ i = 14 ∨ i = 146 ∨ i = 147 ∨ i = 15 ∨ i = 151 ∨ i = 152 ∨ i = 16 ∨ i = 165 ∨ i = 166 ∨ i = 174 ∨ i = 20 ∨ i = 21 ∨ i = 24 ∨ i = 25 ∨ i = 26 ∨ i = 27 ∨ i = 28 ∨ i = 29 ∨ i = 3 ∨ i = 30 ∨ i = 31 ∨ i = 4 ∨ i = 8 ∨ i = 9 ∨ (32 ≤ i ∧ i < 128)) M0 M11 → (M11.1 1 1).toInt = 0 → li_T l Z YX11_talk d 34 [(4, .int x8), (3, .int x9), (2, .int x10), (1, .int x1Zq), (0, .ref (Z.2.2 0))] [] M11 (fun r M' => (∃ x : Int32, r = some (.int x) ∧ ((M'.1 1 1).toInt = 0)) ∧ li_fr (fun i => i = 1 ∨ i = 10 ∨ i = 11 ∨ i = 12 ∨ i = 13 ∨ i = 14 ∨ i = 146 ∨ i = 147 ∨ i = 15 ∨ i = 151 ∨ i = 152 ∨ i = 16 ∨ i = 165 ∨ i = 166 ∨ i = 174 ∨ i = 20 ∨ i = 21 ∨ i = 24 ∨ i = 25 ∨ i = 26 ∨ i = 27 ∨ i = 28 ∨ i = 29 ∨ i = 3 ∨ i = 30 ∨ i = 31 ∨ i = 4 ∨ i = 8 ∨ i = 9 ∨ (32 ≤ i ∧ i < 128)) M0 M') := by
      intro n
      induction n with
      | zero => intro x8 x9 x10 M11 hn; exact absurd hn (Nat.not_lt_zero _)
      | succ n ih34 =>
        intro x8 x9 x10 M11 hn hf hiZq
        have gx8 := tl_rg x8
        have gx9 := tl_rg x9
        have gx10 := tl_rg x10
        refine li_iload 0 dX11_talk_34 rfl ?_
        refine li_iload_n 3 dX11_talk_36 rfl ?_
        refine li_icmp_ge 83 dX11_talk_37 (by decide) (fun c12Zq => ?_) (fun c12Zq => ?_)
        · have tc12 : x1Zq.toInt ≤ x8.toInt := tl_le c12Zq
          refine li_iload_n 2 dX11_talk_83 rfl ?_
          have J94 : ∀  (M14 : li_M), li_fr (fun i => i = 1 ∨ i = 10 ∨ i = 11 ∨ i = 12 ∨ i = 13 ∨ i = 14 ∨ i = 146 ∨ i = 147 ∨ i = 15 ∨ i = 151 ∨ i = 152 ∨ i = 16 ∨ i = 165 ∨ i = 166 ∨ i = 174 ∨ i = 20 ∨ i = 21 ∨ i = 24 ∨ i = 25 ∨ i = 26 ∨ i = 27 ∨ i = 28 ∨ i = 29 ∨ i = 3 ∨ i = 30 ∨ i = 31 ∨ i = 4 ∨ i = 8 ∨ i = 9 ∨ (32 ≤ i ∧ i < 128)) M0 M14 → (M14.1 1 1).toInt = 0 → li_T l Z YX11_talk d 94 [(4, .int x8), (3, .int x9), (2, .int x10), (1, .int x1Zq), (0, .ref (Z.2.2 0))] [] M14 (fun r M' => (∃ x : Int32, r = some (.int x) ∧ ((M'.1 1 1).toInt = 0)) ∧ li_fr (fun i => i = 1 ∨ i = 10 ∨ i = 11 ∨ i = 12 ∨ i = 13 ∨ i = 14 ∨ i = 146 ∨ i = 147 ∨ i = 15 ∨ i = 151 ∨ i = 152 ∨ i = 16 ∨ i = 165 ∨ i = 166 ∨ i = 174 ∨ i = 20 ∨ i = 21 ∨ i = 24 ∨ i = 25 ∨ i = 26 ∨ i = 27 ∨ i = 28 ∨ i = 29 ∨ i = 3 ∨ i = 30 ∨ i = 31 ∨ i = 4 ∨ i = 8 ∨ i = 9 ∨ (32 ≤ i ∧ i < 128)) M0 M') := by
            intro  M14 hf hiZq
            refine li_aload_n 4 dX11_talk_94 rfl ?_
            refine li_getr (k := 1) (N := 13) (T := TX11) (C0 := RX11) dX11_talk_95 (by decide) sh_0 rfl rfl (by decide) (by decide) li_in11 w_474 ?_
            refine li_iload_n 2 dX11_talk_98 rfl ?_
            refine li_iload_n 3 dX11_talk_99 rfl ?_
            refine li_icmp_ge 107 dX11_talk_100 (by decide) (fun c15Zq => ?_) (fun c15Zq => ?_)
            · have tc15 : x1Zq.toInt ≤ x10.toInt := tl_le c15Zq
              refine li_iconst 0 dX11_talk_107 (by decide) ?_
              refine li_iload_n 1 dX11_talk_108 rfl ?_
              refine li_callV (n := 2) (As := [.int 0, .int x9]) dX11_talk_109 (k_X5_tellTwo (d - 1) (by omega) 0 x9 M14) (by omega) (Nat.le_of_ble_eq_true rfl) w_951 w_952 w_953 w_103 w_954 (by decide +kernel) rfl (by decide) sh_3 rfl rfl (Nat.le_of_ble_eq_true rfl) (fun r M17 h18 => ?_)
              obtain ⟨rfl, h18⟩ := h18
              have hf := li_fr_trans hf h18 (fun i (hZq : i = 3 ∨ i = 4) => (show i = 1 ∨ i = 10 ∨ i = 11 ∨ i = 12 ∨ i = 13 ∨ i = 14 ∨ i = 146 ∨ i = 147 ∨ i = 15 ∨ i = 151 ∨ i = 152 ∨ i = 16 ∨ i = 165 ∨ i = 166 ∨ i = 174 ∨ i = 20 ∨ i = 21 ∨ i = 24 ∨ i = 25 ∨ i = 26 ∨ i = 27 ∨ i = 28 ∨ i = 29 ∨ i = 3 ∨ i = 30 ∨ i = 31 ∨ i = 4 ∨ i = 8 ∨ i = 9 ∨ (32 ≤ i ∧ i < 128) by omega))
              have mM17_1_1 : (M17.1 1 1).toInt = (M14.1 1 1).toInt := by rw [h18.1 1 (show ¬ (1 = 3 ∨ 1 = 4) by omega)]
              refine li_iload_n 2 dX11_talk_112 rfl ?_
              exact li_iret dX11_talk_113 rfl rfl ⟨⟨_, rfl, (by first | omega | (intro _; omega) | (intro hZq; exact absurd hZq (by decide)))⟩, hf⟩
            · have tc15 : x10.toInt < x1Zq.toInt := tl_nle c15Zq
              refine li_iconst 1 dX11_talk_103 (by decide) ?_
              refine li_goto 108 dX11_talk_104 (by decide) ?_
              refine li_iload_n 1 dX11_talk_108 rfl ?_
              refine li_callV (n := 2) (As := [.int 1, .int x9]) dX11_talk_109 (k_X5_tellTwo (d - 1) (by omega) 1 x9 M14) (by omega) (Nat.le_of_ble_eq_true rfl) w_951 w_952 w_953 w_103 w_954 (by decide +kernel) rfl (by decide) sh_3 rfl rfl (Nat.le_of_ble_eq_true rfl) (fun r M20 h21 => ?_)
              obtain ⟨rfl, h21⟩ := h21
              have hf := li_fr_trans hf h21 (fun i (hZq : i = 3 ∨ i = 4) => (show i = 1 ∨ i = 10 ∨ i = 11 ∨ i = 12 ∨ i = 13 ∨ i = 14 ∨ i = 146 ∨ i = 147 ∨ i = 15 ∨ i = 151 ∨ i = 152 ∨ i = 16 ∨ i = 165 ∨ i = 166 ∨ i = 174 ∨ i = 20 ∨ i = 21 ∨ i = 24 ∨ i = 25 ∨ i = 26 ∨ i = 27 ∨ i = 28 ∨ i = 29 ∨ i = 3 ∨ i = 30 ∨ i = 31 ∨ i = 4 ∨ i = 8 ∨ i = 9 ∨ (32 ≤ i ∧ i < 128) by omega))
              have mM20_1_1 : (M20.1 1 1).toInt = (M14.1 1 1).toInt := by rw [h21.1 1 (show ¬ (1 = 3 ∨ 1 = 4) by omega)]
              refine li_iload_n 2 dX11_talk_112 rfl ?_
              exact li_iret dX11_talk_113 rfl rfl ⟨⟨_, rfl, (by first | omega | (intro _; omega) | (intro hZq; exact absurd hZq (by decide)))⟩, hf⟩
          refine li_if_le 94 dX11_talk_84 (by decide) (fun c13Zq => ?_) (fun c13Zq => ?_)
          · have tc13 : x10.toInt ≤ 0 := tl_le c13Zq
            refine li_pick [0, 1, 2, 3, 4] [(4, .int x8), (3, .int x9), (2, .int x10), (1, .int x1Zq), (0, .ref (Z.2.2 0))] rfl ?_
            exact J94  M11 hf (by omega)
          · have tc13 : 0 < x10.toInt := tl_nle c13Zq
            refine li_aload_n 4 dX11_talk_87 rfl ?_
            refine li_getr (k := 4) (N := 13) (T := TX11) (C0 := RX11) dX11_talk_88 (by decide) sh_0 rfl rfl (by decide) (by decide) li_in11 w_477 ?_
            refine li_callV (n := 0) (As := []) dX11_talk_91 (k_X3_hold (d - 1) (by omega)  M11) (by omega) (Nat.le_of_ble_eq_true rfl) w_871 w_872 w_873 w_106 w_874 (by decide +kernel) rfl (by decide) sh_21 rfl rfl (Nat.le_of_ble_eq_true rfl) (fun r M23 h24 => ?_)
            obtain ⟨rfl, h24⟩ := h24
            have hf := li_fr_trans hf h24 (fun i (hZq : i = 21 ∨ (32 ≤ i ∧ i < 128)) => (show i = 1 ∨ i = 10 ∨ i = 11 ∨ i = 12 ∨ i = 13 ∨ i = 14 ∨ i = 146 ∨ i = 147 ∨ i = 15 ∨ i = 151 ∨ i = 152 ∨ i = 16 ∨ i = 165 ∨ i = 166 ∨ i = 174 ∨ i = 20 ∨ i = 21 ∨ i = 24 ∨ i = 25 ∨ i = 26 ∨ i = 27 ∨ i = 28 ∨ i = 29 ∨ i = 3 ∨ i = 30 ∨ i = 31 ∨ i = 4 ∨ i = 8 ∨ i = 9 ∨ (32 ≤ i ∧ i < 128) by omega))
            have mM23_1_1 : (M23.1 1 1).toInt = (M11.1 1 1).toInt := by rw [h24.1 1 (show ¬ (1 = 21 ∨ (32 ≤ 1 ∧ 1 < 128)) by omega)]
            refine li_pick [0, 1, 2, 3, 4] [(4, .int x8), (3, .int x9), (2, .int x10), (1, .int x1Zq), (0, .ref (Z.2.2 0))] rfl ?_
            exact J94  M23 hf (by omega)
        · have tc12 : x8.toInt < x1Zq.toInt := tl_nle c12Zq
          refine li_aload_n 4 dX11_talk_40 rfl ?_
          refine li_iload 0 dX11_talk_41 rfl ?_
          refine li_callV (n := 1) (As := [.int x8]) dX11_talk_43 (k_X11_doAct (d - 1) (by omega) x8 M11) (by omega) (Nat.le_of_ble_eq_true rfl) w_960 w_962 w_22 w_101 w_963 (by decide +kernel) rfl (by decide) sh_0 rfl rfl (Nat.le_of_ble_eq_true rfl) (fun r M26 h27 => ?_)
          obtain ⟨⟨x25, rfl⟩, h27⟩ := h27
          have gx25 := tl_rg x25
          have hf := li_fr_trans hf h27 (fun i (hZq : i = 13 ∨ i = 14 ∨ i = 146 ∨ i = 147 ∨ i = 15 ∨ i = 16 ∨ i = 20) => (show i = 1 ∨ i = 10 ∨ i = 11 ∨ i = 12 ∨ i = 13 ∨ i = 14 ∨ i = 146 ∨ i = 147 ∨ i = 15 ∨ i = 151 ∨ i = 152 ∨ i = 16 ∨ i = 165 ∨ i = 166 ∨ i = 174 ∨ i = 20 ∨ i = 21 ∨ i = 24 ∨ i = 25 ∨ i = 26 ∨ i = 27 ∨ i = 28 ∨ i = 29 ∨ i = 3 ∨ i = 30 ∨ i = 31 ∨ i = 4 ∨ i = 8 ∨ i = 9 ∨ (32 ≤ i ∧ i < 128) by omega))
          have mM26_1_1 : (M26.1 1 1).toInt = (M11.1 1 1).toInt := by rw [h27.1 1 (show ¬ (1 = 13 ∨ 1 = 14 ∨ 1 = 146 ∨ 1 = 147 ∨ 1 = 15 ∨ 1 = 16 ∨ 1 = 20) by omega)]
          refine li_istore [(5, .int x25), (4, .int x8), (3, .int x9), (2, .int x10), (1, .int x1Zq), (0, .ref (Z.2.2 0))] dX11_talk_46 (by decide) rfl ?_
          refine li_iload 0 dX11_talk_48 rfl ?_
          refine li_if_ge 56 dX11_talk_50 (by decide) (fun c28Zq => ?_) (fun c28Zq => ?_)
          · have tc28 : 0 ≤ x25.toInt := tl_le c28Zq
            refine li_iload_n 2 dX11_talk_56 rfl ?_
            refine li_aload_n 5 dX11_talk_57 rfl ?_
            refine li_iload 1 dX11_talk_58 rfl ?_
            refine li_callV (n := 1) (As := [.int x8]) dX11_talk_60 (k_X11_isSpeech (d - 1) (by omega) x8 M26) (by omega) (Nat.le_of_ble_eq_true rfl) w_972 w_974 w_23 w_101 w_975 (by decide +kernel) rfl (by decide) sh_0 rfl rfl (Nat.le_of_ble_eq_true rfl) (fun r M30 h31 => ?_)
            obtain ⟨⟨x29, rfl, bx29⟩, h31⟩ := h31
            have ux29 := tl_b bx29
            have hf := li_fr_trans hf h31 (fun i hZq => False.elim hZq)
            have mM30_1_1 : (M30.1 1 1).toInt = (M26.1 1 1).toInt := by rw [h31.1 1 id]
            have J72 : ∀ (x33 : Int32) (M34 : li_M), li_fr (fun i => i = 1 ∨ i = 10 ∨ i = 11 ∨ i = 12 ∨ i = 13 ∨ i = 14 ∨ i = 146 ∨ i = 147 ∨ i = 15 ∨ i = 151 ∨ i = 152 ∨ i = 16 ∨ i = 165 ∨ i = 166 ∨ i = 174 ∨ i = 20 ∨ i = 21 ∨ i = 24 ∨ i = 25 ∨ i = 26 ∨ i = 27 ∨ i = 28 ∨ i = 29 ∨ i = 3 ∨ i = 30 ∨ i = 31 ∨ i = 4 ∨ i = 8 ∨ i = 9 ∨ (32 ≤ i ∧ i < 128)) M0 M34 → (M34.1 1 1).toInt = 0 → li_T l Z YX11_talk d 72 [(5, .int x25), (4, .int x8), (3, .int x9), (2, .int x10), (1, .int x1Zq), (0, .ref (Z.2.2 0))] [.int x33, .int x9] M34 (fun r M' => (∃ x : Int32, r = some (.int x) ∧ ((M'.1 1 1).toInt = 0)) ∧ li_fr (fun i => i = 1 ∨ i = 10 ∨ i = 11 ∨ i = 12 ∨ i = 13 ∨ i = 14 ∨ i = 146 ∨ i = 147 ∨ i = 15 ∨ i = 151 ∨ i = 152 ∨ i = 16 ∨ i = 165 ∨ i = 166 ∨ i = 174 ∨ i = 20 ∨ i = 21 ∨ i = 24 ∨ i = 25 ∨ i = 26 ∨ i = 27 ∨ i = 28 ∨ i = 29 ∨ i = 3 ∨ i = 30 ∨ i = 31 ∨ i = 4 ∨ i = 8 ∨ i = 9 ∨ (32 ≤ i ∧ i < 128)) M0 M') := by
              intro x33 M34 hf hiZq
              have gx33 := tl_rg x33
              refine li_iadd dX11_talk_72 ?_
              refine li_top (fun x35 ex35 => ?_)
              have tx35 : (-2147483648 ≤ x9.toInt + x33.toInt ∧ x9.toInt + x33.toInt ≤ 2147483647) → x35.toInt = x9.toInt + x33.toInt := tl_add ex35
              refine li_istore_n [(3, .int x35), (5, .int x25), (4, .int x8), (2, .int x10), (1, .int x1Zq), (0, .ref (Z.2.2 0))] dX11_talk_73 (by decide) rfl ?_
              obtain ⟨x36, ex36⟩ : ∃ y : Int32, y = x10 + 1 := ⟨_, rfl⟩
              have tx36 : (-2147483648 ≤ x10.toInt + 1 ∧ x10.toInt + 1 ≤ 2147483647) → x36.toInt = x10.toInt + 1 := tl_add ex36
              refine li_iinc 3 [(2, .int x36), (3, .int x35), (5, .int x25), (4, .int x8), (1, .int x1Zq), (0, .ref (Z.2.2 0))] x36 dX11_talk_74 rfl (by rw [ex36]; rfl) (by decide) rfl ?_
              obtain ⟨x37, ex37⟩ : ∃ y : Int32, y = x8 + 1 := ⟨_, rfl⟩
              have tx37 : (-2147483648 ≤ x8.toInt + 1 ∧ x8.toInt + 1 ≤ 2147483647) → x37.toInt = x8.toInt + 1 := tl_add ex37
              refine li_iinc 3 [(4, .int x37), (2, .int x36), (3, .int x35), (5, .int x25), (1, .int x1Zq), (0, .ref (Z.2.2 0))] x37 dX11_talk_77 rfl (by rw [ex37]; rfl) (by decide) rfl ?_
              refine li_goto 34 dX11_talk_80 (by decide) ?_
              refine li_pick [0, 2, 1, 4, 5] [(4, .int x37), (3, .int x35), (2, .int x36), (1, .int x1Zq), (0, .ref (Z.2.2 0))] rfl ?_
              exact ih34 x37 x35 x36 M34 (by have h9 := li_up (li_gt c12Zq); rw [← ex37] at h9; omega) hf (by omega)
            refine li_if_eq 71 dX11_talk_63 (by decide) (fun c32Zq => ?_) (fun c32Zq => ?_)
            · have tc32 : x29.toInt = 0 := tl_eq c32Zq
              refine li_iconst 0 dX11_talk_71 (by decide) ?_
              refine li_pick [0, 1, 2, 3, 4, 5] [(5, .int x25), (4, .int x8), (3, .int x9), (2, .int x10), (1, .int x1Zq), (0, .ref (Z.2.2 0))] rfl ?_
              have z0 : (0 : Int32).toInt = 0 := rfl
              exact J72 0 M30 hf (by omega)
            · have tc32 : ¬ x29.toInt = 0 := tl_ne c32Zq
              refine li_iload 0 dX11_talk_66 rfl ?_
              refine li_goto 72 dX11_talk_68 (by decide) ?_
              refine li_pick [0, 1, 2, 3, 4, 5] [(5, .int x25), (4, .int x8), (3, .int x9), (2, .int x10), (1, .int x1Zq), (0, .ref (Z.2.2 0))] rfl ?_
              exact J72 x25 M30 hf (by omega)
          · have tc28 : x25.toInt < 0 := tl_nle c28Zq
            refine li_goto 83 dX11_talk_53 (by decide) ?_
            refine li_iload_n 3 dX11_talk_83 rfl ?_
            have J94 : ∀  (M39 : li_M), li_fr (fun i => i = 1 ∨ i = 10 ∨ i = 11 ∨ i = 12 ∨ i = 13 ∨ i = 14 ∨ i = 146 ∨ i = 147 ∨ i = 15 ∨ i = 151 ∨ i = 152 ∨ i = 16 ∨ i = 165 ∨ i = 166 ∨ i = 174 ∨ i = 20 ∨ i = 21 ∨ i = 24 ∨ i = 25 ∨ i = 26 ∨ i = 27 ∨ i = 28 ∨ i = 29 ∨ i = 3 ∨ i = 30 ∨ i = 31 ∨ i = 4 ∨ i = 8 ∨ i = 9 ∨ (32 ≤ i ∧ i < 128)) M0 M39 → (M39.1 1 1).toInt = 0 → li_T l Z YX11_talk d 94 [(5, .int x25), (4, .int x8), (3, .int x9), (2, .int x10), (1, .int x1Zq), (0, .ref (Z.2.2 0))] [] M39 (fun r M' => (∃ x : Int32, r = some (.int x) ∧ ((M'.1 1 1).toInt = 0)) ∧ li_fr (fun i => i = 1 ∨ i = 10 ∨ i = 11 ∨ i = 12 ∨ i = 13 ∨ i = 14 ∨ i = 146 ∨ i = 147 ∨ i = 15 ∨ i = 151 ∨ i = 152 ∨ i = 16 ∨ i = 165 ∨ i = 166 ∨ i = 174 ∨ i = 20 ∨ i = 21 ∨ i = 24 ∨ i = 25 ∨ i = 26 ∨ i = 27 ∨ i = 28 ∨ i = 29 ∨ i = 3 ∨ i = 30 ∨ i = 31 ∨ i = 4 ∨ i = 8 ∨ i = 9 ∨ (32 ≤ i ∧ i < 128)) M0 M') := by
              intro  M39 hf hiZq
              refine li_aload_n 5 dX11_talk_94 rfl ?_
              refine li_getr (k := 1) (N := 13) (T := TX11) (C0 := RX11) dX11_talk_95 (by decide) sh_0 rfl rfl (by decide) (by decide) li_in11 w_474 ?_
              refine li_iload_n 3 dX11_talk_98 rfl ?_
              refine li_iload_n 4 dX11_talk_99 rfl ?_
              refine li_icmp_ge 107 dX11_talk_100 (by decide) (fun c40Zq => ?_) (fun c40Zq => ?_)
              · have tc40 : x1Zq.toInt ≤ x10.toInt := tl_le c40Zq
                refine li_iconst 0 dX11_talk_107 (by decide) ?_
                refine li_iload_n 2 dX11_talk_108 rfl ?_
                refine li_callV (n := 2) (As := [.int 0, .int x9]) dX11_talk_109 (k_X5_tellTwo (d - 1) (by omega) 0 x9 M39) (by omega) (Nat.le_of_ble_eq_true rfl) w_951 w_952 w_953 w_103 w_954 (by decide +kernel) rfl (by decide) sh_3 rfl rfl (Nat.le_of_ble_eq_true rfl) (fun r M42 h43 => ?_)
                obtain ⟨rfl, h43⟩ := h43
                have hf := li_fr_trans hf h43 (fun i (hZq : i = 3 ∨ i = 4) => (show i = 1 ∨ i = 10 ∨ i = 11 ∨ i = 12 ∨ i = 13 ∨ i = 14 ∨ i = 146 ∨ i = 147 ∨ i = 15 ∨ i = 151 ∨ i = 152 ∨ i = 16 ∨ i = 165 ∨ i = 166 ∨ i = 174 ∨ i = 20 ∨ i = 21 ∨ i = 24 ∨ i = 25 ∨ i = 26 ∨ i = 27 ∨ i = 28 ∨ i = 29 ∨ i = 3 ∨ i = 30 ∨ i = 31 ∨ i = 4 ∨ i = 8 ∨ i = 9 ∨ (32 ≤ i ∧ i < 128) by omega))
                have mM42_1_1 : (M42.1 1 1).toInt = (M39.1 1 1).toInt := by rw [h43.1 1 (show ¬ (1 = 3 ∨ 1 = 4) by omega)]
                refine li_iload_n 3 dX11_talk_112 rfl ?_
                exact li_iret dX11_talk_113 rfl rfl ⟨⟨_, rfl, (by first | omega | (intro _; omega) | (intro hZq; exact absurd hZq (by decide)))⟩, hf⟩
              · have tc40 : x10.toInt < x1Zq.toInt := tl_nle c40Zq
                refine li_iconst 1 dX11_talk_103 (by decide) ?_
                refine li_goto 108 dX11_talk_104 (by decide) ?_
                refine li_iload_n 2 dX11_talk_108 rfl ?_
                refine li_callV (n := 2) (As := [.int 1, .int x9]) dX11_talk_109 (k_X5_tellTwo (d - 1) (by omega) 1 x9 M39) (by omega) (Nat.le_of_ble_eq_true rfl) w_951 w_952 w_953 w_103 w_954 (by decide +kernel) rfl (by decide) sh_3 rfl rfl (Nat.le_of_ble_eq_true rfl) (fun r M45 h46 => ?_)
                obtain ⟨rfl, h46⟩ := h46
                have hf := li_fr_trans hf h46 (fun i (hZq : i = 3 ∨ i = 4) => (show i = 1 ∨ i = 10 ∨ i = 11 ∨ i = 12 ∨ i = 13 ∨ i = 14 ∨ i = 146 ∨ i = 147 ∨ i = 15 ∨ i = 151 ∨ i = 152 ∨ i = 16 ∨ i = 165 ∨ i = 166 ∨ i = 174 ∨ i = 20 ∨ i = 21 ∨ i = 24 ∨ i = 25 ∨ i = 26 ∨ i = 27 ∨ i = 28 ∨ i = 29 ∨ i = 3 ∨ i = 30 ∨ i = 31 ∨ i = 4 ∨ i = 8 ∨ i = 9 ∨ (32 ≤ i ∧ i < 128) by omega))
                have mM45_1_1 : (M45.1 1 1).toInt = (M39.1 1 1).toInt := by rw [h46.1 1 (show ¬ (1 = 3 ∨ 1 = 4) by omega)]
                refine li_iload_n 3 dX11_talk_112 rfl ?_
                exact li_iret dX11_talk_113 rfl rfl ⟨⟨_, rfl, (by first | omega | (intro _; omega) | (intro hZq; exact absurd hZq (by decide)))⟩, hf⟩
            refine li_if_le 94 dX11_talk_84 (by decide) (fun c38 => ?_) (fun c38 => ?_)
            · have tc38 : x10.toInt ≤ 0 := tl_le c38
              refine li_pick [0, 1, 2, 3, 4, 5] [(5, .int x25), (4, .int x8), (3, .int x9), (2, .int x10), (1, .int x1Zq), (0, .ref (Z.2.2 0))] rfl ?_
              exact J94  M26 hf (by omega)
            · have tc38 : 0 < x10.toInt := tl_nle c38
              refine li_aload_n 5 dX11_talk_87 rfl ?_
              refine li_getr (k := 4) (N := 13) (T := TX11) (C0 := RX11) dX11_talk_88 (by decide) sh_0 rfl rfl (by decide) (by decide) li_in11 w_477 ?_
              refine li_callV (n := 0) (As := []) dX11_talk_91 (k_X3_hold (d - 1) (by omega)  M26) (by omega) (Nat.le_of_ble_eq_true rfl) w_871 w_872 w_873 w_106 w_874 (by decide +kernel) rfl (by decide) sh_21 rfl rfl (Nat.le_of_ble_eq_true rfl) (fun r M48 h49 => ?_)
              obtain ⟨rfl, h49⟩ := h49
              have hf := li_fr_trans hf h49 (fun i (hZq : i = 21 ∨ (32 ≤ i ∧ i < 128)) => (show i = 1 ∨ i = 10 ∨ i = 11 ∨ i = 12 ∨ i = 13 ∨ i = 14 ∨ i = 146 ∨ i = 147 ∨ i = 15 ∨ i = 151 ∨ i = 152 ∨ i = 16 ∨ i = 165 ∨ i = 166 ∨ i = 174 ∨ i = 20 ∨ i = 21 ∨ i = 24 ∨ i = 25 ∨ i = 26 ∨ i = 27 ∨ i = 28 ∨ i = 29 ∨ i = 3 ∨ i = 30 ∨ i = 31 ∨ i = 4 ∨ i = 8 ∨ i = 9 ∨ (32 ≤ i ∧ i < 128) by omega))
              have mM48_1_1 : (M48.1 1 1).toInt = (M26.1 1 1).toInt := by rw [h49.1 1 (show ¬ (1 = 21 ∨ (32 ≤ 1 ∧ 1 < 128)) by omega)]
              refine li_pick [0, 1, 2, 3, 4, 5] [(5, .int x25), (4, .int x8), (3, .int x9), (2, .int x10), (1, .int x1Zq), (0, .ref (Z.2.2 0))] rfl ?_
              exact J94  M48 hf (by omega)
    have z0 : (0 : Int32).toInt = 0 := rfl
    have z0 : (0 : Int32).toInt = 0 := rfl
    have z0 : (0 : Int32).toInt = 0 := rfl
    exact L34 _ 0 0 0 M6Zq (Nat.lt_succ_self _) hf (by omega)
  · have tc4 : x1Zq.toInt < 0 := tl_nle c4
    refine li_iload_n 0 dX11_talk_14 rfl ?_
    exact li_iret dX11_talk_15 rfl rfl ⟨⟨_, rfl, (by first | omega | (intro _; omega) | (intro hZq; exact absurd hZq (by decide)))⟩, hf⟩
set_option maxRecDepth 100000 in
set_option maxHeartbeats 4000000 in
theorem k9_X11_grammar {l : Launch} {Z : li_Z} (d : Nat) (hdZq : 36 ≤ d) (M0 : li_M) : li_Met l Z YX11_grammar d [.ref (Z.2.2 0)] M0 (fun r M' => (∃ x : Int32, r = some (.int x) ∧ ((M'.1 1 1).toInt = 0)) ∧ li_fr (fun i => i = 1 ∨ i = 10 ∨ i = 11 ∨ i = 12 ∨ i = 151 ∨ i = 152 ∨ i = 163 ∨ i = 164 ∨ i = 165 ∨ i = 166 ∨ i = 174 ∨ i = 8 ∨ i = 9) M0 M') := by
  refine li_enter (by decide +kernel) (Nat.le_of_ble_eq_true rfl) ?_
  show li_T l Z YX11_grammar d 0 [(0, .ref (Z.2.2 0))] [] M0 _
  have hf : li_fr (fun i => i = 1 ∨ i = 10 ∨ i = 11 ∨ i = 12 ∨ i = 151 ∨ i = 152 ∨ i = 163 ∨ i = 164 ∨ i = 165 ∨ i = 166 ∨ i = 174 ∨ i = 8 ∨ i = 9) M0 M0 := li_fr_refl
  refine li_aload_n 0 dX11_grammar_0 rfl ?_
  refine li_iconst 3 dX11_grammar_1 (by decide) ?_
  refine li_bipush 10 dX11_grammar_2 (by decide) ?_
  refine li_bipush 80 dX11_grammar_4 (by decide) ?_
  refine li_callV (n := 3) (As := [.int 3, .int 10, .int 80]) dX11_grammar_6 (k9_X11_readText (d - 1) (by omega) 3 10 80 M0 (by decide)) (by omega) (Nat.le_of_ble_eq_true rfl) w_536 w_538 w_0 w_101 w_539 (by decide +kernel) rfl (by decide) sh_0 rfl rfl (Nat.le_of_ble_eq_true rfl) (fun r M2Zq h3 => ?_)
  have z3 : (3 : Int32).toInt = 3 := rfl
  have z10 : (10 : Int32).toInt = 10 := rfl
  have z80 : (80 : Int32).toInt = 80 := rfl
  obtain ⟨⟨x1Zq, rfl, qx1⟩, h3⟩ := h3
  have gx1 := tl_rg x1Zq
  have hf := li_fr_trans hf h3 (fun i (hZq : i = 1 ∨ i = 10 ∨ i = 11 ∨ i = 12 ∨ i = 151 ∨ i = 152 ∨ i = 165 ∨ i = 166 ∨ i = 174 ∨ i = 8 ∨ i = 9) => (show i = 1 ∨ i = 10 ∨ i = 11 ∨ i = 12 ∨ i = 151 ∨ i = 152 ∨ i = 163 ∨ i = 164 ∨ i = 165 ∨ i = 166 ∨ i = 174 ∨ i = 8 ∨ i = 9 by omega))
  refine li_istore_n [(1, .int x1Zq), (0, .ref (Z.2.2 0))] dX11_grammar_9 (by decide) rfl ?_
  refine li_iload_n 0 dX11_grammar_10 rfl ?_
  refine li_if_lt 22 dX11_grammar_11 (by decide) (fun c4 => ?_) (fun c4 => ?_)
  · have tc4 : x1Zq.toInt < 0 := tl_lt c4
    refine li_iload_n 0 dX11_grammar_22 rfl ?_
    exact li_iret dX11_grammar_23 rfl rfl ⟨⟨_, rfl, (by first | omega | (intro _; omega) | (intro hZq; exact absurd hZq (by decide)))⟩, hf⟩
  · have tc4 : 0 ≤ x1Zq.toInt := tl_nlt c4
    refine li_aload_n 1 dX11_grammar_14 rfl ?_
    refine li_getr (k := 10) (N := 13) (T := TX11) (C0 := RX11) dX11_grammar_15 (by decide) sh_0 rfl rfl (by decide) (by decide) li_in11 w_483 ?_
    refine li_iload_n 0 dX11_grammar_18 rfl ?_
    refine li_callV (n := 1) (As := [.int x1Zq]) dX11_grammar_19 (k_X10_adopt (d - 1) (by omega) x1Zq M2Zq) (by omega) (Nat.le_of_ble_eq_true rfl) w_1116 w_1117 w_1118 w_108 w_1119 (by decide +kernel) rfl (by decide) sh_163 rfl rfl (Nat.le_of_ble_eq_true rfl) (fun r M6Zq h7 => ?_)
    obtain ⟨rfl, h7⟩ := h7
    have hf := li_fr_trans hf h7 (fun i (hZq : i = 163 ∨ i = 164) => (show i = 1 ∨ i = 10 ∨ i = 11 ∨ i = 12 ∨ i = 151 ∨ i = 152 ∨ i = 163 ∨ i = 164 ∨ i = 165 ∨ i = 166 ∨ i = 174 ∨ i = 8 ∨ i = 9 by omega))
    have mM6_1_1 : (M6Zq.1 1 1).toInt = (M2Zq.1 1 1).toInt := by rw [h7.1 1 (show ¬ (1 = 163 ∨ 1 = 164) by omega)]
    refine li_iload_n 0 dX11_grammar_22 rfl ?_
    exact li_iret dX11_grammar_23 rfl rfl ⟨⟨_, rfl, (by first | omega | (intro _; omega) | (intro hZq; exact absurd hZq (by decide)))⟩, hf⟩
set_option maxRecDepth 100000 in
set_option maxHeartbeats 4000000 in
theorem k9_X11_rate {l : Launch} {Z : li_Z} (d : Nat) (hdZq : 36 ≤ d) (M0 : li_M) : li_Met l Z YX11_rate d [.ref (Z.2.2 0)] M0 (fun r M' => (∃ x : Int32, r = some (.int x) ∧ ((M'.1 1 1).toInt = 0)) ∧ li_fr (fun i => i = 1 ∨ i = 10 ∨ i = 11 ∨ i = 12 ∨ i = 146 ∨ i = 147 ∨ i = 148 ∨ i = 149 ∨ i = 150 ∨ i = 151 ∨ i = 152 ∨ i = 153 ∨ i = 154 ∨ i = 155 ∨ i = 156 ∨ i = 157 ∨ i = 165 ∨ i = 166 ∨ i = 174 ∨ i = 3 ∨ i = 4 ∨ i = 8 ∨ i = 9) M0 M') := by
  refine li_enter (by decide +kernel) (Nat.le_of_ble_eq_true rfl) ?_
  show li_T l Z YX11_rate d 0 [(0, .ref (Z.2.2 0))] [] M0 _
  have hf : li_fr (fun i => i = 1 ∨ i = 10 ∨ i = 11 ∨ i = 12 ∨ i = 146 ∨ i = 147 ∨ i = 148 ∨ i = 149 ∨ i = 150 ∨ i = 151 ∨ i = 152 ∨ i = 153 ∨ i = 154 ∨ i = 155 ∨ i = 156 ∨ i = 157 ∨ i = 165 ∨ i = 166 ∨ i = 174 ∨ i = 3 ∨ i = 4 ∨ i = 8 ∨ i = 9) M0 M0 := li_fr_refl
  refine li_aload_n 0 dX11_rate_0 rfl ?_
  refine li_iconst 4 dX11_rate_1 (by decide) ?_
  refine li_iconst 0 dX11_rate_2 (by decide) ?_
  refine li_bipush 40 dX11_rate_3 (by decide) ?_
  refine li_callV (n := 3) (As := [.int 4, .int 0, .int 40]) dX11_rate_5 (k9_X11_readText (d - 1) (by omega) 4 0 40 M0 (by decide)) (by omega) (Nat.le_of_ble_eq_true rfl) w_536 w_538 w_0 w_101 w_539 (by decide +kernel) rfl (by decide) sh_0 rfl rfl (Nat.le_of_ble_eq_true rfl) (fun r M2Zq h3 => ?_)
  have z4 : (4 : Int32).toInt = 4 := rfl
  have z0 : (0 : Int32).toInt = 0 := rfl
  have z40 : (40 : Int32).toInt = 40 := rfl
  obtain ⟨⟨x1Zq, rfl, qx1⟩, h3⟩ := h3
  have gx1 := tl_rg x1Zq
  have hf := li_fr_trans hf h3 (fun i (hZq : i = 1 ∨ i = 10 ∨ i = 11 ∨ i = 12 ∨ i = 151 ∨ i = 152 ∨ i = 165 ∨ i = 166 ∨ i = 174 ∨ i = 8 ∨ i = 9) => (show i = 1 ∨ i = 10 ∨ i = 11 ∨ i = 12 ∨ i = 146 ∨ i = 147 ∨ i = 148 ∨ i = 149 ∨ i = 150 ∨ i = 151 ∨ i = 152 ∨ i = 153 ∨ i = 154 ∨ i = 155 ∨ i = 156 ∨ i = 157 ∨ i = 165 ∨ i = 166 ∨ i = 174 ∨ i = 3 ∨ i = 4 ∨ i = 8 ∨ i = 9 by omega))
  refine li_istore_n [(1, .int x1Zq), (0, .ref (Z.2.2 0))] dX11_rate_8 (by decide) rfl ?_
  refine li_iload_n 0 dX11_rate_9 rfl ?_
  refine li_if_ge 19 dX11_rate_10 (by decide) (fun c4 => ?_) (fun c4 => ?_)
  · have tc4 : 0 ≤ x1Zq.toInt := tl_le c4
    refine li_aload_n 1 dX11_rate_19 rfl ?_
    refine li_aload_n 1 dX11_rate_20 rfl ?_
    refine li_getr (k := 8) (N := 13) (T := TX11) (C0 := RX11) dX11_rate_21 (by decide) sh_0 rfl rfl (by decide) (by decide) li_in11 w_481 ?_
    refine li_callV (n := 1) (As := [.ref (Z.2.2 155)]) dX11_rate_24 (k_X11_bestOfAll (d - 1) (by omega) cob_155 M2Zq) (by omega) (Nat.le_of_ble_eq_true rfl) w_1232 w_1234 w_39 w_101 w_1235 (by decide +kernel) rfl (by decide) sh_0 rfl rfl (Nat.le_of_ble_eq_true rfl) (fun r M6Zq h7 => ?_)
    obtain ⟨⟨x5Zq, rfl⟩, h7⟩ := h7
    have gx5 := tl_rg x5Zq
    have hf := li_fr_trans hf h7 (fun i (hZq : i = 155 ∨ i = 156 ∨ i = 157 ∨ i = 153 ∨ i = 154) => (show i = 1 ∨ i = 10 ∨ i = 11 ∨ i = 12 ∨ i = 146 ∨ i = 147 ∨ i = 148 ∨ i = 149 ∨ i = 150 ∨ i = 151 ∨ i = 152 ∨ i = 153 ∨ i = 154 ∨ i = 155 ∨ i = 156 ∨ i = 157 ∨ i = 165 ∨ i = 166 ∨ i = 174 ∨ i = 3 ∨ i = 4 ∨ i = 8 ∨ i = 9 by omega))
    have mM6_1_1 : (M6Zq.1 1 1).toInt = (M2Zq.1 1 1).toInt := by rw [h7.1 1 (show ¬ (1 = 155 ∨ 1 = 156 ∨ 1 = 157 ∨ 1 = 153 ∨ 1 = 154) by omega)]
    refine li_istore_n [(2, .int x5Zq), (1, .int x1Zq), (0, .ref (Z.2.2 0))] dX11_rate_27 (by decide) rfl ?_
    refine li_aload_n 2 dX11_rate_28 rfl ?_
    refine li_aload_n 2 dX11_rate_29 rfl ?_
    refine li_getr (k := 7) (N := 13) (T := TX11) (C0 := RX11) dX11_rate_30 (by decide) sh_0 rfl rfl (by decide) (by decide) li_in11 w_480 ?_
    refine li_callV (n := 1) (As := [.ref (Z.2.2 148)]) dX11_rate_33 (k_X11_bestOfAll (d - 1) (by omega) cob_148 M6Zq) (by omega) (Nat.le_of_ble_eq_true rfl) w_1232 w_1234 w_39 w_101 w_1235 (by decide +kernel) rfl (by decide) sh_0 rfl rfl (Nat.le_of_ble_eq_true rfl) (fun r M9Zq h10 => ?_)
    obtain ⟨⟨x8, rfl⟩, h10⟩ := h10
    have gx8 := tl_rg x8
    have hf := li_fr_trans hf h10 (fun i (hZq : i = 148 ∨ i = 149 ∨ i = 150 ∨ i = 146 ∨ i = 147) => (show i = 1 ∨ i = 10 ∨ i = 11 ∨ i = 12 ∨ i = 146 ∨ i = 147 ∨ i = 148 ∨ i = 149 ∨ i = 150 ∨ i = 151 ∨ i = 152 ∨ i = 153 ∨ i = 154 ∨ i = 155 ∨ i = 156 ∨ i = 157 ∨ i = 165 ∨ i = 166 ∨ i = 174 ∨ i = 3 ∨ i = 4 ∨ i = 8 ∨ i = 9 by omega))
    have mM9_1_1 : (M9Zq.1 1 1).toInt = (M6Zq.1 1 1).toInt := by rw [h10.1 1 (show ¬ (1 = 148 ∨ 1 = 149 ∨ 1 = 150 ∨ 1 = 146 ∨ 1 = 147) by omega)]
    refine li_istore_n [(3, .int x8), (2, .int x5Zq), (1, .int x1Zq), (0, .ref (Z.2.2 0))] dX11_rate_36 (by decide) rfl ?_
    refine li_aload_n 3 dX11_rate_37 rfl ?_
    refine li_getr (k := 1) (N := 13) (T := TX11) (C0 := RX11) dX11_rate_38 (by decide) sh_0 rfl rfl (by decide) (by decide) li_in11 w_474 ?_
    refine li_iload_n 1 dX11_rate_41 rfl ?_
    refine li_iload_n 0 dX11_rate_42 rfl ?_
    refine li_callV (n := 2) (As := [.int x5Zq, .int x8]) dX11_rate_43 (k_X5_tellTwo (d - 1) (by omega) x5Zq x8 M9Zq) (by omega) (Nat.le_of_ble_eq_true rfl) w_951 w_952 w_953 w_103 w_954 (by decide +kernel) rfl (by decide) sh_3 rfl rfl (Nat.le_of_ble_eq_true rfl) (fun r M12 h13 => ?_)
    obtain ⟨rfl, h13⟩ := h13
    have hf := li_fr_trans hf h13 (fun i (hZq : i = 3 ∨ i = 4) => (show i = 1 ∨ i = 10 ∨ i = 11 ∨ i = 12 ∨ i = 146 ∨ i = 147 ∨ i = 148 ∨ i = 149 ∨ i = 150 ∨ i = 151 ∨ i = 152 ∨ i = 153 ∨ i = 154 ∨ i = 155 ∨ i = 156 ∨ i = 157 ∨ i = 165 ∨ i = 166 ∨ i = 174 ∨ i = 3 ∨ i = 4 ∨ i = 8 ∨ i = 9 by omega))
    have mM12_1_1 : (M12.1 1 1).toInt = (M9Zq.1 1 1).toInt := by rw [h13.1 1 (show ¬ (1 = 3 ∨ 1 = 4) by omega)]
    refine li_iload_n 1 dX11_rate_46 rfl ?_
    refine li_iload_n 0 dX11_rate_47 rfl ?_
    refine li_isub dX11_rate_48 ?_
    refine li_top (fun x14 ex14 => ?_)
    have tx14 : (-2147483648 ≤ x5Zq.toInt - x8.toInt ∧ x5Zq.toInt - x8.toInt ≤ 2147483647) → x14.toInt = x5Zq.toInt - x8.toInt := tl_sub ex14
    exact li_iret dX11_rate_49 rfl rfl ⟨⟨_, rfl, (by first | omega | (intro _; omega) | (intro hZq; exact absurd hZq (by decide)))⟩, hf⟩
  · have tc4 : x1Zq.toInt < 0 := tl_nle c4
    refine li_iload_n 0 dX11_rate_13 rfl ?_
    refine li_sipush 9999 dX11_rate_14 (by decide) ?_
    refine li_isub dX11_rate_17 ?_
    refine li_top (fun x15 ex15 => ?_)
    have tx15 : (-2147483648 ≤ x1Zq.toInt - 9999 ∧ x1Zq.toInt - 9999 ≤ 2147483647) → x15.toInt = x1Zq.toInt - 9999 := tl_sub ex15
    exact li_iret dX11_rate_18 rfl rfl ⟨⟨_, rfl, (by first | omega | (intro _; omega) | (intro hZq; exact absurd hZq (by decide)))⟩, hf⟩
set_option maxRecDepth 100000 in
set_option maxHeartbeats 4000000 in
theorem k9_X11_things {l : Launch} {Z : li_Z} (d : Nat) (hdZq : 36 ≤ d) (M0 : li_M) : li_Met l Z YX11_things d [.ref (Z.2.2 0)] M0 (fun r M' => (∃ x : Int32, r = some (.int x) ∧ ((M'.1 1 1).toInt = 0 ∧ (M'.1 5 0).toInt = (M0.1 5 0).toInt)) ∧ li_fr (fun i => i = 1 ∨ i = 10 ∨ i = 11 ∨ i = 12 ∨ i = 151 ∨ i = 152 ∨ i = 165 ∨ i = 166 ∨ i = 174 ∨ i = 21 ∨ i = 5 ∨ i = 8 ∨ i = 9) M0 M') := by
  refine li_enter (by decide +kernel) (Nat.le_of_ble_eq_true rfl) ?_
  show li_T l Z YX11_things d 0 [(0, .ref (Z.2.2 0))] [] M0 _
  have hf : li_fr (fun i => i = 1 ∨ i = 10 ∨ i = 11 ∨ i = 12 ∨ i = 151 ∨ i = 152 ∨ i = 165 ∨ i = 166 ∨ i = 174 ∨ i = 21 ∨ i = 5 ∨ i = 8 ∨ i = 9) M0 M0 := li_fr_refl
  refine li_aload_n 0 dX11_things_0 rfl ?_
  refine li_iconst 1 dX11_things_1 (by decide) ?_
  refine li_bipush 8 dX11_things_2 (by decide) ?_
  refine li_aload_n 0 dX11_things_4 rfl ?_
  refine li_getr (k := 2) (N := 13) (T := TX11) (C0 := RX11) dX11_things_5 (by decide) sh_0 rfl rfl (by decide) (by decide) li_in11 w_475 ?_
  refine li_geti (k := 1) (N := 9) (T := TX8) (C0 := RX8) dX11_things_8 (by decide) sh_5 rfl rfl (by decide) li_in8 w_180 ?_
  refine li_top (fun x1Zq ex1 => ?_)
  have gx1 := tl_rg x1Zq
  refine li_isub dX11_things_11 ?_
  refine li_top (fun x2Zq ex2Zq => ?_)
  have tx2 : (-2147483648 ≤ 8 - x1Zq.toInt ∧ 8 - x1Zq.toInt ≤ 2147483647) → x2Zq.toInt = 8 - x1Zq.toInt := tl_sub ex2Zq
  refine li_bipush 76 dX11_things_12 (by decide) ?_
  refine li_callV (n := 3) (As := [.int 1, .int x2Zq, .int 76]) dX11_things_14 (k9_X11_readText (d - 1) (by omega) 1 x2Zq 76 M0 (by decide)) (by omega) (Nat.le_of_ble_eq_true rfl) w_536 w_538 w_0 w_101 w_539 (by decide +kernel) rfl (by decide) sh_0 rfl rfl (Nat.le_of_ble_eq_true rfl) (fun r M4Zq h5 => ?_)
  have z1 : (1 : Int32).toInt = 1 := rfl
  have z76 : (76 : Int32).toInt = 76 := rfl
  obtain ⟨⟨x3, rfl, qx3⟩, h5⟩ := h5
  have gx3 := tl_rg x3
  have hf := li_fr_trans hf h5 (fun i (hZq : i = 1 ∨ i = 10 ∨ i = 11 ∨ i = 12 ∨ i = 151 ∨ i = 152 ∨ i = 165 ∨ i = 166 ∨ i = 174 ∨ i = 8 ∨ i = 9) => (show i = 1 ∨ i = 10 ∨ i = 11 ∨ i = 12 ∨ i = 151 ∨ i = 152 ∨ i = 165 ∨ i = 166 ∨ i = 174 ∨ i = 21 ∨ i = 5 ∨ i = 8 ∨ i = 9 by omega))
  have mM4_5_0 : (M4Zq.1 5 0).toInt = (M0.1 5 0).toInt := by rw [h5.1 5 (show ¬ (5 = 1 ∨ 5 = 10 ∨ 5 = 11 ∨ 5 = 12 ∨ 5 = 151 ∨ 5 = 152 ∨ 5 = 165 ∨ 5 = 166 ∨ 5 = 174 ∨ 5 = 8 ∨ 5 = 9) by omega)]
  refine li_istore_n [(1, .int x3), (0, .ref (Z.2.2 0))] dX11_things_17 (by decide) rfl ?_
  refine li_iload_n 0 dX11_things_18 rfl ?_
  refine li_if_le 42 dX11_things_19 (by decide) (fun c6Zq => ?_) (fun c6Zq => ?_)
  · have tc6 : x3.toInt ≤ 0 := tl_le c6Zq
    refine li_iload_n 0 dX11_things_42 rfl ?_
    exact li_iret dX11_things_43 rfl rfl ⟨⟨_, rfl, (by omega)⟩, hf⟩
  · have tc6 : 0 < x3.toInt := tl_nle c6Zq
    refine li_aload_n 1 dX11_things_22 rfl ?_
    refine li_getr (k := 2) (N := 13) (T := TX11) (C0 := RX11) dX11_things_23 (by decide) sh_0 rfl rfl (by decide) (by decide) li_in11 w_475 ?_
    refine li_dup dX11_things_26 rfl ?_
    refine li_geti (k := 1) (N := 9) (T := TX8) (C0 := RX8) dX11_things_27 (by decide) sh_5 rfl rfl (by decide) li_in8 w_180 ?_
    refine li_top (fun x7 ex7 => ?_)
    have gx7 := tl_rg x7
    refine li_iload_n 0 dX11_things_30 rfl ?_
    refine li_iadd dX11_things_31 ?_
    refine li_top (fun x8 ex8 => ?_)
    have tx8 : (-2147483648 ≤ x7.toInt + x3.toInt ∧ x7.toInt + x3.toInt ≤ 2147483647) → x8.toInt = x7.toInt + x3.toInt := tl_add ex8
    refine li_puti (k := 1) (N := 9) (T := TX8) (C0 := RX8) dX11_things_32 (by decide) sh_5 rfl rfl (by decide) li_in8 tyX8_ok nmX8 rfl rfl rfl rfl w_180 ?_
    refine li_nm (fun M9Zq eM9 => ?_)
    have hf := li_fr_ui hf (show 5 = 1 ∨ 5 = 10 ∨ 5 = 11 ∨ 5 = 12 ∨ 5 = 151 ∨ 5 = 152 ∨ 5 = 165 ∨ 5 = 166 ∨ 5 = 174 ∨ 5 = 21 ∨ 5 = 5 ∨ 5 = 8 ∨ 5 = 9 by omega) eM9
    have mM9_1_1 : (M9Zq.1 1 1).toInt = (M4Zq.1 1 1).toInt := by rw [eM9, li_ui_at, if_neg (by decide)]
    have mM9_5_0 : (M9Zq.1 5 0).toInt = (M4Zq.1 5 0).toInt := by rw [eM9, li_ui_at, if_pos rfl, if_neg (by decide)]
    have k10 : M9Zq.1 5 1 = x8 := by rw [eM9, li_ui_at, if_pos rfl, if_pos rfl]
    refine li_aload_n 1 dX11_things_35 rfl ?_
    refine li_getr (k := 4) (N := 13) (T := TX11) (C0 := RX11) dX11_things_36 (by decide) sh_0 rfl rfl (by decide) (by decide) li_in11 w_477 ?_
    refine li_callV (n := 0) (As := []) dX11_things_39 (k_X3_clearAll (d - 1) (by omega)  M9Zq) (by omega) (Nat.le_of_ble_eq_true rfl) w_734 w_735 w_736 w_106 w_737 (by decide +kernel) rfl (by decide) sh_21 rfl rfl (Nat.le_of_ble_eq_true rfl) (fun r M12 h13 => ?_)
    obtain ⟨rfl, h13⟩ := h13
    have hf := li_fr_trans hf h13 (fun i (hZq : i = 21) => (show i = 1 ∨ i = 10 ∨ i = 11 ∨ i = 12 ∨ i = 151 ∨ i = 152 ∨ i = 165 ∨ i = 166 ∨ i = 174 ∨ i = 21 ∨ i = 5 ∨ i = 8 ∨ i = 9 by omega))
    have mM12_1_1 : (M12.1 1 1).toInt = (M9Zq.1 1 1).toInt := by rw [h13.1 1 (show ¬ (1 = 21) by omega)]
    have mM12_5_0 : (M12.1 5 0).toInt = (M9Zq.1 5 0).toInt := by rw [h13.1 5 (show ¬ (5 = 21) by omega)]
    refine li_iload_n 0 dX11_things_42 rfl ?_
    exact li_iret dX11_things_43 rfl rfl ⟨⟨_, rfl, (by omega)⟩, hf⟩
