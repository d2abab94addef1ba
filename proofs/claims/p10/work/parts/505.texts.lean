set_option maxRecDepth 100000 in
set_option maxHeartbeats 4000000 in
theorem k2_X7_cutTo {l : Launch} {Z : li_Z} (d : Nat) (hd : 1 ≤ d) (p1 : Int32) (M0 : li_M) : li_Met l Z YX7_cutTo d [.ref (Z.2.2 1), .int p1] M0 (fun r M' => (∃ x : Int32, r = some (.int x) ∧ (x = 0 ∨ x = 1) ∧ ((x.toInt = 1 ∧ 0 ≤ p1.toInt ∧ p1.toInt ≤ (M0.1 1 1).toInt ∧ (M'.1 1 1).toInt = p1.toInt) ∨ (x.toInt = 0 ∧ (p1.toInt < 0 ∨ (M0.1 1 1).toInt < p1.toInt) ∧ (M'.1 1 1).toInt = (M0.1 1 1).toInt))) ∧ li_fr (fun i => i = 1) M0 M') := by
  refine li_enter (by decide +kernel) (Nat.le_of_ble_eq_true rfl) ?_
  show li_T l Z YX7_cutTo d 0 [(0, .ref (Z.2.2 1)), (1, .int p1)] [] M0 _
  have hf : li_fr (fun i => i = 1) M0 M0 := li_fr_refl
  have gp1 := tl_rg p1
  refine li_iload_n 1 dX7_cutTo_0 rfl ?_
  refine li_if_lt 12 dX7_cutTo_1 (by decide) (fun c1 => ?_) (fun c1 => ?_)
  · have tc1 : p1.toInt < 0 := tl_lt c1
    have z0 : (0 : Int32).toInt = 0 := rfl
    refine li_iconst 0 dX7_cutTo_12 (by decide) ?_
    have z0 : (0 : Int32).toInt = 0 := rfl
    exact li_iret dX7_cutTo_13 rfl (li_nz (Or.inl rfl)) ⟨⟨_, rfl, Or.inl rfl, (by first | omega | (intro _; omega) | (intro h; exact absurd h (by decide)))⟩, hf⟩
  · have tc1 : 0 ≤ p1.toInt := tl_nlt c1
    have z0 : (0 : Int32).toInt = 0 := rfl
    refine li_iload_n 1 dX7_cutTo_4 rfl ?_
    refine li_aload_n 0 dX7_cutTo_5 rfl ?_
    refine li_geti (k := 1) (N := 3) (T := TX7) (C0 := RX7) dX7_cutTo_6 (by decide) sh_1 rfl rfl (by decide) li_in7 w_139 ?_
    refine li_top (fun x2 ex2 => ?_)
    have gx2 := tl_rg x2
    have vx2 : x2.toInt = (M0.1 1 1).toInt := tl_eq ex2
    refine li_icmp_le 14 dX7_cutTo_9 (by decide) (fun c3 => ?_) (fun c3 => ?_)
    · have tc3 : p1.toInt ≤ x2.toInt := tl_le c3
      refine li_aload_n 0 dX7_cutTo_14 rfl ?_
      refine li_iload_n 1 dX7_cutTo_15 rfl ?_
      refine li_puti (k := 1) (N := 3) (T := TX7) (C0 := RX7) dX7_cutTo_16 (by decide) sh_1 rfl rfl (by decide) li_in7 tyX7_ok nmX7 rfl rfl rfl rfl w_139 ?_
      refine li_nm (fun M4 eM4 => ?_)
      have hf := li_fr_ui hf (show 1 = 1 by omega) eM4
      have mM4_1_1 : (M4.1 1 1).toInt = p1.toInt := by rw [eM4, li_ui_at, if_pos rfl, if_pos rfl]
      have k5 : M4.1 1 1 = p1 := by rw [eM4, li_ui_at, if_pos rfl, if_pos rfl]
      refine li_iconst 1 dX7_cutTo_19 (by decide) ?_
      have z1 : (1 : Int32).toInt = 1 := rfl
      exact li_iret dX7_cutTo_20 rfl (li_nz (Or.inr rfl)) ⟨⟨_, rfl, Or.inr rfl, (by first | omega | (intro _; omega) | (intro h; exact absurd h (by decide)))⟩, hf⟩
    · have tc3 : x2.toInt < p1.toInt := tl_nle c3
      refine li_iconst 0 dX7_cutTo_12 (by decide) ?_
      have z0 : (0 : Int32).toInt = 0 := rfl
      exact li_iret dX7_cutTo_13 rfl (li_nz (Or.inl rfl)) ⟨⟨_, rfl, Or.inl rfl, (by first | omega | (intro _; omega) | (intro h; exact absurd h (by decide)))⟩, hf⟩
set_option maxRecDepth 100000 in
set_option maxHeartbeats 4000000 in
theorem k3_X11_end {l : Launch} {Z : li_Z} (d : Nat) (hd : 2 ≤ d) (p1 : Int32) (M0 : li_M) : li_Met l Z YX11_end d [.ref (Z.2.2 0), .int p1] M0 (fun r M' => (∃ x : Int32, r = some (.int x) ∧ (x = 0 ∨ x = 1) ∧ ((x.toInt = 1 ∧ 0 ≤ p1.toInt ∧ p1.toInt ≤ (M0.1 1 1).toInt ∧ (M'.1 1 1).toInt = p1.toInt) ∨ (x.toInt = 0 ∧ (p1.toInt < 0 ∨ (M0.1 1 1).toInt < p1.toInt) ∧ (M'.1 1 1).toInt = (M0.1 1 1).toInt))) ∧ li_fr (fun i => i = 1) M0 M') := by
  refine li_enter (by decide +kernel) (Nat.le_of_ble_eq_true rfl) ?_
  show li_T l Z YX11_end d 0 [(0, .ref (Z.2.2 0)), (1, .int p1)] [] M0 _
  have hf : li_fr (fun i => i = 1) M0 M0 := li_fr_refl
  have gp1 := tl_rg p1
  refine li_aload_n 0 dX11_end_0 rfl ?_
  refine li_getr (k := 0) (N := 13) (T := TX11) (C0 := RX11) dX11_end_1 (by decide) sh_0 rfl rfl (by decide) (by decide) li_in11 w_473 ?_
  refine li_iload_n 1 dX11_end_4 rfl ?_
  refine li_callV (n := 1) (As := [.int p1]) dX11_end_5 (k2_X7_cutTo (d - 1) (by omega) p1 M0) (by omega) (Nat.le_of_ble_eq_true rfl) w_528 w_529 w_530 w_102 w_531 (by decide +kernel) rfl (by decide) sh_1 rfl rfl (Nat.le_of_ble_eq_true rfl) (fun r M2 h3 => ?_)
  obtain ⟨⟨x1, rfl, bx1, qx1⟩, h3⟩ := h3
  have ux1 := tl_b bx1
  have hf := li_fr_trans hf h3 (fun i (h : i = 1) => (show i = 1 by omega))
  exact li_iret dX11_end_8 rfl (li_nz (bx1)) ⟨⟨_, rfl, bx1, (by first | omega | (intro _; omega) | (intro h; exact absurd h (by decide)))⟩, hf⟩
set_option maxRecDepth 100000 in
set_option maxHeartbeats 4000000 in
theorem k4_X11_readText {l : Launch} {Z : li_Z} (d : Nat) (hd : 4 ≤ d) (p1 : Int32) (p2 : Int32) (p3 : Int32) (M0 : li_M) (h1 : p1.toInt = 5) (h3 : 0 ≤ p3.toInt ∧ p3.toInt ≤ 100) : li_Met l Z YX11_readText d [.ref (Z.2.2 0), .int p1, .int p2, .int p3] M0 (fun r M' => (∃ x : Int32, r = some (.int x) ∧ (x.toInt ≤ 80 ∧ ((M'.1 1 1).toInt = 0))) ∧ li_fr (fun i => i = 1 ∨ i = 166) M0 M') := by
  refine li_enter (by decide +kernel) (Nat.le_of_ble_eq_true rfl) ?_
  show li_T l Z YX11_readText d 0 [(0, .ref (Z.2.2 0)), (1, .int p1), (2, .int p2), (3, .int p3)] [] M0 _
  have hf : li_fr (fun i => i = 1 ∨ i = 166) M0 M0 := li_fr_refl
  have gp1 := tl_rg p1
  have gp2 := tl_rg p2
  have gp3 := tl_rg p3
  refine li_aload_n 0 dX11_readText_0 rfl ?_
  refine li_getr (k := 0) (N := 13) (T := TX11) (C0 := RX11) dX11_readText_1 (by decide) sh_0 rfl rfl (by decide) (by decide) li_in11 w_473 ?_
  refine li_iconst 0 dX11_readText_4 (by decide) ?_
  refine li_puti (k := 2) (N := 3) (T := TX7) (C0 := RX7) dX11_readText_5 (by decide) sh_1 rfl rfl (by decide) li_in7 tyX7_ok nmX7 rfl rfl rfl rfl w_144 ?_
  refine li_nm (fun M1 eM1 => ?_)
  have hf := li_fr_ui hf (show 1 = 1 ∨ 1 = 166 by omega) eM1
  have mM1_1_1 : (M1.1 1 1).toInt = (M0.1 1 1).toInt := by rw [eM1, li_ui_at, if_pos rfl, if_neg (by decide)]
  have mM1_1_2 : (M1.1 1 2).toInt = 0 := by rw [eM1, li_ui_at, if_pos rfl, if_pos rfl]; rfl
  have k2 : M1.1 1 2 = 0 := by rw [eM1, li_ui_at, if_pos rfl, if_pos rfl]
  refine li_iload_n 1 dX11_readText_8 rfl ?_
  refine li_iconst 4 dX11_readText_9 (by decide) ?_
  have J80 : ∀ (x4 : Int32) (M5 : li_M), li_fr (fun i => i = 1 ∨ i = 166) M0 M5 → (x4 : Int32).toInt ≤ 80 ∧ 0 ≤ (M5.1 1 2).toInt → li_T l Z YX11_readText d 80 [(0, .ref (Z.2.2 0)), (1, .int p1), (2, .int p2), (3, .int p3), (4, .int x4)] [] M5 (fun r M' => (∃ x : Int32, r = some (.int x) ∧ (x.toInt ≤ 80 ∧ ((M'.1 1 1).toInt = 0))) ∧ li_fr (fun i => i = 1 ∨ i = 166) M0 M') := by
    intro x4 M5 hf hi
    have gx4 := tl_rg x4
    refine li_aload_n 0 dX11_readText_80 rfl ?_
    refine li_getr (k := 0) (N := 13) (T := TX11) (C0 := RX11) dX11_readText_81 (by decide) sh_0 rfl rfl (by decide) (by decide) li_in11 w_473 ?_
    refine li_iload 4 dX11_readText_84 rfl ?_
    refine li_iload_n 3 dX11_readText_86 rfl ?_
    refine li_callV (n := 2) (As := [.int x4, .int p3]) dX11_readText_87 (k2_X7_verdict (d - 1) (by omega) x4 p3 M5 (by omega) (by omega)) (by omega) (Nat.le_of_ble_eq_true rfl) w_721 w_722 w_723 w_102 w_724 (by decide +kernel) rfl (by decide) sh_1 rfl rfl (Nat.le_of_ble_eq_true rfl) (fun r M7 h8 => ?_)
    obtain ⟨⟨x6, rfl, qx6⟩, h8⟩ := h8
    have gx6 := tl_rg x6
    have hf := li_fr_trans hf h8 (fun i h => False.elim h)
    have mM7_1_1 : (M7.1 1 1).toInt = (M5.1 1 1).toInt := by rw [h8.1 1 id]
    have mM7_1_2 : (M7.1 1 2).toInt = (M5.1 1 2).toInt := by rw [h8.1 1 id]
    refine li_istore [(5, .int x6), (0, .ref (Z.2.2 0)), (1, .int p1), (2, .int p2), (3, .int p3), (4, .int x4)] dX11_readText_90 (by decide) rfl ?_
    refine li_aload_n 1 dX11_readText_92 rfl ?_
    refine li_getr (k := 0) (N := 13) (T := TX11) (C0 := RX11) dX11_readText_93 (by decide) sh_0 rfl rfl (by decide) (by decide) li_in11 w_473 ?_
    refine li_iconst 0 dX11_readText_96 (by decide) ?_
    refine li_puti (k := 1) (N := 3) (T := TX7) (C0 := RX7) dX11_readText_97 (by decide) sh_1 rfl rfl (by decide) li_in7 tyX7_ok nmX7 rfl rfl rfl rfl w_140 ?_
    refine li_nm (fun M9 eM9 => ?_)
    have hf := li_fr_ui hf (show 1 = 1 ∨ 1 = 166 by omega) eM9
    have mM9_1_1 : (M9.1 1 1).toInt = 0 := by rw [eM9, li_ui_at, if_pos rfl, if_pos rfl]; rfl
    have mM9_1_2 : (M9.1 1 2).toInt = (M7.1 1 2).toInt := by rw [eM9, li_ui_at, if_pos rfl, if_neg (by decide)]
    have k10 : M9.1 1 1 = 0 := by rw [eM9, li_ui_at, if_pos rfl, if_pos rfl]
    refine li_iload 0 dX11_readText_100 rfl ?_
    exact li_iret dX11_readText_102 rfl rfl ⟨⟨_, rfl, (by first | omega | (intro _; omega) | (intro h; exact absurd h (by decide)))⟩, hf⟩
  refine li_icmp_ne 37 dX11_readText_10 (by decide) (fun c3 => ?_) (fun c3 => ?_)
  · have tc3 : ¬ p1.toInt = 4 := tl_ne c3
    refine li_iload_n 1 dX11_readText_37 rfl ?_
    refine li_iconst 5 dX11_readText_38 (by decide) ?_
    refine li_icmp_ne 58 dX11_readText_39 (by decide) (fun c11 => ?_) (fun c11 => ?_)
    · have tc11 : ¬ p1.toInt = 5 := tl_ne c11
      exfalso; omega
    · have tc11 : p1.toInt = 5 := tl_eq c11
      refine li_aload_n 0 dX11_readText_42 rfl ?_
      refine li_getr (k := 10) (N := 13) (T := TX11) (C0 := RX11) dX11_readText_43 (by decide) sh_0 rfl rfl (by decide) (by decide) li_in11 w_483 ?_
      refine li_aload_n 0 dX11_readText_46 rfl ?_
      refine li_getr (k := 0) (N := 13) (T := TX11) (C0 := RX11) dX11_readText_47 (by decide) sh_0 rfl rfl (by decide) (by decide) li_in11 w_473 ?_
      refine li_callV (n := 1) (As := [.ref (Z.2.2 1)]) dX11_readText_50 (k2_X10_readWording (d - 1) (by omega)  M1) (by omega) (Nat.le_of_ble_eq_true rfl) w_653 w_654 w_655 w_108 w_656 (by decide +kernel) rfl (by decide) sh_163 rfl rfl (Nat.le_of_ble_eq_true rfl) (fun r M13 h14 => ?_)
      obtain ⟨⟨x12, rfl, qx12⟩, h14⟩ := h14
      have gx12 := tl_rg x12
      have hf := li_fr_trans hf h14 (fun i (h : i = 1 ∨ i = 166) => (show i = 1 ∨ i = 166 by omega))
      refine li_istore [(4, .int x12), (0, .ref (Z.2.2 0)), (1, .int p1), (2, .int p2), (3, .int p3)] dX11_readText_53 (by decide) rfl ?_
      refine li_goto 80 dX11_readText_55 (by decide) ?_
      refine li_pick [1, 2, 3, 4, 0] [(0, .ref (Z.2.2 0)), (1, .int p1), (2, .int p2), (3, .int p3), (4, .int x12)] rfl ?_
      exact J80 x12 M13 hf (by omega)
  · have tc3 : p1.toInt = 4 := tl_eq c3
    exfalso; omega
set_option maxRecDepth 100000 in
set_option maxHeartbeats 4000000 in
theorem k3_X11_shorter {l : Launch} {Z : li_Z} (d : Nat) (hd : 5 ≤ d) (M0 : li_M) : li_Met l Z YX11_shorter d [.ref (Z.2.2 0)] M0 (fun r M' => (∃ x : Int32, r = some (.int x) ∧ ((M'.1 1 1).toInt = 0)) ∧ li_fr (fun i => i = 1 ∨ i = 166 ∨ i = 167 ∨ i = 168 ∨ i = 169 ∨ i = 170 ∨ i = 3 ∨ i = 4) M0 M') := by
  refine li_enter (by decide +kernel) (Nat.le_of_ble_eq_true rfl) ?_
  show li_T l Z YX11_shorter d 0 [(0, .ref (Z.2.2 0))] [] M0 _
  have hf : li_fr (fun i => i = 1 ∨ i = 166 ∨ i = 167 ∨ i = 168 ∨ i = 169 ∨ i = 170 ∨ i = 3 ∨ i = 4) M0 M0 := li_fr_refl
  refine li_aload_n 0 dX11_shorter_0 rfl ?_
  refine li_iconst 5 dX11_shorter_1 (by decide) ?_
  refine li_bipush 14 dX11_shorter_2 (by decide) ?_
  refine li_bipush 14 dX11_shorter_4 (by decide) ?_
  refine li_callV (n := 3) (As := [.int 5, .int 14, .int 14]) dX11_shorter_6 (k4_X11_readText (d - 1) (by omega) 5 14 14 M0 (by decide) (by decide)) (by omega) (Nat.le_of_ble_eq_true rfl) w_536 w_538 w_0 w_101 w_539 (by decide +kernel) rfl (by decide) sh_0 rfl rfl (Nat.le_of_ble_eq_true rfl) (fun r M2 h3 => ?_)
  have z5 : (5 : Int32).toInt = 5 := rfl
  have z14 : (14 : Int32).toInt = 14 := rfl
  have z14 : (14 : Int32).toInt = 14 := rfl
  obtain ⟨⟨x1, rfl, qx1⟩, h3⟩ := h3
  have gx1 := tl_rg x1
  have hf := li_fr_trans hf h3 (fun i (h : i = 1 ∨ i = 166) => (show i = 1 ∨ i = 166 ∨ i = 167 ∨ i = 168 ∨ i = 169 ∨ i = 170 ∨ i = 3 ∨ i = 4 by omega))
  refine li_istore_n [(1, .int x1), (0, .ref (Z.2.2 0))] dX11_shorter_9 (by decide) rfl ?_
  refine li_iload_n 0 dX11_shorter_10 rfl ?_
  refine li_if_ge 16 dX11_shorter_11 (by decide) (fun c4 => ?_) (fun c4 => ?_)
  · have tc4 : 0 ≤ x1.toInt := tl_le c4
    have z0 : (0 : Int32).toInt = 0 := rfl
    refine li_aload_n 1 dX11_shorter_16 rfl ?_
    refine li_getr (k := 10) (N := 13) (T := TX11) (C0 := RX11) dX11_shorter_17 (by decide) sh_0 rfl rfl (by decide) (by decide) li_in11 w_483 ?_
    refine li_iload_n 0 dX11_shorter_20 rfl ?_
    refine li_callV (n := 1) (As := [.int x1]) dX11_shorter_21 (k_X10_fillMasks (d - 1) (by omega) x1 (by omega) M2) (by omega) (Nat.le_of_ble_eq_true rfl) w_1125 w_1126 w_1127 w_108 w_1128 (by decide +kernel) rfl (by decide) sh_163 rfl rfl (Nat.le_of_ble_eq_true rfl) (fun r M6 h7 => ?_)
    obtain ⟨rfl, h7⟩ := h7
    have hf := li_fr_trans hf h7 (fun i (h : i = 167) => (show i = 1 ∨ i = 166 ∨ i = 167 ∨ i = 168 ∨ i = 169 ∨ i = 170 ∨ i = 3 ∨ i = 4 by omega))
    have mM6_1_1 : (M6.1 1 1).toInt = (M2.1 1 1).toInt := by rw [h7.1 1 (show ¬ (1 = 167) by omega)]
    refine li_aload_n 1 dX11_shorter_24 rfl ?_
    refine li_getr (k := 10) (N := 13) (T := TX11) (C0 := RX11) dX11_shorter_25 (by decide) sh_0 rfl rfl (by decide) (by decide) li_in11 w_483 ?_
    refine li_iload_n 0 dX11_shorter_28 rfl ?_
    refine li_callV (n := 1) (As := [.int x1]) dX11_shorter_29 (k_X10_shorten (d - 1) (by omega) x1 (by omega) M6) (by omega) (Nat.le_of_ble_eq_true rfl) w_1139 w_1140 w_1141 w_108 w_1142 (by decide +kernel) rfl (by decide) sh_163 rfl rfl (Nat.le_of_ble_eq_true rfl) (fun r M9 h10 => ?_)
    obtain ⟨⟨x8, rfl⟩, h10⟩ := h10
    have gx8 := tl_rg x8
    have hf := li_fr_trans hf h10 (fun i (h : i = 168 ∨ i = 169 ∨ i = 170) => (show i = 1 ∨ i = 166 ∨ i = 167 ∨ i = 168 ∨ i = 169 ∨ i = 170 ∨ i = 3 ∨ i = 4 by omega))
    have mM9_1_1 : (M9.1 1 1).toInt = (M6.1 1 1).toInt := by rw [h10.1 1 (show ¬ (1 = 168 ∨ 1 = 169 ∨ 1 = 170) by omega)]
    refine li_istore_n [(2, .int x8), (1, .int x1), (0, .ref (Z.2.2 0))] dX11_shorter_32 (by decide) rfl ?_
    refine li_aload_n 2 dX11_shorter_33 rfl ?_
    refine li_getr (k := 1) (N := 13) (T := TX11) (C0 := RX11) dX11_shorter_34 (by decide) sh_0 rfl rfl (by decide) (by decide) li_in11 w_474 ?_
    refine li_aload_n 2 dX11_shorter_37 rfl ?_
    refine li_getr (k := 10) (N := 13) (T := TX11) (C0 := RX11) dX11_shorter_38 (by decide) sh_0 rfl rfl (by decide) (by decide) li_in11 w_483 ?_
    refine li_getr (k := 5) (N := 8) (T := TX10) (C0 := RX10) dX11_shorter_41 (by decide) sh_163 rfl rfl (by decide) (by decide) li_in10 w_341 ?_
    refine li_iconst 0 dX11_shorter_44 (by decide) ?_
    refine li_iload_n 0 dX11_shorter_45 rfl ?_
    refine li_callV (n := 3) (As := [.ref (Z.2.2 169), .int 0, .int x8]) dX11_shorter_46 (k_X5_tellAll (d - 1) (by omega) (by decide) sh_169 (by decide) 0 x8 M9) (by omega) (Nat.le_of_ble_eq_true rfl) w_1080 w_1081 w_1082 w_103 w_1083 (by decide +kernel) rfl (by decide) sh_3 rfl rfl (Nat.le_of_ble_eq_true rfl) (fun r M12 h13 => ?_)
    obtain ⟨rfl, h13⟩ := h13
    have hf := li_fr_trans hf h13 (fun i (h : i = 3 ∨ i = 4) => (show i = 1 ∨ i = 166 ∨ i = 167 ∨ i = 168 ∨ i = 169 ∨ i = 170 ∨ i = 3 ∨ i = 4 by omega))
    have mM12_1_1 : (M12.1 1 1).toInt = (M9.1 1 1).toInt := by rw [h13.1 1 (show ¬ (1 = 3 ∨ 1 = 4) by omega)]
    refine li_iload_n 0 dX11_shorter_49 rfl ?_
    exact li_iret dX11_shorter_50 rfl rfl ⟨⟨_, rfl, (by first | omega | (intro _; omega) | (intro h; exact absurd h (by decide)))⟩, hf⟩
  · have tc4 : x1.toInt < 0 := tl_nle c4
    have z0 : (0 : Int32).toInt = 0 := rfl
    refine li_iload_n 0 dX11_shorter_14 rfl ?_
    exact li_iret dX11_shorter_15 rfl rfl ⟨⟨_, rfl, (by first | omega | (intro _; omega) | (intro h; exact absurd h (by decide)))⟩, hf⟩
set_option maxRecDepth 100000 in
set_option maxHeartbeats 4000000 in
theorem k3_X11_becomes {l : Launch} {Z : li_Z} (d : Nat) (hd : 5 ≤ d) (M0 : li_M) : li_Met l Z YX11_becomes d [.ref (Z.2.2 0)] M0 (fun r M' => (∃ x : Int32, r = some (.int x) ∧ ((M'.1 1 1).toInt = 0)) ∧ li_fr (fun i => i = 1 ∨ i = 166 ∨ i = 167) M0 M') := by
  refine li_enter (by decide +kernel) (Nat.le_of_ble_eq_true rfl) ?_
  show li_T l Z YX11_becomes d 0 [(0, .ref (Z.2.2 0))] [] M0 _
  have hf : li_fr (fun i => i = 1 ∨ i = 166 ∨ i = 167) M0 M0 := li_fr_refl
  refine li_aload_n 0 dX11_becomes_0 rfl ?_
  refine li_iconst 5 dX11_becomes_1 (by decide) ?_
  refine li_bipush 14 dX11_becomes_2 (by decide) ?_
  refine li_bipush 14 dX11_becomes_4 (by decide) ?_
  refine li_callV (n := 3) (As := [.int 5, .int 14, .int 14]) dX11_becomes_6 (k4_X11_readText (d - 1) (by omega) 5 14 14 M0 (by decide) (by decide)) (by omega) (Nat.le_of_ble_eq_true rfl) w_536 w_538 w_0 w_101 w_539 (by decide +kernel) rfl (by decide) sh_0 rfl rfl (Nat.le_of_ble_eq_true rfl) (fun r M2 h3 => ?_)
  have z5 : (5 : Int32).toInt = 5 := rfl
  have z14 : (14 : Int32).toInt = 14 := rfl
  have z14 : (14 : Int32).toInt = 14 := rfl
  obtain ⟨⟨x1, rfl, qx1⟩, h3⟩ := h3
  have gx1 := tl_rg x1
  have hf := li_fr_trans hf h3 (fun i (h : i = 1 ∨ i = 166) => (show i = 1 ∨ i = 166 ∨ i = 167 by omega))
  refine li_istore_n [(1, .int x1), (0, .ref (Z.2.2 0))] dX11_becomes_9 (by decide) rfl ?_
  refine li_iload_n 0 dX11_becomes_10 rfl ?_
  refine li_if_ge 16 dX11_becomes_11 (by decide) (fun c4 => ?_) (fun c4 => ?_)
  · have tc4 : 0 ≤ x1.toInt := tl_le c4
    have z0 : (0 : Int32).toInt = 0 := rfl
    refine li_aload_n 1 dX11_becomes_16 rfl ?_
    refine li_getr (k := 10) (N := 13) (T := TX11) (C0 := RX11) dX11_becomes_17 (by decide) sh_0 rfl rfl (by decide) (by decide) li_in11 w_483 ?_
    refine li_iload_n 0 dX11_becomes_20 rfl ?_
    refine li_callV (n := 1) (As := [.int x1]) dX11_becomes_21 (k_X10_fillMasks (d - 1) (by omega) x1 (by omega) M2) (by omega) (Nat.le_of_ble_eq_true rfl) w_1125 w_1126 w_1127 w_108 w_1128 (by decide +kernel) rfl (by decide) sh_163 rfl rfl (Nat.le_of_ble_eq_true rfl) (fun r M6 h7 => ?_)
    obtain ⟨rfl, h7⟩ := h7
    have hf := li_fr_trans hf h7 (fun i (h : i = 167) => (show i = 1 ∨ i = 166 ∨ i = 167 by omega))
    have mM6_1_1 : (M6.1 1 1).toInt = (M2.1 1 1).toInt := by rw [h7.1 1 (show ¬ (1 = 167) by omega)]
    refine li_aload_n 1 dX11_becomes_24 rfl ?_
    refine li_getr (k := 10) (N := 13) (T := TX11) (C0 := RX11) dX11_becomes_25 (by decide) sh_0 rfl rfl (by decide) (by decide) li_in11 w_483 ?_
    refine li_iconst 0 dX11_becomes_28 (by decide) ?_
    refine li_iload_n 0 dX11_becomes_29 rfl ?_
    refine li_callV (n := 2) (As := [.int 0, .int x1]) dX11_becomes_30 (k_X10_mask (d - 1) (by omega) 0 x1 M6) (by omega) (Nat.le_of_ble_eq_true rfl) w_1159 w_1135 w_1136 w_108 w_1137 (by decide +kernel) rfl (by decide) sh_163 rfl rfl (Nat.le_of_ble_eq_true rfl) (fun r M9 h10 => ?_)
    obtain ⟨⟨x8, rfl⟩, h10⟩ := h10
    have gx8 := tl_rg x8
    have hf := li_fr_trans hf h10 (fun i h => False.elim h)
    have mM9_1_1 : (M9.1 1 1).toInt = (M6.1 1 1).toInt := by rw [h10.1 1 id]
    exact li_iret dX11_becomes_33 rfl rfl ⟨⟨_, rfl, (by first | omega | (intro _; omega) | (intro h; exact absurd h (by decide)))⟩, hf⟩
  · have tc4 : x1.toInt < 0 := tl_nle c4
    have z0 : (0 : Int32).toInt = 0 := rfl
    refine li_iload_n 0 dX11_becomes_14 rfl ?_
    exact li_iret dX11_becomes_15 rfl rfl ⟨⟨_, rfl, (by first | omega | (intro _; omega) | (intro h; exact absurd h (by decide)))⟩, hf⟩
