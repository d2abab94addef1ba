set_option maxRecDepth 100000 in
set_option maxHeartbeats 4000000 in
theorem k2_X7_cutTo {l : Launch} {Z : li_Z} (d : Nat) (hd : 1 ≤ d) (p1 : Int32) (M0 : li_M) : li_Met l Z YX7_cutTo d [.ref (Z.2.2 1), .int p1] M0 (fun r M' => (∃ x : Int32, r = some (.int x) ∧ (x = 0 ∨ x = 1) ∧ ((x.toInt = 1 ∧ 0 ≤ p1.toInt ∧ p1.toInt ≤ (M0.1 1 1).toInt ∧ (M'.1 1 1).toInt = p1.toInt) ∨ (x.toInt = 0 ∧ (p1.toInt < 0 ∨ (M0.1 1 1).toInt < p1.toInt) ∧ (M'.1 1 1).toInt = (M0.1 1 1).toInt))) ∧ li_fr (fun i => i = 1) M0 M') := by
  refine li_enter (by decide +kernel) (Nat.le_of_ble_eq_true rfl) ?_
  show li_T l Z YX7_cutTo d 0 [(0, .ref (Z.2.2 1)), (1, .int p1)] [] M0 _
  have hf : li_fr (fun i => i = 1) M0 M0 := li_fr_refl
  have gp1 := tl_rg p1
  refine li_iload_n 1 dX7_cutTo_0 rfl ?_
  refine li_if_lt 12 dX7_cutTo_1 (by decide) (fun c1 => ?_) (fun c1 => ?_)
  · have tc1 : p1.toInt < 0 := tl_lt c1
    have z0 : (0 : Int32).toInt = 0 := rfl
    refine li_iconst 0 dX7_cutTo_12 (by decide) ?_
    have z0 : (0 : Int32).toInt = 0 := rfl
    exact li_iret dX7_cutTo_13 rfl (li_nz (Or.inl rfl)) ⟨⟨_, rfl, Or.inl rfl, (by first | omega | (intro _; omega) | (intro h; exact absurd h (by decide)))⟩, hf⟩
  · have tc1 : 0 ≤ p1.toInt := tl_nlt c1
    have z0 : (0 : Int32).toInt = 0 := rfl
    refine li_iload_n 1 dX7_cutTo_4 rfl ?_
    refine li_aload_n 0 dX7_cutTo_5 rfl ?_
    refine li_geti (k := 1) (N := 3) (T := TX7) (C0 := RX7) dX7_cutTo_6 (by decide) sh_1 rfl rfl (by decide) li_in7 w_139 ?_
    refine li_top (fun x2 ex2 => ?_)
    have gx2 := tl_rg x2
    have vx2 : x2.toInt = (M0.1 1 1).toInt := tl_eq ex2
    refine li_icmp_le 14 dX7_cutTo_9 (by decide) (fun c3 => ?_) (fun c3 => ?_)
    · have tc3 : p1.toInt ≤ x2.toInt := tl_le c3
      refine li_aload_n 0 dX7_cutTo_14 rfl ?_
      refine li_iload_n 1 dX7_cutTo_15 rfl ?_
      refine li_puti (k := 1) (N := 3) (T := TX7) (C0 := RX7) dX7_cutTo_16 (by decide) sh_1 rfl rfl (by decide) li_in7 tyX7_ok nmX7 rfl rfl rfl rfl w_139 ?_
      refine li_nm (fun M4 eM4 => ?_)
      have hf := li_fr_ui hf (show 1 = 1 by omega) eM4
      have mM4_1_1 : (M4.1 1 1).toInt = p1.toInt := by rw [eM4, li_ui_at, if_pos rfl, if_pos rfl]
      have k5 : M4.1 1 1 = p1 := by rw [eM4, li_ui_at, if_pos rfl, if_pos rfl]
      refine li_iconst 1 dX7_cutTo_19 (by decide) ?_
      have z1 : (1 : Int32).toInt = 1 := rfl
      exact li_iret dX7_cutTo_20 rfl (li_nz (Or.inr rfl)) ⟨⟨_, rfl, Or.inr rfl, (by first | omega | (intro _; omega) | (intro h; exact absurd h (by decide)))⟩, hf⟩
    · have tc3 : x2.toInt < p1.toInt := tl_nle c3
      refine li_iconst 0 dX7_cutTo_12 (by decide) ?_
      have z0 : (0 : Int32).toInt = 0 := rfl
      exact li_iret dX7_cutTo_13 rfl (li_nz (Or.inl rfl)) ⟨⟨_, rfl, Or.inl rfl, (by first | omega | (intro _; omega) | (intro h; exact absurd h (by decide)))⟩, hf⟩
set_option maxRecDepth 100000 in
set_option maxHeartbeats 4000000 in
theorem k3_X11_end {l : Launch} {Z : li_Z} (d : Nat) (hd : 2 ≤ d) (p1 : Int32) (M0 : li_M) : li_Met l Z YX11_end d [.ref (Z.2.2 0), .int p1] M0 (fun r M' => (∃ x : Int32, r = some (.int x) ∧ (x = 0 ∨ x = 1) ∧ ((x.toInt = 1 ∧ 0 ≤ p1.toInt ∧ p1.toInt ≤ (M0.1 1 1).toInt ∧ (M'.1 1 1).toInt = p1.toInt) ∨ (x.toInt = 0 ∧ (p1.toInt < 0 ∨ (M0.1 1 1).toInt < p1.toInt) ∧ (M'.1 1 1).toInt = (M0.1 1 1).toInt))) ∧ li_fr (fun i => i = 1) M0 M') := by
  refine li_enter (by decide +kernel) (Nat.le_of_ble_eq_true rfl) ?_
  show li_T l Z YX11_end d 0 [(0, .ref (Z.2.2 0)), (1, .int p1)] [] M0 _
  have hf : li_fr (fun i => i = 1) M0 M0 := li_fr_refl
  have gp1 := tl_rg p1
  refine li_aload_n 0 dX11_end_0 rfl ?_
  refine li_getr (k := 0) (N := 13) (T := TX11) (C0 := RX11) dX11_end_1 (by decide) sh_0 rfl rfl (by decide) (by decide) li_in11 w_473 ?_
  refine li_iload_n 1 dX11_end_4 rfl ?_
  refine li_callV (n := 1) (As := [.int p1]) dX11_end_5 (k2_X7_cutTo (d - 1) (by omega) p1 M0) (by omega) (Nat.le_of_ble_eq_true rfl) w_528 w_529 w_530 w_102 w_531 (by decide +kernel) rfl (by decide) sh_1 rfl rfl (Nat.le_of_ble_eq_true rfl) (fun r M2 h3 => ?_)
  obtain ⟨⟨x1, rfl, bx1, qx1⟩, h3⟩ := h3
  have ux1 := tl_b bx1
  have hf := li_fr_trans hf h3 (fun i (h : i = 1) => (show i = 1 by omega))
  exact li_iret dX11_end_8 rfl (li_nz (bx1)) ⟨⟨_, rfl, bx1, (by first | omega | (intro _; omega) | (intro h; exact absurd h (by decide)))⟩, hf⟩
set_option maxRecDepth 100000 in
set_option maxHeartbeats 4000000 in
theorem k3_X11_readText {l : Launch} {Z : li_Z} (d : Nat) (hd : 35 ≤ d) (p1 : Int32) (p2 : Int32) (p3 : Int32) (M0 : li_M) : li_Met l Z YX11_readText d [.ref (Z.2.2 0), .int p1, .int p2, .int p3] M0 (fun r M' => (∃ x : Int32, r = some (.int x) ∧ ((M'.1 1 1).toInt = 0)) ∧ li_fr (fun i => i = 1 ∨ i = 10 ∨ i = 11 ∨ i = 12 ∨ i = 151 ∨ i = 152 ∨ i = 165 ∨ i = 166 ∨ i = 174 ∨ i = 6 ∨ i = 7 ∨ i = 8 ∨ i = 9) M0 M') := by
  refine li_enter (by decide +kernel) (Nat.le_of_ble_eq_true rfl) ?_
  show li_T l Z YX11_readText d 0 [(0, .ref (Z.2.2 0)), (1, .int p1), (2, .int p2), (3, .int p3)] [] M0 _
  have hf : li_fr (fun i => i = 1 ∨ i = 10 ∨ i = 11 ∨ i = 12 ∨ i = 151 ∨ i = 152 ∨ i = 165 ∨ i = 166 ∨ i = 174 ∨ i = 6 ∨ i = 7 ∨ i = 8 ∨ i = 9) M0 M0 := li_fr_refl
  have gp1 := tl_rg p1
  have gp2 := tl_rg p2
  have gp3 := tl_rg p3
  refine li_aload_n 0 dX11_readText_0 rfl ?_
  refine li_getr (k := 0) (N := 13) (T := TX11) (C0 := RX11) dX11_readText_1 (by decide) sh_0 rfl rfl (by decide) (by decide) li_in11 w_473 ?_
  refine li_iconst 0 dX11_readText_4 (by decide) ?_
  refine li_puti (k := 2) (N := 3) (T := TX7) (C0 := RX7) dX11_readText_5 (by decide) sh_1 rfl rfl (by decide) li_in7 tyX7_ok nmX7 rfl rfl rfl rfl w_144 ?_
  refine li_nm (fun M1 eM1 => ?_)
  have hf := li_fr_ui hf (show 1 = 1 ∨ 1 = 10 ∨ 1 = 11 ∨ 1 = 12 ∨ 1 = 151 ∨ 1 = 152 ∨ 1 = 165 ∨ 1 = 166 ∨ 1 = 174 ∨ 1 = 6 ∨ 1 = 7 ∨ 1 = 8 ∨ 1 = 9 by omega) eM1
  have mM1_1_1 : (M1.1 1 1).toInt = (M0.1 1 1).toInt := by rw [eM1, li_ui_at, if_pos rfl, if_neg (by decide)]
  have k2 : M1.1 1 2 = 0 := by rw [eM1, li_ui_at, if_pos rfl, if_pos rfl]
  refine li_iload_n 1 dX11_readText_8 rfl ?_
  refine li_iconst 4 dX11_readText_9 (by decide) ?_
  have J80 : ∀ (x4 : Int32) (M5 : li_M), li_fr (fun i => i = 1 ∨ i = 10 ∨ i = 11 ∨ i = 12 ∨ i = 151 ∨ i = 152 ∨ i = 165 ∨ i = 166 ∨ i = 174 ∨ i = 6 ∨ i = 7 ∨ i = 8 ∨ i = 9) M0 M5 → li_T l Z YX11_readText d 80 [(0, .ref (Z.2.2 0)), (1, .int p1), (2, .int p2), (3, .int p3), (4, .int x4)] [] M5 (fun r M' => (∃ x : Int32, r = some (.int x) ∧ ((M'.1 1 1).toInt = 0)) ∧ li_fr (fun i => i = 1 ∨ i = 10 ∨ i = 11 ∨ i = 12 ∨ i = 151 ∨ i = 152 ∨ i = 165 ∨ i = 166 ∨ i = 174 ∨ i = 6 ∨ i = 7 ∨ i = 8 ∨ i = 9) M0 M') := by
    intro x4 M5 hf
    have gx4 := tl_rg x4
    refine li_aload_n 0 dX11_readText_80 rfl ?_
    refine li_getr (k := 0) (N := 13) (T := TX11) (C0 := RX11) dX11_readText_81 (by decide) sh_0 rfl rfl (by decide) (by decide) li_in11 w_473 ?_
    refine li_iload 4 dX11_readText_84 rfl ?_
    refine li_iload_n 3 dX11_readText_86 rfl ?_
    refine li_callV (n := 2) (As := [.int x4, .int p3]) dX11_readText_87 (k_X7_verdict (d - 1) (by omega) x4 p3 M5) (by omega) (Nat.le_of_ble_eq_true rfl) w_721 w_722 w_723 w_102 w_724 (by decide +kernel) rfl (by decide) sh_1 rfl rfl (Nat.le_of_ble_eq_true rfl) (fun r M7 h8 => ?_)
    obtain ⟨⟨x6, rfl⟩, h8⟩ := h8
    have gx6 := tl_rg x6
    have hf := li_fr_trans hf h8 (fun i h => False.elim h)
    have mM7_1_1 : (M7.1 1 1).toInt = (M5.1 1 1).toInt := by rw [h8.1 1 id]
    refine li_istore [(5, .int x6), (0, .ref (Z.2.2 0)), (1, .int p1), (2, .int p2), (3, .int p3), (4, .int x4)] dX11_readText_90 (by decide) rfl ?_
    refine li_aload_n 1 dX11_readText_92 rfl ?_
    refine li_getr (k := 0) (N := 13) (T := TX11) (C0 := RX11) dX11_readText_93 (by decide) sh_0 rfl rfl (by decide) (by decide) li_in11 w_473 ?_
    refine li_iconst 0 dX11_readText_96 (by decide) ?_
    refine li_puti (k := 1) (N := 3) (T := TX7) (C0 := RX7) dX11_readText_97 (by decide) sh_1 rfl rfl (by decide) li_in7 tyX7_ok nmX7 rfl rfl rfl rfl w_140 ?_
    refine li_nm (fun M9 eM9 => ?_)
    have hf := li_fr_ui hf (show 1 = 1 ∨ 1 = 10 ∨ 1 = 11 ∨ 1 = 12 ∨ 1 = 151 ∨ 1 = 152 ∨ 1 = 165 ∨ 1 = 166 ∨ 1 = 174 ∨ 1 = 6 ∨ 1 = 7 ∨ 1 = 8 ∨ 1 = 9 by omega) eM9
    have mM9_1_1 : (M9.1 1 1).toInt = 0 := by rw [eM9, li_ui_at, if_pos rfl, if_pos rfl]; rfl
    have k10 : M9.1 1 1 = 0 := by rw [eM9, li_ui_at, if_pos rfl, if_pos rfl]
    refine li_iload 0 dX11_readText_100 rfl ?_
    exact li_iret dX11_readText_102 rfl rfl ⟨⟨_, rfl, (by first | omega | (intro _; omega) | (intro h; exact absurd h (by decide)))⟩, hf⟩
  refine li_icmp_ne 37 dX11_readText_10 (by decide) (fun c3 => ?_) (fun c3 => ?_)
  · have tc3 : ¬ p1.toInt = 4 := tl_ne c3
    refine li_iload_n 1 dX11_readText_37 rfl ?_
    refine li_iconst 5 dX11_readText_38 (by decide) ?_
    refine li_icmp_ne 58 dX11_readText_39 (by decide) (fun c11 => ?_) (fun c11 => ?_)
    · have tc11 : ¬ p1.toInt = 5 := tl_ne c11
      refine li_aload_n 0 dX11_readText_58 rfl ?_
      refine li_getr (k := 0) (N := 13) (T := TX11) (C0 := RX11) dX11_readText_59 (by decide) sh_0 rfl rfl (by decide) (by decide) li_in11 w_473 ?_
      refine li_callV (n := 0) (As := []) dX11_readText_62 (k_X7_atEnd (d - 1) (by omega)  M1) (by omega) (Nat.le_of_ble_eq_true rfl) w_663 w_545 w_546 w_102 w_547 (by decide +kernel) rfl (by decide) sh_1 rfl rfl (Nat.le_of_ble_eq_true rfl) (fun r M13 h14 => ?_)
      obtain ⟨⟨x12, rfl, bx12⟩, h14⟩ := h14
      have ux12 := tl_b bx12
      have hf := li_fr_trans hf h14 (fun i h => False.elim h)
      have mM13_1_1 : (M13.1 1 1).toInt = (M1.1 1 1).toInt := by rw [h14.1 1 id]
      have J78 : ∀ (x16 : Int32) (M17 : li_M), li_fr (fun i => i = 1 ∨ i = 10 ∨ i = 11 ∨ i = 12 ∨ i = 151 ∨ i = 152 ∨ i = 165 ∨ i = 166 ∨ i = 174 ∨ i = 6 ∨ i = 7 ∨ i = 8 ∨ i = 9) M0 M17 → li_T l Z YX11_readText d 78 [(0, .ref (Z.2.2 0)), (1, .int p1), (2, .int p2), (3, .int p3)] [.int x16] M17 (fun r M' => (∃ x : Int32, r = some (.int x) ∧ ((M'.1 1 1).toInt = 0)) ∧ li_fr (fun i => i = 1 ∨ i = 10 ∨ i = 11 ∨ i = 12 ∨ i = 151 ∨ i = 152 ∨ i = 165 ∨ i = 166 ∨ i = 174 ∨ i = 6 ∨ i = 7 ∨ i = 8 ∨ i = 9) M0 M') := by
        intro x16 M17 hf
        have gx16 := tl_rg x16
        refine li_istore [(4, .int x16), (0, .ref (Z.2.2 0)), (1, .int p1), (2, .int p2), (3, .int p3)] dX11_readText_78 (by decide) rfl ?_
        refine li_pick [1, 2, 3, 4, 0] [(0, .ref (Z.2.2 0)), (1, .int p1), (2, .int p2), (3, .int p3), (4, .int x16)] rfl ?_
        exact J80 x16 M17 hf
      refine li_if_eq 72 dX11_readText_65 (by decide) (fun c15 => ?_) (fun c15 => ?_)
      · have tc15 : x12.toInt = 0 := tl_eq c15
        refine li_aload_n 0 dX11_readText_72 rfl ?_
        refine li_iload_n 1 dX11_readText_73 rfl ?_
        refine li_iload_n 2 dX11_readText_74 rfl ?_
        refine li_callV (n := 2) (As := [.int p1, .int p2]) dX11_readText_75 (k_X11_readLines (d - 1) (by omega) p1 p2 M13) (by omega) (Nat.le_of_ble_eq_true rfl) w_664 w_666 w_8 w_101 w_667 (by decide +kernel) rfl (by decide) sh_0 rfl rfl (Nat.le_of_ble_eq_true rfl) (fun r M19 h20 => ?_)
        obtain ⟨⟨x18, rfl⟩, h20⟩ := h20
        have gx18 := tl_rg x18
        have hf := li_fr_trans hf h20 (fun i (h : i = 1 ∨ i = 10 ∨ i = 11 ∨ i = 12 ∨ i = 165 ∨ i = 174 ∨ i = 6 ∨ i = 7 ∨ i = 8 ∨ i = 9) => (show i = 1 ∨ i = 10 ∨ i = 11 ∨ i = 12 ∨ i = 151 ∨ i = 152 ∨ i = 165 ∨ i = 166 ∨ i = 174 ∨ i = 6 ∨ i = 7 ∨ i = 8 ∨ i = 9 by omega))
        refine li_pick [0, 1, 2, 3] [(0, .ref (Z.2.2 0)), (1, .int p1), (2, .int p2), (3, .int p3)] rfl ?_
        exact J78 x18 M19 hf
      · have tc15 : ¬ x12.toInt = 0 := tl_ne c15
        refine li_iconst 0 dX11_readText_68 (by decide) ?_
        refine li_goto 78 dX11_readText_69 (by decide) ?_
        refine li_pick [0, 1, 2, 3] [(0, .ref (Z.2.2 0)), (1, .int p1), (2, .int p2), (3, .int p3)] rfl ?_
        have z0 : (0 : Int32).toInt = 0 := rfl
        exact J78 0 M13 hf
    · have tc11 : p1.toInt = 5 := tl_eq c11
      refine li_aload_n 0 dX11_readText_42 rfl ?_
      refine li_getr (k := 10) (N := 13) (T := TX11) (C0 := RX11) dX11_readText_43 (by decide) sh_0 rfl rfl (by decide) (by decide) li_in11 w_483 ?_
      refine li_aload_n 0 dX11_readText_46 rfl ?_
      refine li_getr (k := 0) (N := 13) (T := TX11) (C0 := RX11) dX11_readText_47 (by decide) sh_0 rfl rfl (by decide) (by decide) li_in11 w_473 ?_
      refine li_callV (n := 1) (As := [.ref (Z.2.2 1)]) dX11_readText_50 (k_X10_readWording (d - 1) (by omega)  M1) (by omega) (Nat.le_of_ble_eq_true rfl) w_653 w_654 w_655 w_108 w_656 (by decide +kernel) rfl (by decide) sh_163 rfl rfl (Nat.le_of_ble_eq_true rfl) (fun r M22 h23 => ?_)
      obtain ⟨⟨x21, rfl⟩, h23⟩ := h23
      have gx21 := tl_rg x21
      have hf := li_fr_trans hf h23 (fun i (h : i = 1 ∨ i = 166) => (show i = 1 ∨ i = 10 ∨ i = 11 ∨ i = 12 ∨ i = 151 ∨ i = 152 ∨ i = 165 ∨ i = 166 ∨ i = 174 ∨ i = 6 ∨ i = 7 ∨ i = 8 ∨ i = 9 by omega))
      refine li_istore [(4, .int x21), (0, .ref (Z.2.2 0)), (1, .int p1), (2, .int p2), (3, .int p3)] dX11_readText_53 (by decide) rfl ?_
      refine li_goto 80 dX11_readText_55 (by decide) ?_
      refine li_pick [1, 2, 3, 4, 0] [(0, .ref (Z.2.2 0)), (1, .int p1), (2, .int p2), (3, .int p3), (4, .int x21)] rfl ?_
      exact J80 x21 M22 hf
  · have tc3 : p1.toInt = 4 := tl_eq c3
    refine li_aload_n 0 dX11_readText_13 rfl ?_
    refine li_getr (k := 6) (N := 13) (T := TX11) (C0 := RX11) dX11_readText_14 (by decide) sh_0 rfl rfl (by decide) (by decide) li_in11 w_479 ?_
    refine li_aload_n 0 dX11_readText_17 rfl ?_
    refine li_getr (k := 0) (N := 13) (T := TX11) (C0 := RX11) dX11_readText_18 (by decide) sh_0 rfl rfl (by decide) (by decide) li_in11 w_473 ?_
    refine li_callV (n := 1) (As := [.ref (Z.2.2 1)]) dX11_readText_21 (k_X6_readAll (d - 1) (by omega) rub_151 M1) (by omega) (Nat.le_of_ble_eq_true rfl) w_540 w_541 w_542 w_107 w_543 (by decide +kernel) rfl (by decide) sh_151 rfl rfl (Nat.le_of_ble_eq_true rfl) (fun r M25 h26 => ?_)
    obtain ⟨⟨x24, rfl, bx24⟩, h26⟩ := h26
    have ux24 := tl_b bx24
    have hf := li_fr_trans hf h26 (fun i (h : i = 151 ∨ i = 152 ∨ i = 1) => (show i = 1 ∨ i = 10 ∨ i = 11 ∨ i = 12 ∨ i = 151 ∨ i = 152 ∨ i = 165 ∨ i = 166 ∨ i = 174 ∨ i = 6 ∨ i = 7 ∨ i = 8 ∨ i = 9 by omega))
    have J32 : ∀ (x28 : Int32) (M29 : li_M), li_fr (fun i => i = 1 ∨ i = 10 ∨ i = 11 ∨ i = 12 ∨ i = 151 ∨ i = 152 ∨ i = 165 ∨ i = 166 ∨ i = 174 ∨ i = 6 ∨ i = 7 ∨ i = 8 ∨ i = 9) M0 M29 → li_T l Z YX11_readText d 32 [(0, .ref (Z.2.2 0)), (1, .int p1), (2, .int p2), (3, .int p3)] [.int x28] M29 (fun r M' => (∃ x : Int32, r = some (.int x) ∧ ((M'.1 1 1).toInt = 0)) ∧ li_fr (fun i => i = 1 ∨ i = 10 ∨ i = 11 ∨ i = 12 ∨ i = 151 ∨ i = 152 ∨ i = 165 ∨ i = 166 ∨ i = 174 ∨ i = 6 ∨ i = 7 ∨ i = 8 ∨ i = 9) M0 M') := by
      intro x28 M29 hf
      have gx28 := tl_rg x28
      refine li_istore [(4, .int x28), (0, .ref (Z.2.2 0)), (1, .int p1), (2, .int p2), (3, .int p3)] dX11_readText_32 (by decide) rfl ?_
      refine li_goto 80 dX11_readText_34 (by decide) ?_
      refine li_pick [1, 2, 3, 4, 0] [(0, .ref (Z.2.2 0)), (1, .int p1), (2, .int p2), (3, .int p3), (4, .int x28)] rfl ?_
      exact J80 x28 M29 hf
    refine li_if_eq 31 dX11_readText_24 (by decide) (fun c27 => ?_) (fun c27 => ?_)
    · have tc27 : x24.toInt = 0 := tl_eq c27
      refine li_iconst (-1) dX11_readText_31 (by decide) ?_
      refine li_pick [0, 1, 2, 3] [(0, .ref (Z.2.2 0)), (1, .int p1), (2, .int p2), (3, .int p3)] rfl ?_
      have zm1 : ((-1) : Int32).toInt = -1 := rfl
      exact J32 (-1) M25 hf
    · have tc27 : ¬ x24.toInt = 0 := tl_ne c27
      refine li_iconst 0 dX11_readText_27 (by decide) ?_
      refine li_goto 32 dX11_readText_28 (by decide) ?_
      refine li_pick [0, 1, 2, 3] [(0, .ref (Z.2.2 0)), (1, .int p1), (2, .int p2), (3, .int p3)] rfl ?_
      have z0 : (0 : Int32).toInt = 0 := rfl
      exact J32 0 M25 hf
set_option maxRecDepth 100000 in
set_option maxHeartbeats 4000000 in
theorem k3_X11_rule {l : Launch} {Z : li_Z} (d : Nat) (hd : 36 ≤ d) (M0 : li_M) : li_Met l Z YX11_rule d [.ref (Z.2.2 0)] M0 (fun r M' => (∃ x : Int32, r = some (.int x) ∧ ((M'.1 1 1).toInt = 0)) ∧ li_fr (fun i => i = 1 ∨ i = 10 ∨ i = 11 ∨ i = 12 ∨ i = 144 ∨ i = 145 ∨ i = 151 ∨ i = 152 ∨ i = 165 ∨ i = 166 ∨ i = 174 ∨ i = 6 ∨ i = 7 ∨ i = 8 ∨ i = 9) M0 M') := by
  refine li_enter (by decide +kernel) (Nat.le_of_ble_eq_true rfl) ?_
  show li_T l Z YX11_rule d 0 [(0, .ref (Z.2.2 0))] [] M0 _
  have hf : li_fr (fun i => i = 1 ∨ i = 10 ∨ i = 11 ∨ i = 12 ∨ i = 144 ∨ i = 145 ∨ i = 151 ∨ i = 152 ∨ i = 165 ∨ i = 166 ∨ i = 174 ∨ i = 6 ∨ i = 7 ∨ i = 8 ∨ i = 9) M0 M0 := li_fr_refl
  refine li_aload_n 0 dX11_rule_0 rfl ?_
  refine li_iconst 4 dX11_rule_1 (by decide) ?_
  refine li_iconst 0 dX11_rule_2 (by decide) ?_
  refine li_bipush 40 dX11_rule_3 (by decide) ?_
  refine li_callV (n := 3) (As := [.int 4, .int 0, .int 40]) dX11_rule_5 (k3_X11_readText (d - 1) (by omega) 4 0 40 M0) (by omega) (Nat.le_of_ble_eq_true rfl) w_536 w_538 w_0 w_101 w_539 (by decide +kernel) rfl (by decide) sh_0 rfl rfl (Nat.le_of_ble_eq_true rfl) (fun r M2 h3 => ?_)
  have z4 : (4 : Int32).toInt = 4 := rfl
  have z0 : (0 : Int32).toInt = 0 := rfl
  have z40 : (40 : Int32).toInt = 40 := rfl
  obtain ⟨⟨x1, rfl, qx1⟩, h3⟩ := h3
  have gx1 := tl_rg x1
  have hf := li_fr_trans hf h3 (fun i (h : i = 1 ∨ i = 10 ∨ i = 11 ∨ i = 12 ∨ i = 151 ∨ i = 152 ∨ i = 165 ∨ i = 166 ∨ i = 174 ∨ i = 6 ∨ i = 7 ∨ i = 8 ∨ i = 9) => (show i = 1 ∨ i = 10 ∨ i = 11 ∨ i = 12 ∨ i = 144 ∨ i = 145 ∨ i = 151 ∨ i = 152 ∨ i = 165 ∨ i = 166 ∨ i = 174 ∨ i = 6 ∨ i = 7 ∨ i = 8 ∨ i = 9 by omega))
  refine li_istore_n [(1, .int x1), (0, .ref (Z.2.2 0))] dX11_rule_8 (by decide) rfl ?_
  refine li_iload_n 0 dX11_rule_9 rfl ?_
  refine li_if_lt 24 dX11_rule_10 (by decide) (fun c4 => ?_) (fun c4 => ?_)
  · have tc4 : x1.toInt < 0 := tl_lt c4
    refine li_iload_n 0 dX11_rule_24 rfl ?_
    exact li_iret dX11_rule_25 rfl rfl ⟨⟨_, rfl, (by first | omega | (intro _; omega) | (intro h; exact absurd h (by decide)))⟩, hf⟩
  · have tc4 : 0 ≤ x1.toInt := tl_nlt c4
    refine li_aload_n 1 dX11_rule_13 rfl ?_
    refine li_getr (k := 5) (N := 13) (T := TX11) (C0 := RX11) dX11_rule_14 (by decide) sh_0 rfl rfl (by decide) (by decide) li_in11 w_478 ?_
    refine li_aload_n 1 dX11_rule_17 rfl ?_
    refine li_getr (k := 6) (N := 13) (T := TX11) (C0 := RX11) dX11_rule_18 (by decide) sh_0 rfl rfl (by decide) (by decide) li_in11 w_479 ?_
    refine li_callV (n := 1) (As := [.ref (Z.2.2 151)]) dX11_rule_21 (k_X6_copyFrom (d - 1) (by omega)  M2) (by omega) (Nat.le_of_ble_eq_true rfl) w_747 w_748 w_749 w_107 w_750 (by decide +kernel) rfl (by decide) sh_144 rfl rfl (Nat.le_of_ble_eq_true rfl) (fun r M6 h7 => ?_)
    obtain ⟨rfl, h7⟩ := h7
    have hf := li_fr_trans hf h7 (fun i (h : i = 144 ∨ i = 145) => (show i = 1 ∨ i = 10 ∨ i = 11 ∨ i = 12 ∨ i = 144 ∨ i = 145 ∨ i = 151 ∨ i = 152 ∨ i = 165 ∨ i = 166 ∨ i = 174 ∨ i = 6 ∨ i = 7 ∨ i = 8 ∨ i = 9 by omega))
    have mM6_1_1 : (M6.1 1 1).toInt = (M2.1 1 1).toInt := by rw [h7.1 1 (show ¬ (1 = 144 ∨ 1 = 145) by omega)]
    refine li_iload_n 0 dX11_rule_24 rfl ?_
    exact li_iret dX11_rule_25 rfl rfl ⟨⟨_, rfl, (by first | omega | (intro _; omega) | (intro h; exact absurd h (by decide)))⟩, hf⟩
set_option maxRecDepth 100000 in
set_option maxHeartbeats 4000000 in
theorem k3_X11_grammar {l : Launch} {Z : li_Z} (d : Nat) (hd : 36 ≤ d) (M0 : li_M) : li_Met l Z YX11_grammar d [.ref (Z.2.2 0)] M0 (fun r M' => (∃ x : Int32, r = some (.int x) ∧ ((M'.1 1 1).toInt = 0)) ∧ li_fr (fun i => i = 1 ∨ i = 10 ∨ i = 11 ∨ i = 12 ∨ i = 151 ∨ i = 152 ∨ i = 163 ∨ i = 164 ∨ i = 165 ∨ i = 166 ∨ i = 174 ∨ i = 6 ∨ i = 7 ∨ i = 8 ∨ i = 9) M0 M') := by
  refine li_enter (by decide +kernel) (Nat.le_of_ble_eq_true rfl) ?_
  show li_T l Z YX11_grammar d 0 [(0, .ref (Z.2.2 0))] [] M0 _
  have hf : li_fr (fun i => i = 1 ∨ i = 10 ∨ i = 11 ∨ i = 12 ∨ i = 151 ∨ i = 152 ∨ i = 163 ∨ i = 164 ∨ i = 165 ∨ i = 166 ∨ i = 174 ∨ i = 6 ∨ i = 7 ∨ i = 8 ∨ i = 9) M0 M0 := li_fr_refl
  refine li_aload_n 0 dX11_grammar_0 rfl ?_
  refine li_iconst 3 dX11_grammar_1 (by decide) ?_
  refine li_bipush 10 dX11_grammar_2 (by decide) ?_
  refine li_bipush 80 dX11_grammar_4 (by decide) ?_
  refine li_callV (n := 3) (As := [.int 3, .int 10, .int 80]) dX11_grammar_6 (k3_X11_readText (d - 1) (by omega) 3 10 80 M0) (by omega) (Nat.le_of_ble_eq_true rfl) w_536 w_538 w_0 w_101 w_539 (by decide +kernel) rfl (by decide) sh_0 rfl rfl (Nat.le_of_ble_eq_true rfl) (fun r M2 h3 => ?_)
  have z3 : (3 : Int32).toInt = 3 := rfl
  have z10 : (10 : Int32).toInt = 10 := rfl
  have z80 : (80 : Int32).toInt = 80 := rfl
  obtain ⟨⟨x1, rfl, qx1⟩, h3⟩ := h3
  have gx1 := tl_rg x1
  have hf := li_fr_trans hf h3 (fun i (h : i = 1 ∨ i = 10 ∨ i = 11 ∨ i = 12 ∨ i = 151 ∨ i = 152 ∨ i = 165 ∨ i = 166 ∨ i = 174 ∨ i = 6 ∨ i = 7 ∨ i = 8 ∨ i = 9) => (show i = 1 ∨ i = 10 ∨ i = 11 ∨ i = 12 ∨ i = 151 ∨ i = 152 ∨ i = 163 ∨ i = 164 ∨ i = 165 ∨ i = 166 ∨ i = 174 ∨ i = 6 ∨ i = 7 ∨ i = 8 ∨ i = 9 by omega))
  refine li_istore_n [(1, .int x1), (0, .ref (Z.2.2 0))] dX11_grammar_9 (by decide) rfl ?_
  refine li_iload_n 0 dX11_grammar_10 rfl ?_
  refine li_if_lt 22 dX11_grammar_11 (by decide) (fun c4 => ?_) (fun c4 => ?_)
  · have tc4 : x1.toInt < 0 := tl_lt c4
    refine li_iload_n 0 dX11_grammar_22 rfl ?_
    exact li_iret dX11_grammar_23 rfl rfl ⟨⟨_, rfl, (by first | omega | (intro _; omega) | (intro h; exact absurd h (by decide)))⟩, hf⟩
  · have tc4 : 0 ≤ x1.toInt := tl_nlt c4
    refine li_aload_n 1 dX11_grammar_14 rfl ?_
    refine li_getr (k := 10) (N := 13) (T := TX11) (C0 := RX11) dX11_grammar_15 (by decide) sh_0 rfl rfl (by decide) (by decide) li_in11 w_483 ?_
    refine li_iload_n 0 dX11_grammar_18 rfl ?_
    refine li_callV (n := 1) (As := [.int x1]) dX11_grammar_19 (k_X10_adopt (d - 1) (by omega) x1 M2) (by omega) (Nat.le_of_ble_eq_true rfl) w_1116 w_1117 w_1118 w_108 w_1119 (by decide +kernel) rfl (by decide) sh_163 rfl rfl (Nat.le_of_ble_eq_true rfl) (fun r M6 h7 => ?_)
    obtain ⟨rfl, h7⟩ := h7
    have hf := li_fr_trans hf h7 (fun i (h : i = 163 ∨ i = 164) => (show i = 1 ∨ i = 10 ∨ i = 11 ∨ i = 12 ∨ i = 151 ∨ i = 152 ∨ i = 163 ∨ i = 164 ∨ i = 165 ∨ i = 166 ∨ i = 174 ∨ i = 6 ∨ i = 7 ∨ i = 8 ∨ i = 9 by omega))
    have mM6_1_1 : (M6.1 1 1).toInt = (M2.1 1 1).toInt := by rw [h7.1 1 (show ¬ (1 = 163 ∨ 1 = 164) by omega)]
    refine li_iload_n 0 dX11_grammar_22 rfl ?_
    exact li_iret dX11_grammar_23 rfl rfl ⟨⟨_, rfl, (by first | omega | (intro _; omega) | (intro h; exact absurd h (by decide)))⟩, hf⟩
set_option maxRecDepth 100000 in
set_option maxHeartbeats 4000000 in
theorem k3_X11_rate {l : Launch} {Z : li_Z} (d : Nat) (hd : 36 ≤ d) (M0 : li_M) : li_Met l Z YX11_rate d [.ref (Z.2.2 0)] M0 (fun r M' => (∃ x : Int32, r = some (.int x) ∧ ((M'.1 1 1).toInt = 0)) ∧ li_fr (fun i => i = 1 ∨ i = 10 ∨ i = 11 ∨ i = 12 ∨ i = 146 ∨ i = 147 ∨ i = 148 ∨ i = 149 ∨ i = 150 ∨ i = 151 ∨ i = 152 ∨ i = 153 ∨ i = 154 ∨ i = 155 ∨ i = 156 ∨ i = 157 ∨ i = 165 ∨ i = 166 ∨ i = 174 ∨ i = 3 ∨ i = 4 ∨ i = 6 ∨ i = 7 ∨ i = 8 ∨ i = 9) M0 M') := by
  refine li_enter (by decide +kernel) (Nat.le_of_ble_eq_true rfl) ?_
  show li_T l Z YX11_rate d 0 [(0, .ref (Z.2.2 0))] [] M0 _
  have hf : li_fr (fun i => i = 1 ∨ i = 10 ∨ i = 11 ∨ i = 12 ∨ i = 146 ∨ i = 147 ∨ i = 148 ∨ i = 149 ∨ i = 150 ∨ i = 151 ∨ i = 152 ∨ i = 153 ∨ i = 154 ∨ i = 155 ∨ i = 156 ∨ i = 157 ∨ i = 165 ∨ i = 166 ∨ i = 174 ∨ i = 3 ∨ i = 4 ∨ i = 6 ∨ i = 7 ∨ i = 8 ∨ i = 9) M0 M0 := li_fr_refl
  refine li_aload_n 0 dX11_rate_0 rfl ?_
  refine li_iconst 4 dX11_rate_1 (by decide) ?_
  refine li_iconst 0 dX11_rate_2 (by decide) ?_
  refine li_bipush 40 dX11_rate_3 (by decide) ?_
  refine li_callV (n := 3) (As := [.int 4, .int 0, .int 40]) dX11_rate_5 (k3_X11_readText (d - 1) (by omega) 4 0 40 M0) (by omega) (Nat.le_of_ble_eq_true rfl) w_536 w_538 w_0 w_101 w_539 (by decide +kernel) rfl (by decide) sh_0 rfl rfl (Nat.le_of_ble_eq_true rfl) (fun r M2 h3 => ?_)
  have z4 : (4 : Int32).toInt = 4 := rfl
  have z0 : (0 : Int32).toInt = 0 := rfl
  have z40 : (40 : Int32).toInt = 40 := rfl
  obtain ⟨⟨x1, rfl, qx1⟩, h3⟩ := h3
  have gx1 := tl_rg x1
  have hf := li_fr_trans hf h3 (fun i (h : i = 1 ∨ i = 10 ∨ i = 11 ∨ i = 12 ∨ i = 151 ∨ i = 152 ∨ i = 165 ∨ i = 166 ∨ i = 174 ∨ i = 6 ∨ i = 7 ∨ i = 8 ∨ i = 9) => (show i = 1 ∨ i = 10 ∨ i = 11 ∨ i = 12 ∨ i = 146 ∨ i = 147 ∨ i = 148 ∨ i = 149 ∨ i = 150 ∨ i = 151 ∨ i = 152 ∨ i = 153 ∨ i = 154 ∨ i = 155 ∨ i = 156 ∨ i = 157 ∨ i = 165 ∨ i = 166 ∨ i = 174 ∨ i = 3 ∨ i = 4 ∨ i = 6 ∨ i = 7 ∨ i = 8 ∨ i = 9 by omega))
  refine li_istore_n [(1, .int x1), (0, .ref (Z.2.2 0))] dX11_rate_8 (by decide) rfl ?_
  refine li_iload_n 0 dX11_rate_9 rfl ?_
  refine li_if_ge 19 dX11_rate_10 (by decide) (fun c4 => ?_) (fun c4 => ?_)
  · have tc4 : 0 ≤ x1.toInt := tl_le c4
    refine li_aload_n 1 dX11_rate_19 rfl ?_
    refine li_aload_n 1 dX11_rate_20 rfl ?_
    refine li_getr (k := 8) (N := 13) (T := TX11) (C0 := RX11) dX11_rate_21 (by decide) sh_0 rfl rfl (by decide) (by decide) li_in11 w_481 ?_
    refine li_callV (n := 1) (As := [.ref (Z.2.2 155)]) dX11_rate_24 (k_X11_bestOfAll (d - 1) (by omega) cob_155 M2) (by omega) (Nat.le_of_ble_eq_true rfl) w_1232 w_1234 w_39 w_101 w_1235 (by decide +kernel) rfl (by decide) sh_0 rfl rfl (Nat.le_of_ble_eq_true rfl) (fun r M6 h7 => ?_)
    obtain ⟨⟨x5, rfl⟩, h7⟩ := h7
    have gx5 := tl_rg x5
    have hf := li_fr_trans hf h7 (fun i (h : i = 155 ∨ i = 156 ∨ i = 157 ∨ i = 153 ∨ i = 154) => (show i = 1 ∨ i = 10 ∨ i = 11 ∨ i = 12 ∨ i = 146 ∨ i = 147 ∨ i = 148 ∨ i = 149 ∨ i = 150 ∨ i = 151 ∨ i = 152 ∨ i = 153 ∨ i = 154 ∨ i = 155 ∨ i = 156 ∨ i = 157 ∨ i = 165 ∨ i = 166 ∨ i = 174 ∨ i = 3 ∨ i = 4 ∨ i = 6 ∨ i = 7 ∨ i = 8 ∨ i = 9 by omega))
    have mM6_1_1 : (M6.1 1 1).toInt = (M2.1 1 1).toInt := by rw [h7.1 1 (show ¬ (1 = 155 ∨ 1 = 156 ∨ 1 = 157 ∨ 1 = 153 ∨ 1 = 154) by omega)]
    refine li_istore_n [(2, .int x5), (1, .int x1), (0, .ref (Z.2.2 0))] dX11_rate_27 (by decide) rfl ?_
    refine li_aload_n 2 dX11_rate_28 rfl ?_
    refine li_aload_n 2 dX11_rate_29 rfl ?_
    refine li_getr (k := 7) (N := 13) (T := TX11) (C0 := RX11) dX11_rate_30 (by decide) sh_0 rfl rfl (by decide) (by decide) li_in11 w_480 ?_
    refine li_callV (n := 1) (As := [.ref (Z.2.2 148)]) dX11_rate_33 (k_X11_bestOfAll (d - 1) (by omega) cob_148 M6) (by omega) (Nat.le_of_ble_eq_true rfl) w_1232 w_1234 w_39 w_101 w_1235 (by decide +kernel) rfl (by decide) sh_0 rfl rfl (Nat.le_of_ble_eq_true rfl) (fun r M9 h10 => ?_)
    obtain ⟨⟨x8, rfl⟩, h10⟩ := h10
    have gx8 := tl_rg x8
    have hf := li_fr_trans hf h10 (fun i (h : i = 148 ∨ i = 149 ∨ i = 150 ∨ i = 146 ∨ i = 147) => (show i = 1 ∨ i = 10 ∨ i = 11 ∨ i = 12 ∨ i = 146 ∨ i = 147 ∨ i = 148 ∨ i = 149 ∨ i = 150 ∨ i = 151 ∨ i = 152 ∨ i = 153 ∨ i = 154 ∨ i = 155 ∨ i = 156 ∨ i = 157 ∨ i = 165 ∨ i = 166 ∨ i = 174 ∨ i = 3 ∨ i = 4 ∨ i = 6 ∨ i = 7 ∨ i = 8 ∨ i = 9 by omega))
    have mM9_1_1 : (M9.1 1 1).toInt = (M6.1 1 1).toInt := by rw [h10.1 1 (show ¬ (1 = 148 ∨ 1 = 149 ∨ 1 = 150 ∨ 1 = 146 ∨ 1 = 147) by omega)]
    refine li_istore_n [(3, .int x8), (2, .int x5), (1, .int x1), (0, .ref (Z.2.2 0))] dX11_rate_36 (by decide) rfl ?_
    refine li_aload_n 3 dX11_rate_37 rfl ?_
    refine li_getr (k := 1) (N := 13) (T := TX11) (C0 := RX11) dX11_rate_38 (by decide) sh_0 rfl rfl (by decide) (by decide) li_in11 w_474 ?_
    refine li_iload_n 1 dX11_rate_41 rfl ?_
    refine li_iload_n 0 dX11_rate_42 rfl ?_
    refine li_callV (n := 2) (As := [.int x5, .int x8]) dX11_rate_43 (k_X5_tellTwo (d - 1) (by omega) x5 x8 M9) (by omega) (Nat.le_of_ble_eq_true rfl) w_951 w_952 w_953 w_103 w_954 (by decide +kernel) rfl (by decide) sh_3 rfl rfl (Nat.le_of_ble_eq_true rfl) (fun r M12 h13 => ?_)
    obtain ⟨rfl, h13⟩ := h13
    have hf := li_fr_trans hf h13 (fun i (h : i = 3 ∨ i = 4) => (show i = 1 ∨ i = 10 ∨ i = 11 ∨ i = 12 ∨ i = 146 ∨ i = 147 ∨ i = 148 ∨ i = 149 ∨ i = 150 ∨ i = 151 ∨ i = 152 ∨ i = 153 ∨ i = 154 ∨ i = 155 ∨ i = 156 ∨ i = 157 ∨ i = 165 ∨ i = 166 ∨ i = 174 ∨ i = 3 ∨ i = 4 ∨ i = 6 ∨ i = 7 ∨ i = 8 ∨ i = 9 by omega))
    have mM12_1_1 : (M12.1 1 1).toInt = (M9.1 1 1).toInt := by rw [h13.1 1 (show ¬ (1 = 3 ∨ 1 = 4) by omega)]
    refine li_iload_n 1 dX11_rate_46 rfl ?_
    refine li_iload_n 0 dX11_rate_47 rfl ?_
    refine li_isub dX11_rate_48 ?_
    refine li_top (fun x14 ex14 => ?_)
    have tx14 : (-2147483648 ≤ x5.toInt - x8.toInt ∧ x5.toInt - x8.toInt ≤ 2147483647) → x14.toInt = x5.toInt - x8.toInt := tl_sub ex14
    exact li_iret dX11_rate_49 rfl rfl ⟨⟨_, rfl, (by first | omega | (intro _; omega) | (intro h; exact absurd h (by decide)))⟩, hf⟩
  · have tc4 : x1.toInt < 0 := tl_nle c4
    refine li_iload_n 0 dX11_rate_13 rfl ?_
    refine li_sipush 9999 dX11_rate_14 (by decide) ?_
    refine li_isub dX11_rate_17 ?_
    refine li_top (fun x15 ex15 => ?_)
    have tx15 : (-2147483648 ≤ x1.toInt - 9999 ∧ x1.toInt - 9999 ≤ 2147483647) → x15.toInt = x1.toInt - 9999 := tl_sub ex15
    exact li_iret dX11_rate_18 rfl rfl ⟨⟨_, rfl, (by first | omega | (intro _; omega) | (intro h; exact absurd h (by decide)))⟩, hf⟩

set_option maxRecDepth 100000 in
set_option maxHeartbeats 4000000 in
theorem k4_X11_readText {l : Launch} {Z : li_Z} (d : Nat) (hd : 4 ≤ d) (p1 : Int32) (p2 : Int32) (p3 : Int32) (M0 : li_M) (h1 : p1.toInt = 5) (h3 : 0 ≤ p3.toInt ∧ p3.toInt ≤ 100) : li_Met l Z YX11_readText d [.ref (Z.2.2 0), .int p1, .int p2, .int p3] M0 (fun r M' => (∃ x : Int32, r = some (.int x) ∧ (x.toInt ≤ 80 ∧ ((M'.1 1 1).toInt = 0))) ∧ li_fr (fun i => i = 1 ∨ i = 166) M0 M') := by
  refine li_enter (by decide +kernel) (Nat.le_of_ble_eq_true rfl) ?_
  show li_T l Z YX11_readText d 0 [(0, .ref (Z.2.2 0)), (1, .int p1), (2, .int p2), (3, .int p3)] [] M0 _
  have hf : li_fr (fun i => i = 1 ∨ i = 166) M0 M0 := li_fr_refl
  have gp1 := tl_rg p1
  have gp2 := tl_rg p2
  have gp3 := tl_rg p3
  refine li_aload_n 0 dX11_readText_0 rfl ?_
  refine li_getr (k := 0) (N := 13) (T := TX11) (C0 := RX11) dX11_readText_1 (by decide) sh_0 rfl rfl (by decide) (by decide) li_in11 w_473 ?_
  refine li_iconst 0 dX11_readText_4 (by decide) ?_
  refine li_puti (k := 2) (N := 3) (T := TX7) (C0 := RX7) dX11_readText_5 (by decide) sh_1 rfl rfl (by decide) li_in7 tyX7_ok nmX7 rfl rfl rfl rfl w_144 ?_
  refine li_nm (fun M1 eM1 => ?_)
  have hf := li_fr_ui hf (show 1 = 1 ∨ 1 = 166 by omega) eM1
  have mM1_1_1 : (M1.1 1 1).toInt = (M0.1 1 1).toInt := by rw [eM1, li_ui_at, if_pos rfl, if_neg (by decide)]
  have mM1_1_2 : (M1.1 1 2).toInt = 0 := by rw [eM1, li_ui_at, if_pos rfl, if_pos rfl]; rfl
  have k2 : M1.1 1 2 = 0 := by rw [eM1, li_ui_at, if_pos rfl, if_pos rfl]
  refine li_iload_n 1 dX11_readText_8 rfl ?_
  refine li_iconst 4 dX11_readText_9 (by decide) ?_
  have J80 : ∀ (x4 : Int32) (M5 : li_M), li_fr (fun i => i = 1 ∨ i = 166) M0 M5 → (x4 : Int32).toInt ≤ 80 ∧ 0 ≤ (M5.1 1 2).toInt → li_T l Z YX11_readText d 80 [(0, .ref (Z.2.2 0)), (1, .int p1), (2, .int p2), (3, .int p3), (4, .int x4)] [] M5 (fun r M' => (∃ x : Int32, r = some (.int x) ∧ (x.toInt ≤ 80 ∧ ((M'.1 1 1).toInt = 0))) ∧ li_fr (fun i => i = 1 ∨ i = 166) M0 M') := by
    intro x4 M5 hf hi
    have gx4 := tl_rg x4
    refine li_aload_n 0 dX11_readText_80 rfl ?_
    refine li_getr (k := 0) (N := 13) (T := TX11) (C0 := RX11) dX11_readText_81 (by decide) sh_0 rfl rfl (by decide) (by decide) li_in11 w_473 ?_
    refine li_iload 4 dX11_readText_84 rfl ?_
    refine li_iload_n 3 dX11_readText_86 rfl ?_
    refine li_callV (n := 2) (As := [.int x4, .int p3]) dX11_readText_87 (k2_X7_verdict (d - 1) (by omega) x4 p3 M5 (by omega) (by omega)) (by omega) (Nat.le_of_ble_eq_true rfl) w_721 w_722 w_723 w_102 w_724 (by decide +kernel) rfl (by decide) sh_1 rfl rfl (Nat.le_of_ble_eq_true rfl) (fun r M7 h8 => ?_)
    obtain ⟨⟨x6, rfl, qx6⟩, h8⟩ := h8
    have gx6 := tl_rg x6
    have hf := li_fr_trans hf h8 (fun i h => False.elim h)
    have mM7_1_1 : (M7.1 1 1).toInt = (M5.1 1 1).toInt := by rw [h8.1 1 id]
    have mM7_1_2 : (M7.1 1 2).toInt = (M5.1 1 2).toInt := by rw [h8.1 1 id]
    refine li_istore [(5, .int x6), (0, .ref (Z.2.2 0)), (1, .int p1), (2, .int p2), (3, .int p3), (4, .int x4)] dX11_readText_90 (by decide) rfl ?_
    refine li_aload_n 1 dX11_readText_92 rfl ?_
    refine li_getr (k := 0) (N := 13) (T := TX11) (C0 := RX11) dX11_readText_93 (by decide) sh_0 rfl rfl (by decide) (by decide) li_in11 w_473 ?_
    refine li_iconst 0 dX11_readText_96 (by decide) ?_
    refine li_puti (k := 1) (N := 3) (T := TX7) (C0 := RX7) dX11_readText_97 (by decide) sh_1 rfl rfl (by decide) li_in7 tyX7_ok nmX7 rfl rfl rfl rfl w_140 ?_
    refine li_nm (fun M9 eM9 => ?_)
    have hf := li_fr_ui hf (show 1 = 1 ∨ 1 = 166 by omega) eM9
    have mM9_1_1 : (M9.1 1 1).toInt = 0 := by rw [eM9, li_ui_at, if_pos rfl, if_pos rfl]; rfl
    have mM9_1_2 : (M9.1 1 2).toInt = (M7.1 1 2).toInt := by rw [eM9, li_ui_at, if_pos rfl, if_neg (by decide)]
    have k10 : M9.1 1 1 = 0 := by rw [eM9, li_ui_at, if_pos rfl, if_pos rfl]
    refine li_iload 0 dX11_readText_100 rfl ?_
    exact li_iret dX11_readText_102 rfl rfl ⟨⟨_, rfl, (by first | omega | (intro _; omega) | (intro h; exact absurd h (by decide)))⟩, hf⟩
  refine li_icmp_ne 37 dX11_readText_10 (by decide) (fun c3 => ?_) (fun c3 => ?_)
  · have tc3 : ¬ p1.toInt = 4 := tl_ne c3
    refine li_iload_n 1 dX11_readText_37 rfl ?_
    refine li_iconst 5 dX11_readText_38 (by decide) ?_
    refine li_icmp_ne 58 dX11_readText_39 (by decide) (fun c11 => ?_) (fun c11 => ?_)
    · have tc11 : ¬ p1.toInt = 5 := tl_ne c11
      exfalso; omega
    · have tc11 : p1.toInt = 5 := tl_eq c11
      refine li_aload_n 0 dX11_readText_42 rfl ?_
      refine li_getr (k := 10) (N := 13) (T := TX11) (C0 := RX11) dX11_readText_43 (by decide) sh_0 rfl rfl (by decide) (by decide) li_in11 w_483 ?_
      refine li_aload_n 0 dX11_readText_46 rfl ?_
      refine li_getr (k := 0) (N := 13) (T := TX11) (C0 := RX11) dX11_readText_47 (by decide) sh_0 rfl rfl (by decide) (by decide) li_in11 w_473 ?_
      refine li_callV (n := 1) (As := [.ref (Z.2.2 1)]) dX11_readText_50 (k2_X10_readWording (d - 1) (by omega)  M1) (by omega) (Nat.le_of_ble_eq_true rfl) w_653 w_654 w_655 w_108 w_656 (by decide +kernel) rfl (by decide) sh_163 rfl rfl (Nat.le_of_ble_eq_true rfl) (fun r M13 h14 => ?_)
      obtain ⟨⟨x12, rfl, qx12⟩, h14⟩ := h14
      have gx12 := tl_rg x12
      have hf := li_fr_trans hf h14 (fun i (h : i = 1 ∨ i = 166) => (show i = 1 ∨ i = 166 by omega))
      refine li_istore [(4, .int x12), (0, .ref (Z.2.2 0)), (1, .int p1), (2, .int p2), (3, .int p3)] dX11_readText_53 (by decide) rfl ?_
      refine li_goto 80 dX11_readText_55 (by decide) ?_
      refine li_pick [1, 2, 3, 4, 0] [(0, .ref (Z.2.2 0)), (1, .int p1), (2, .int p2), (3, .int p3), (4, .int x12)] rfl ?_
      exact J80 x12 M13 hf (by omega)
  · have tc3 : p1.toInt = 4 := tl_eq c3
    exfalso; omega
set_option maxRecDepth 100000 in
set_option maxHeartbeats 4000000 in
theorem k3_X11_shorter {l : Launch} {Z : li_Z} (d : Nat) (hd : 5 ≤ d) (M0 : li_M) : li_Met l Z YX11_shorter d [.ref (Z.2.2 0)] M0 (fun r M' => (∃ x : Int32, r = some (.int x) ∧ ((M'.1 1 1).toInt = 0)) ∧ li_fr (fun i => i = 1 ∨ i = 166 ∨ i = 167 ∨ i = 168 ∨ i = 169 ∨ i = 170 ∨ i = 3 ∨ i = 4) M0 M') := by
  refine li_enter (by decide +kernel) (Nat.le_of_ble_eq_true rfl) ?_
  show li_T l Z YX11_shorter d 0 [(0, .ref (Z.2.2 0))] [] M0 _
  have hf : li_fr (fun i => i = 1 ∨ i = 166 ∨ i = 167 ∨ i = 168 ∨ i = 169 ∨ i = 170 ∨ i = 3 ∨ i = 4) M0 M0 := li_fr_refl
  refine li_aload_n 0 dX11_shorter_0 rfl ?_
  refine li_iconst 5 dX11_shorter_1 (by decide) ?_
  refine li_bipush 14 dX11_shorter_2 (by decide) ?_
  refine li_bipush 14 dX11_shorter_4 (by decide) ?_
  refine li_callV (n := 3) (As := [.int 5, .int 14, .int 14]) dX11_shorter_6 (k4_X11_readText (d - 1) (by omega) 5 14 14 M0 (by decide) (by decide)) (by omega) (Nat.le_of_ble_eq_true rfl) w_536 w_538 w_0 w_101 w_539 (by decide +kernel) rfl (by decide) sh_0 rfl rfl (Nat.le_of_ble_eq_true rfl) (fun r M2 h3 => ?_)
  have z5 : (5 : Int32).toInt = 5 := rfl
  have z14 : (14 : Int32).toInt = 14 := rfl
  have z14 : (14 : Int32).toInt = 14 := rfl
  obtain ⟨⟨x1, rfl, qx1⟩, h3⟩ := h3
  have gx1 := tl_rg x1
  have hf := li_fr_trans hf h3 (fun i (h : i = 1 ∨ i = 166) => (show i = 1 ∨ i = 166 ∨ i = 167 ∨ i = 168 ∨ i = 169 ∨ i = 170 ∨ i = 3 ∨ i = 4 by omega))
  refine li_istore_n [(1, .int x1), (0, .ref (Z.2.2 0))] dX11_shorter_9 (by decide) rfl ?_
  refine li_iload_n 0 dX11_shorter_10 rfl ?_
  refine li_if_ge 16 dX11_shorter_11 (by decide) (fun c4 => ?_) (fun c4 => ?_)
  · have tc4 : 0 ≤ x1.toInt := tl_le c4
    have z0 : (0 : Int32).toInt = 0 := rfl
    refine li_aload_n 1 dX11_shorter_16 rfl ?_
    refine li_getr (k := 10) (N := 13) (T := TX11) (C0 := RX11) dX11_shorter_17 (by decide) sh_0 rfl rfl (by decide) (by decide) li_in11 w_483 ?_
    refine li_iload_n 0 dX11_shorter_20 rfl ?_
    refine li_callV (n := 1) (As := [.int x1]) dX11_shorter_21 (k_X10_fillMasks (d - 1) (by omega) x1 (by omega) M2) (by omega) (Nat.le_of_ble_eq_true rfl) w_1125 w_1126 w_1127 w_108 w_1128 (by decide +kernel) rfl (by decide) sh_163 rfl rfl (Nat.le_of_ble_eq_true rfl) (fun r M6 h7 => ?_)
    obtain ⟨rfl, h7⟩ := h7
    have hf := li_fr_trans hf h7 (fun i (h : i = 167) => (show i = 1 ∨ i = 166 ∨ i = 167 ∨ i = 168 ∨ i = 169 ∨ i = 170 ∨ i = 3 ∨ i = 4 by omega))
    have mM6_1_1 : (M6.1 1 1).toInt = (M2.1 1 1).toInt := by rw [h7.1 1 (show ¬ (1 = 167) by omega)]
    refine li_aload_n 1 dX11_shorter_24 rfl ?_
    refine li_getr (k := 10) (N := 13) (T := TX11) (C0 := RX11) dX11_shorter_25 (by decide) sh_0 rfl rfl (by decide) (by decide) li_in11 w_483 ?_
    refine li_iload_n 0 dX11_shorter_28 rfl ?_
    refine li_callV (n := 1) (As := [.int x1]) dX11_shorter_29 (k_X10_shorten (d - 1) (by omega) x1 (by omega) M6) (by omega) (Nat.le_of_ble_eq_true rfl) w_1139 w_1140 w_1141 w_108 w_1142 (by decide +kernel) rfl (by decide) sh_163 rfl rfl (Nat.le_of_ble_eq_true rfl) (fun r M9 h10 => ?_)
    obtain ⟨⟨x8, rfl⟩, h10⟩ := h10
    have gx8 := tl_rg x8
    have hf := li_fr_trans hf h10 (fun i (h : i = 168 ∨ i = 169 ∨ i = 170) => (show i = 1 ∨ i = 166 ∨ i = 167 ∨ i = 168 ∨ i = 169 ∨ i = 170 ∨ i = 3 ∨ i = 4 by omega))
    have mM9_1_1 : (M9.1 1 1).toInt = (M6.1 1 1).toInt := by rw [h10.1 1 (show ¬ (1 = 168 ∨ 1 = 169 ∨ 1 = 170) by omega)]
    refine li_istore_n [(2, .int x8), (1, .int x1), (0, .ref (Z.2.2 0))] dX11_shorter_32 (by decide) rfl ?_
    refine li_aload_n 2 dX11_shorter_33 rfl ?_
    refine li_getr (k := 1) (N := 13) (T := TX11) (C0 := RX11) dX11_shorter_34 (by decide) sh_0 rfl rfl (by decide) (by decide) li_in11 w_474 ?_
    refine li_aload_n 2 dX11_shorter_37 rfl ?_
    refine li_getr (k := 10) (N := 13) (T := TX11) (C0 := RX11) dX11_shorter_38 (by decide) sh_0 rfl rfl (by decide) (by decide) li_in11 w_483 ?_
    refine li_getr (k := 5) (N := 8) (T := TX10) (C0 := RX10) dX11_shorter_41 (by decide) sh_163 rfl rfl (by decide) (by decide) li_in10 w_341 ?_
    refine li_iconst 0 dX11_shorter_44 (by decide) ?_
    refine li_iload_n 0 dX11_shorter_45 rfl ?_
    refine li_callV (n := 3) (As := [.ref (Z.2.2 169), .int 0, .int x8]) dX11_shorter_46 (k_X5_tellAll (d - 1) (by omega) (by decide) sh_169 (by decide) 0 x8 M9) (by omega) (Nat.le_of_ble_eq_true rfl) w_1080 w_1081 w_1082 w_103 w_1083 (by decide +kernel) rfl (by decide) sh_3 rfl rfl (Nat.le_of_ble_eq_true rfl) (fun r M12 h13 => ?_)
    obtain ⟨rfl, h13⟩ := h13
    have hf := li_fr_trans hf h13 (fun i (h : i = 3 ∨ i = 4) => (show i = 1 ∨ i = 166 ∨ i = 167 ∨ i = 168 ∨ i = 169 ∨ i = 170 ∨ i = 3 ∨ i = 4 by omega))
    have mM12_1_1 : (M12.1 1 1).toInt = (M9.1 1 1).toInt := by rw [h13.1 1 (show ¬ (1 = 3 ∨ 1 = 4) by omega)]
    refine li_iload_n 0 dX11_shorter_49 rfl ?_
    exact li_iret dX11_shorter_50 rfl rfl ⟨⟨_, rfl, (by first | omega | (intro _; omega) | (intro h; exact absurd h (by decide)))⟩, hf⟩
  · have tc4 : x1.toInt < 0 := tl_nle c4
    have z0 : (0 : Int32).toInt = 0 := rfl
    refine li_iload_n 0 dX11_shorter_14 rfl ?_
    exact li_iret dX11_shorter_15 rfl rfl ⟨⟨_, rfl, (by first | omega | (intro _; omega) | (intro h; exact absurd h (by decide)))⟩, hf⟩
set_option maxRecDepth 100000 in
set_option maxHeartbeats 4000000 in
theorem k3_X11_becomes {l : Launch} {Z : li_Z} (d : Nat) (hd : 5 ≤ d) (M0 : li_M) : li_Met l Z YX11_becomes d [.ref (Z.2.2 0)] M0 (fun r M' => (∃ x : Int32, r = some (.int x) ∧ ((M'.1 1 1).toInt = 0)) ∧ li_fr (fun i => i = 1 ∨ i = 166 ∨ i = 167) M0 M') := by
  refine li_enter (by decide +kernel) (Nat.le_of_ble_eq_true rfl) ?_
  show li_T l Z YX11_becomes d 0 [(0, .ref (Z.2.2 0))] [] M0 _
  have hf : li_fr (fun i => i = 1 ∨ i = 166 ∨ i = 167) M0 M0 := li_fr_refl
  refine li_aload_n 0 dX11_becomes_0 rfl ?_
  refine li_iconst 5 dX11_becomes_1 (by decide) ?_
  refine li_bipush 14 dX11_becomes_2 (by decide) ?_
  refine li_bipush 14 dX11_becomes_4 (by decide) ?_
  refine li_callV (n := 3) (As := [.int 5, .int 14, .int 14]) dX11_becomes_6 (k4_X11_readText (d - 1) (by omega) 5 14 14 M0 (by decide) (by decide)) (by omega) (Nat.le_of_ble_eq_true rfl) w_536 w_538 w_0 w_101 w_539 (by decide +kernel) rfl (by decide) sh_0 rfl rfl (Nat.le_of_ble_eq_true rfl) (fun r M2 h3 => ?_)
  have z5 : (5 : Int32).toInt = 5 := rfl
  have z14 : (14 : Int32).toInt = 14 := rfl
  have z14 : (14 : Int32).toInt = 14 := rfl
  obtain ⟨⟨x1, rfl, qx1⟩, h3⟩ := h3
  have gx1 := tl_rg x1
  have hf := li_fr_trans hf h3 (fun i (h : i = 1 ∨ i = 166) => (show i = 1 ∨ i = 166 ∨ i = 167 by omega))
  refine li_istore_n [(1, .int x1), (0, .ref (Z.2.2 0))] dX11_becomes_9 (by decide) rfl ?_
  refine li_iload_n 0 dX11_becomes_10 rfl ?_
  refine li_if_ge 16 dX11_becomes_11 (by decide) (fun c4 => ?_) (fun c4 => ?_)
  · have tc4 : 0 ≤ x1.toInt := tl_le c4
    have z0 : (0 : Int32).toInt = 0 := rfl
    refine li_aload_n 1 dX11_becomes_16 rfl ?_
    refine li_getr (k := 10) (N := 13) (T := TX11) (C0 := RX11) dX11_becomes_17 (by decide) sh_0 rfl rfl (by decide) (by decide) li_in11 w_483 ?_
    refine li_iload_n 0 dX11_becomes_20 rfl ?_
    refine li_callV (n := 1) (As := [.int x1]) dX11_becomes_21 (k_X10_fillMasks (d - 1) (by omega) x1 (by omega) M2) (by omega) (Nat.le_of_ble_eq_true rfl) w_1125 w_1126 w_1127 w_108 w_1128 (by decide +kernel) rfl (by decide) sh_163 rfl rfl (Nat.le_of_ble_eq_true rfl) (fun r M6 h7 => ?_)
    obtain ⟨rfl, h7⟩ := h7
    have hf := li_fr_trans hf h7 (fun i (h : i = 167) => (show i = 1 ∨ i = 166 ∨ i = 167 by omega))
    have mM6_1_1 : (M6.1 1 1).toInt = (M2.1 1 1).toInt := by rw [h7.1 1 (show ¬ (1 = 167) by omega)]
    refine li_aload_n 1 dX11_becomes_24 rfl ?_
    refine li_getr (k := 10) (N := 13) (T := TX11) (C0 := RX11) dX11_becomes_25 (by decide) sh_0 rfl rfl (by decide) (by decide) li_in11 w_483 ?_
    refine li_iconst 0 dX11_becomes_28 (by decide) ?_
    refine li_iload_n 0 dX11_becomes_29 rfl ?_
    refine li_callV (n := 2) (As := [.int 0, .int x1]) dX11_becomes_30 (k_X10_mask (d - 1) (by omega) 0 x1 M6) (by omega) (Nat.le_of_ble_eq_true rfl) w_1159 w_1135 w_1136 w_108 w_1137 (by decide +kernel) rfl (by decide) sh_163 rfl rfl (Nat.le_of_ble_eq_true rfl) (fun r M9 h10 => ?_)
    obtain ⟨⟨x8, rfl⟩, h10⟩ := h10
    have gx8 := tl_rg x8
    have hf := li_fr_trans hf h10 (fun i h => False.elim h)
    have mM9_1_1 : (M9.1 1 1).toInt = (M6.1 1 1).toInt := by rw [h10.1 1 id]
    exact li_iret dX11_becomes_33 rfl rfl ⟨⟨_, rfl, (by first | omega | (intro _; omega) | (intro h; exact absurd h (by decide)))⟩, hf⟩
  · have tc4 : x1.toInt < 0 := tl_nle c4
    have z0 : (0 : Int32).toInt = 0 := rfl
    refine li_iload_n 0 dX11_becomes_14 rfl ?_
    exact li_iret dX11_becomes_15 rfl rfl ⟨⟨_, rfl, (by first | omega | (intro _; omega) | (intro h; exact absurd h (by decide)))⟩, hf⟩
