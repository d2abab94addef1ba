set_option maxRecDepth 100000 in
set_option maxHeartbeats 4000000 in
theorem k10_X11_readText {l : Launch} {Z : li_Z} (d : Nat) (hdZq : 7 ≤ d) (p1Zq : Int32) (p2Zq : Int32) (p3Zq : Int32) (M0 : li_M) (h1 : 0 ≤ (M0.1 1 1).toInt ∧ (M0.1 1 1).toInt ≤ 80) (Psg_M0 : li_sg (M0.1 2)) (hP5 : 0 ≤ (M0.1 5 0).toInt ∧ (M0.1 5 0).toInt ≤ 6) (h2 : p1Zq.toInt = 1 ∧ p2Zq.toInt ≤ 100 ∧ 0 ≤ p3Zq.toInt ∧ p3Zq.toInt ≤ 100) (MM : Int) (Ptl_M0 : li_tl (M0.1 2) ((M0.1 1 1).toInt) ((M0.1 5 0).toInt) (p2Zq.toInt) (0) (0) (MM)) : li_Met l Z YX11_readText d [.ref (Z.2.2 0), .int p1Zq, .int p2Zq, .int p3Zq] M0 (fun r M' => (∃ x : Int32, r = some (.int x) ∧ ((((M0.1 1 1).toInt = 0 ∧ x.toInt = 0) ∨ (0 < (M0.1 1 1).toInt ∧ (M0.1 1 1).toInt ≤ p3Zq.toInt ∧ 0 < MM ∧ x.toInt = MM) ∨ (0 < (M0.1 1 1).toInt ∧ (p3Zq.toInt < (M0.1 1 1).toInt ∨ MM = -1) ∧ x.toInt < 0)) ∧ (M'.1 1 1).toInt = 0)) ∧ li_fr (fun i => i = 1 ∨ i = 10 ∨ i = 11 ∨ i = 12 ∨ i = 8 ∨ i = 9) M0 M') := by
  refine li_enter (by decide +kernel) (Nat.le_of_ble_eq_true rfl) ?_
  show li_T l Z YX11_readText d 0 [(0, .ref (Z.2.2 0)), (1, .int p1Zq), (2, .int p2Zq), (3, .int p3Zq)] [] M0 _
  have hf : li_fr (fun i => i = 1 ∨ i = 10 ∨ i = 11 ∨ i = 12 ∨ i = 8 ∨ i = 9) M0 M0 := li_fr_refl
  have gp1 := tl_rg p1Zq
  have gp2 := tl_rg p2Zq
  have gp3 := tl_rg p3Zq
  refine li_aload_n 0 dX11_readText_0 rfl ?_
  refine li_getr (k := 0) (N := 13) (T := TX11) (C0 := RX11) dX11_readText_1 (by decide) sh_0 rfl rfl (by decide) (by decide) li_in11 w_473 ?_
  refine li_iconst 0 dX11_readText_4 (by decide) ?_
  refine li_puti (k := 2) (N := 3) (T := TX7) (C0 := RX7) dX11_readText_5 (by decide) sh_1 rfl rfl (by decide) li_in7 tyX7_ok nmX7 rfl rfl rfl rfl w_144 ?_
  refine li_nm (fun M1Zq eM1 => ?_)
  have hf := li_fr_ui hf (show 1 = 1 ∨ 1 = 10 ∨ 1 = 11 ∨ 1 = 12 ∨ 1 = 8 ∨ 1 = 9 by omega) eM1
  have mM1_1_1 : (M1Zq.1 1 1).toInt = (M0.1 1 1).toInt := by rw [eM1, li_ui_at, if_pos rfl, if_neg (by decide)]
  have mM1_1_2 : (M1Zq.1 1 2).toInt = 0 := by rw [eM1, li_ui_at, if_pos rfl, if_pos rfl]; rfl
  have mM1_5_0 : (M1Zq.1 5 0).toInt = (M0.1 5 0).toInt := by rw [eM1, li_ui_at, if_neg (by decide)]
  have Psg_M1 : li_sg (M1Zq.1 2)  := li_sg_tr (li_cell_ui eM1 (by decide))  Psg_M0
  have Ptl_M1 : li_tl (M1Zq.1 2) ((M1Zq.1 1 1).toInt) ((M1Zq.1 5 0).toInt) (p2Zq.toInt) (0) (0) (MM) := li_tl_tr (li_cell_ui eM1 (by decide)) (by omega) (by omega) (by omega) (by omega) (by omega) (by omega) Ptl_M0
  have k2Zq : M1Zq.1 1 2 = 0 := by rw [eM1, li_ui_at, if_pos rfl, if_pos rfl]
  refine li_iload_n 1 dX11_readText_8 rfl ?_
  refine li_iconst 4 dX11_readText_9 (by decide) ?_
  have J80 : ∀ (x4Zq : Int32) (M5Zq : li_M), li_fr (fun i => i = 1 ∨ i = 10 ∨ i = 11 ∨ i = 12 ∨ i = 8 ∨ i = 9) M0 M5Zq → ((((M0.1 1 1).toInt = 0 ∧ (x4Zq : Int32).toInt = 0 ∧ (M5Zq.1 1 2).toInt = 0) ∨ (0 < (M0.1 1 1).toInt ∧ 0 < MM ∧ (x4Zq : Int32).toInt = MM) ∨ (0 < (M0.1 1 1).toInt ∧ MM = -1 ∧ (x4Zq : Int32).toInt = -1)) ∧ (M5Zq.1 1 1).toInt = (M0.1 1 1).toInt ∧ 0 ≤ (M5Zq.1 1 2).toInt ∧ (M5Zq.1 1 2).toInt ≤ (M0.1 1 1).toInt) → li_T l Z YX11_readText d 80 [(0, .ref (Z.2.2 0)), (1, .int p1Zq), (2, .int p2Zq), (3, .int p3Zq), (4, .int x4Zq)] [] M5Zq (fun r M' => (∃ x : Int32, r = some (.int x) ∧ ((((M0.1 1 1).toInt = 0 ∧ x.toInt = 0) ∨ (0 < (M0.1 1 1).toInt ∧ (M0.1 1 1).toInt ≤ p3Zq.toInt ∧ 0 < MM ∧ x.toInt = MM) ∨ (0 < (M0.1 1 1).toInt ∧ (p3Zq.toInt < (M0.1 1 1).toInt ∨ MM = -1) ∧ x.toInt < 0)) ∧ (M'.1 1 1).toInt = 0)) ∧ li_fr (fun i => i = 1 ∨ i = 10 ∨ i = 11 ∨ i = 12 ∨ i = 8 ∨ i = 9) M0 M') := by
    intro x4Zq M5Zq hf hiZq
    have gx4 := tl_rg x4Zq
    refine li_aload_n 0 dX11_readText_80 rfl ?_
    refine li_getr (k := 0) (N := 13) (T := TX11) (C0 := RX11) dX11_readText_81 (by decide) sh_0 rfl rfl (by decide) (by decide) li_in11 w_473 ?_
    refine li_iload 4 dX11_readText_84 rfl ?_
    refine li_iload_n 3 dX11_readText_86 rfl ?_
    refine li_callV (n := 2) (As := [.int x4Zq, .int p3Zq]) dX11_readText_87 (k5_X7_verdict (d - 1) (by omega) x4Zq p3Zq M5Zq (by omega) (by omega)) (by omega) (Nat.le_of_ble_eq_true rfl) w_721 w_722 w_723 w_102 w_724 (by decide +kernel) rfl (by decide) sh_1 rfl rfl (Nat.le_of_ble_eq_true rfl) (fun r M7Zq h8 => ?_)
    obtain ⟨⟨x6, rfl, qx6⟩, h8⟩ := h8
    have gx6 := tl_rg x6
    have hf := li_fr_trans hf h8 (fun i hZq => False.elim hZq)
    have mM7_1_1 : (M7Zq.1 1 1).toInt = (M5Zq.1 1 1).toInt := by rw [h8.1 1 id]
    have mM7_1_2 : (M7Zq.1 1 2).toInt = (M5Zq.1 1 2).toInt := by rw [h8.1 1 id]
    have mM7_5_0 : (M7Zq.1 5 0).toInt = (M5Zq.1 5 0).toInt := by rw [h8.1 5 id]
    refine li_istore [(5, .int x6), (0, .ref (Z.2.2 0)), (1, .int p1Zq), (2, .int p2Zq), (3, .int p3Zq), (4, .int x4Zq)] dX11_readText_90 (by decide) rfl ?_
    refine li_aload_n 1 dX11_readText_92 rfl ?_
    refine li_getr (k := 0) (N := 13) (T := TX11) (C0 := RX11) dX11_readText_93 (by decide) sh_0 rfl rfl (by decide) (by decide) li_in11 w_473 ?_
    refine li_iconst 0 dX11_readText_96 (by decide) ?_
    refine li_puti (k := 1) (N := 3) (T := TX7) (C0 := RX7) dX11_readText_97 (by decide) sh_1 rfl rfl (by decide) li_in7 tyX7_ok nmX7 rfl rfl rfl rfl w_140 ?_
    refine li_nm (fun M9Zq eM9 => ?_)
    have hf := li_fr_ui hf (show 1 = 1 ∨ 1 = 10 ∨ 1 = 11 ∨ 1 = 12 ∨ 1 = 8 ∨ 1 = 9 by omega) eM9
    have mM9_1_1 : (M9Zq.1 1 1).toInt = 0 := by rw [eM9, li_ui_at, if_pos rfl, if_pos rfl]; rfl
    have mM9_1_2 : (M9Zq.1 1 2).toInt = (M7Zq.1 1 2).toInt := by rw [eM9, li_ui_at, if_pos rfl, if_neg (by decide)]
    have mM9_5_0 : (M9Zq.1 5 0).toInt = (M7Zq.1 5 0).toInt := by rw [eM9, li_ui_at, if_neg (by decide)]
    have k10 : M9Zq.1 1 1 = 0 := by rw [eM9, li_ui_at, if_pos rfl, if_pos rfl]
    refine li_iload 0 dX11_readText_100 rfl ?_
    exact li_iret dX11_readText_102 rfl rfl ⟨⟨_, rfl, (by omega)⟩, hf⟩
  refine li_icmp_ne 37 dX11_readText_10 (by decide) (fun c3 => ?_) (fun c3 => ?_)
  · have tc3 : ¬ p1Zq.toInt = 4 := tl_ne c3
    refine li_iload_n 1 dX11_readText_37 rfl ?_
    refine li_iconst 5 dX11_readText_38 (by decide) ?_
    refine li_icmp_ne 58 dX11_readText_39 (by decide) (fun c11Zq => ?_) (fun c11Zq => ?_)
    · have tc11 : ¬ p1Zq.toInt = 5 := tl_ne c11Zq
      refine li_aload_n 0 dX11_readText_58 rfl ?_
      refine li_getr (k := 0) (N := 13) (T := TX11) (C0 := RX11) dX11_readText_59 (by decide) sh_0 rfl rfl (by decide) (by decide) li_in11 w_473 ?_
      refine li_callV (n := 0) (As := []) dX11_readText_62 (k5_X7_atEnd (d - 1) (by omega) M1Zq) (by omega) (Nat.le_of_ble_eq_true rfl) w_663 w_545 w_546 w_102 w_547 (by decide +kernel) rfl (by decide) sh_1 rfl rfl (Nat.le_of_ble_eq_true rfl) (fun r M13 h14 => ?_)
      obtain ⟨⟨x12, rfl, bx12, qx12⟩, h14⟩ := h14
      have ux12 := tl_b bx12
      have hf := li_fr_trans hf h14 (fun i hZq => False.elim hZq)
      have mM13_1_1 : (M13.1 1 1).toInt = (M1Zq.1 1 1).toInt := by rw [h14.1 1 id]
      have mM13_1_2 : (M13.1 1 2).toInt = (M1Zq.1 1 2).toInt := by rw [h14.1 1 id]
      have mM13_5_0 : (M13.1 5 0).toInt = (M1Zq.1 5 0).toInt := by rw [h14.1 5 id]
      have Psg_M13 : li_sg (M13.1 2)  := li_sg_tr (h14.1 2 (fun hZq => by first | exact (hZq : False).elim | omega))  Psg_M1
      have Ptl_M13 : li_tl (M13.1 2) ((M13.1 1 1).toInt) ((M13.1 5 0).toInt) (p2Zq.toInt) (0) (0) (MM) := li_tl_tr (h14.1 2 (fun hZq => by first | exact (hZq : False).elim | omega)) (by omega) (by omega) (by omega) (by omega) (by omega) (by omega) Ptl_M1
      have J78 : ∀ (x16 : Int32) (M17 : li_M), li_fr (fun i => i = 1 ∨ i = 10 ∨ i = 11 ∨ i = 12 ∨ i = 8 ∨ i = 9) M0 M17 → ((((M0.1 1 1).toInt = 0 ∧ (x16 : Int32).toInt = 0 ∧ (M17.1 1 2).toInt = 0) ∨ (0 < (M0.1 1 1).toInt ∧ 0 < MM ∧ (x16 : Int32).toInt = MM) ∨ (0 < (M0.1 1 1).toInt ∧ MM = -1 ∧ (x16 : Int32).toInt = -1)) ∧ (M17.1 1 1).toInt = (M0.1 1 1).toInt ∧ 0 ≤ (M17.1 1 2).toInt ∧ (M17.1 1 2).toInt ≤ (M0.1 1 1).toInt) → li_T l Z YX11_readText d 78 [(0, .ref (Z.2.2 0)), (1, .int p1Zq), (2, .int p2Zq), (3, .int p3Zq)] [.int x16] M17 (fun r M' => (∃ x : Int32, r = some (.int x) ∧ ((((M0.1 1 1).toInt = 0 ∧ x.toInt = 0) ∨ (0 < (M0.1 1 1).toInt ∧ (M0.1 1 1).toInt ≤ p3Zq.toInt ∧ 0 < MM ∧ x.toInt = MM) ∨ (0 < (M0.1 1 1).toInt ∧ (p3Zq.toInt < (M0.1 1 1).toInt ∨ MM = -1) ∧ x.toInt < 0)) ∧ (M'.1 1 1).toInt = 0)) ∧ li_fr (fun i => i = 1 ∨ i = 10 ∨ i = 11 ∨ i = 12 ∨ i = 8 ∨ i = 9) M0 M') := by
        intro x16 M17 hf hiZq
        have gx16 := tl_rg x16
        refine li_istore [(4, .int x16), (0, .ref (Z.2.2 0)), (1, .int p1Zq), (2, .int p2Zq), (3, .int p3Zq)] dX11_readText_78 (by decide) rfl ?_
        refine li_pick [1, 2, 3, 4, 0] [(0, .ref (Z.2.2 0)), (1, .int p1Zq), (2, .int p2Zq), (3, .int p3Zq), (4, .int x16)] rfl ?_
        exact J80 x16 M17 hf (by omega)
      refine li_if_eq 72 dX11_readText_65 (by decide) (fun c15Zq => ?_) (fun c15Zq => ?_)
      · have tc15 : x12.toInt = 0 := tl_eq c15Zq
        refine li_aload_n 0 dX11_readText_72 rfl ?_
        refine li_iload_n 1 dX11_readText_73 rfl ?_
        refine li_iload_n 2 dX11_readText_74 rfl ?_
        refine li_callV (n := 2) (As := [.int p1Zq, .int p2Zq]) dX11_readText_75 (k10_X11_readLines (d - 1) (by omega) p1Zq p2Zq M13 (by omega) Psg_M13 (by omega) (by omega) MM (li_tl_tr rfl (Int.le_antisymm (by omega) (by omega)) (Int.le_antisymm (by omega) (by omega)) (Int.le_antisymm (by omega) (by omega)) (Int.le_antisymm (by omega) (by omega)) rfl rfl Ptl_M13)) (by omega) (Nat.le_of_ble_eq_true rfl) w_664 w_666 w_8 w_101 w_667 (by decide +kernel) rfl (by decide) sh_0 rfl rfl (Nat.le_of_ble_eq_true rfl) (fun r M19 h20 => ?_)
        obtain ⟨⟨x18, rfl, qx18⟩, h20⟩ := h20
        have gx18 := tl_rg x18
        have hf := li_fr_trans hf h20 (fun i (hZq : i = 1 ∨ i = 10 ∨ i = 11 ∨ i = 12 ∨ i = 8 ∨ i = 9) => (show i = 1 ∨ i = 10 ∨ i = 11 ∨ i = 12 ∨ i = 8 ∨ i = 9 by omega))
        have mM19_5_0 : (M19.1 5 0).toInt = (M13.1 5 0).toInt := by rw [h20.1 5 (show ¬ (5 = 1 ∨ 5 = 10 ∨ 5 = 11 ∨ 5 = 12 ∨ 5 = 8 ∨ 5 = 9) by omega)]
        have Psg_M19 : li_sg (M19.1 2)  := li_sg_tr (h20.1 2 (fun hZq => by first | exact (hZq : False).elim | omega))  Psg_M13
        refine li_pick [0, 1, 2, 3] [(0, .ref (Z.2.2 0)), (1, .int p1Zq), (2, .int p2Zq), (3, .int p3Zq)] rfl ?_
        exact J78 x18 M19 hf (by omega)
      · have tc15 : ¬ x12.toInt = 0 := tl_ne c15Zq
        refine li_iconst 0 dX11_readText_68 (by decide) ?_
        refine li_goto 78 dX11_readText_69 (by decide) ?_
        refine li_pick [0, 1, 2, 3] [(0, .ref (Z.2.2 0)), (1, .int p1Zq), (2, .int p2Zq), (3, .int p3Zq)] rfl ?_
        have z0 : (0 : Int32).toInt = 0 := rfl
        exact J78 0 M13 hf (by omega)
    · have tc11 : p1Zq.toInt = 5 := tl_eq c11Zq
      exfalso; omega
  · have tc3 : p1Zq.toInt = 4 := tl_eq c3
    exfalso; omega

