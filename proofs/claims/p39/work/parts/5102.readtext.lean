set_option maxRecDepth 100000 in
set_option maxHeartbeats 4000000 in
theorem k5_X11_readText {l : Launch} {Z : li_Z} (d : Nat) (hd : 6 ≤ d) (p1 : Int32) (p2 : Int32) (p3 : Int32) (M0 : li_M) (h1 : 0 ≤ (M0.1 1 1).toInt ∧ (M0.1 1 1).toInt ≤ 80) (Psg_M0 : li_sg (M0.1 2)) (h2 : p1.toInt = 0 ∧ p2.toInt ≤ 100 ∧ 0 ≤ p3.toInt ∧ p3.toInt ≤ 100) (OK QQ MM : Int) (Ppq_M0 : li_pq (M0.1 2) ((M0.1 1 1).toInt) (p2.toInt) (0) (0) (OK) (QQ) (MM)) : li_Met l Z YX11_readText d [.ref (Z.2.2 0), .int p1, .int p2, .int p3] M0 (fun r M' => (∃ x : Int32, r = some (.int x) ∧ ((((M0.1 1 1).toInt = 0 ∧ x.toInt = 0) ∨ (0 < (M0.1 1 1).toInt ∧ OK = 1 ∧ (M0.1 1 1).toInt ≤ p3.toInt ∧ x.toInt = MM ∧ 0 ≤ MM ∧ MM ≤ 100) ∨ (0 < (M0.1 1 1).toInt ∧ OK = 1 ∧ p3.toInt < (M0.1 1 1).toInt ∧ x.toInt = -1 - p3.toInt) ∨ (0 < (M0.1 1 1).toInt ∧ OK = 0 ∧ 0 ≤ QQ ∧ QQ ≤ p3.toInt ∧ x.toInt = -1 - QQ) ∨ (0 < (M0.1 1 1).toInt ∧ OK = 0 ∧ p3.toInt < QQ ∧ x.toInt = -1 - p3.toInt)) ∧ (M'.1 1 1).toInt = 0)) ∧ li_fr (fun i => i = 1 ∨ i = 6 ∨ i = 7) M0 M') := by
  refine li_enter (by decide +kernel) (Nat.le_of_ble_eq_true rfl) ?_
  show li_T l Z YX11_readText d 0 [(0, .ref (Z.2.2 0)), (1, .int p1), (2, .int p2), (3, .int p3)] [] M0 _
  have hf : li_fr (fun i => i = 1 ∨ i = 6 ∨ i = 7) M0 M0 := li_fr_refl
  have gp1 := tl_rg p1
  have gp2 := tl_rg p2
  have gp3 := tl_rg p3
  refine li_aload_n 0 dX11_readText_0 rfl ?_
  refine li_getr (k := 0) (N := 13) (T := TX11) (C0 := RX11) dX11_readText_1 (by decide) sh_0 rfl rfl (by decide) (by decide) li_in11 w_473 ?_
  refine li_iconst 0 dX11_readText_4 (by decide) ?_
  refine li_puti (k := 2) (N := 3) (T := TX7) (C0 := RX7) dX11_readText_5 (by decide) sh_1 rfl rfl (by decide) li_in7 tyX7_ok nmX7 rfl rfl rfl rfl w_144 ?_
  refine li_nm (fun M1 eM1 => ?_)
  have hf := li_fr_ui hf (show 1 = 1 ∨ 1 = 6 ∨ 1 = 7 by omega) eM1
  have mM1_1_1 : (M1.1 1 1).toInt = (M0.1 1 1).toInt := by rw [eM1, li_ui_at, if_pos rfl, if_neg (by decide)]
  have mM1_1_2 : (M1.1 1 2).toInt = 0 := by rw [eM1, li_ui_at, if_pos rfl, if_pos rfl]; rfl
  have Psg_M1 : li_sg (M1.1 2)  := li_sg_tr (li_cell_ui eM1 (by decide))  Psg_M0
  have Ppq_M1 : li_pq (M1.1 2) ((M1.1 1 1).toInt) (p2.toInt) (0) (0) (OK) (QQ) (MM) := li_pq_tr (li_cell_ui eM1 (by decide)) (by omega) (by omega) (by omega) (by omega) (by omega) (by omega) (by omega) Ppq_M0
  have k2 : M1.1 1 2 = 0 := by rw [eM1, li_ui_at, if_pos rfl, if_pos rfl]
  refine li_iload_n 1 dX11_readText_8 rfl ?_
  refine li_iconst 4 dX11_readText_9 (by decide) ?_
  have J80 : ∀ (x4 : Int32) (M5 : li_M), li_fr (fun i => i = 1 ∨ i = 6 ∨ i = 7) M0 M5 → ((((M0.1 1 1).toInt = 0 ∧ (x4 : Int32).toInt = 0 ∧ (M5.1 1 2).toInt = 0) ∨ (0 < (M0.1 1 1).toInt ∧ OK = 1 ∧ (x4 : Int32).toInt = MM ∧ 0 ≤ MM ∧ MM ≤ 100 ∧ (M5.1 1 2).toInt = QQ) ∨ (0 < (M0.1 1 1).toInt ∧ OK = 0 ∧ (x4 : Int32).toInt = -1 ∧ (M5.1 1 2).toInt = QQ)) ∧ (M5.1 1 1).toInt = (M0.1 1 1).toInt ∧ 0 ≤ (M5.1 1 2).toInt ∧ (M5.1 1 2).toInt ≤ (M0.1 1 1).toInt) → li_T l Z YX11_readText d 80 [(0, .ref (Z.2.2 0)), (1, .int p1), (2, .int p2), (3, .int p3), (4, .int x4)] [] M5 (fun r M' => (∃ x : Int32, r = some (.int x) ∧ ((((M0.1 1 1).toInt = 0 ∧ x.toInt = 0) ∨ (0 < (M0.1 1 1).toInt ∧ OK = 1 ∧ (M0.1 1 1).toInt ≤ p3.toInt ∧ x.toInt = MM ∧ 0 ≤ MM ∧ MM ≤ 100) ∨ (0 < (M0.1 1 1).toInt ∧ OK = 1 ∧ p3.toInt < (M0.1 1 1).toInt ∧ x.toInt = -1 - p3.toInt) ∨ (0 < (M0.1 1 1).toInt ∧ OK = 0 ∧ 0 ≤ QQ ∧ QQ ≤ p3.toInt ∧ x.toInt = -1 - QQ) ∨ (0 < (M0.1 1 1).toInt ∧ OK = 0 ∧ p3.toInt < QQ ∧ x.toInt = -1 - p3.toInt)) ∧ (M'.1 1 1).toInt = 0)) ∧ li_fr (fun i => i = 1 ∨ i = 6 ∨ i = 7) M0 M') := by
    intro x4 M5 hf hi
    have gx4 := tl_rg x4
    refine li_aload_n 0 dX11_readText_80 rfl ?_
    refine li_getr (k := 0) (N := 13) (T := TX11) (C0 := RX11) dX11_readText_81 (by decide) sh_0 rfl rfl (by decide) (by decide) li_in11 w_473 ?_
    refine li_iload 4 dX11_readText_84 rfl ?_
    refine li_iload_n 3 dX11_readText_86 rfl ?_
    refine li_callV (n := 2) (As := [.int x4, .int p3]) dX11_readText_87 (k5_X7_verdict (d - 1) (by omega) x4 p3 M5 (by omega) (by omega)) (by omega) (Nat.le_of_ble_eq_true rfl) w_721 w_722 w_723 w_102 w_724 (by decide +kernel) rfl (by decide) sh_1 rfl rfl (Nat.le_of_ble_eq_true rfl) (fun r M7 h8 => ?_)
    obtain ⟨⟨x6, rfl, qx6⟩, h8⟩ := h8
    have gx6 := tl_rg x6
    have hf := li_fr_trans hf h8 (fun i h => False.elim h)
    have mM7_1_1 : (M7.1 1 1).toInt = (M5.1 1 1).toInt := by rw [h8.1 1 id]
    have mM7_1_2 : (M7.1 1 2).toInt = (M5.1 1 2).toInt := by rw [h8.1 1 id]
    refine li_istore [(5, .int x6), (0, .ref (Z.2.2 0)), (1, .int p1), (2, .int p2), (3, .int p3), (4, .int x4)] dX11_readText_90 (by decide) rfl ?_
    refine li_aload_n 1 dX11_readText_92 rfl ?_
    refine li_getr (k := 0) (N := 13) (T := TX11) (C0 := RX11) dX11_readText_93 (by decide) sh_0 rfl rfl (by decide) (by decide) li_in11 w_473 ?_
    refine li_iconst 0 dX11_readText_96 (by decide) ?_
    refine li_puti (k := 1) (N := 3) (T := TX7) (C0 := RX7) dX11_readText_97 (by decide) sh_1 rfl rfl (by decide) li_in7 tyX7_ok nmX7 rfl rfl rfl rfl w_140 ?_
    refine li_nm (fun M9 eM9 => ?_)
    have hf := li_fr_ui hf (show 1 = 1 ∨ 1 = 6 ∨ 1 = 7 by omega) eM9
    have mM9_1_1 : (M9.1 1 1).toInt = 0 := by rw [eM9, li_ui_at, if_pos rfl, if_pos rfl]; rfl
    have mM9_1_2 : (M9.1 1 2).toInt = (M7.1 1 2).toInt := by rw [eM9, li_ui_at, if_pos rfl, if_neg (by decide)]
    have k10 : M9.1 1 1 = 0 := by rw [eM9, li_ui_at, if_pos rfl, if_pos rfl]
    refine li_iload 0 dX11_readText_100 rfl ?_
    exact li_iret dX11_readText_102 rfl rfl ⟨⟨_, rfl, (by first | omega | (intro _; omega) | (intro h; exact absurd h (by decide)))⟩, hf⟩
  refine li_icmp_ne 37 dX11_readText_10 (by decide) (fun c3 => ?_) (fun c3 => ?_)
  · have tc3 : ¬ p1.toInt = 4 := tl_ne c3
    refine li_iload_n 1 dX11_readText_37 rfl ?_
    refine li_iconst 5 dX11_readText_38 (by decide) ?_
    refine li_icmp_ne 58 dX11_readText_39 (by decide) (fun c11 => ?_) (fun c11 => ?_)
    · have tc11 : ¬ p1.toInt = 5 := tl_ne c11
      refine li_aload_n 0 dX11_readText_58 rfl ?_
      refine li_getr (k := 0) (N := 13) (T := TX11) (C0 := RX11) dX11_readText_59 (by decide) sh_0 rfl rfl (by decide) (by decide) li_in11 w_473 ?_
      refine li_callV (n := 0) (As := []) dX11_readText_62 (k5_X7_atEnd (d - 1) (by omega)  M1) (by omega) (Nat.le_of_ble_eq_true rfl) w_663 w_545 w_546 w_102 w_547 (by decide +kernel) rfl (by decide) sh_1 rfl rfl (Nat.le_of_ble_eq_true rfl) (fun r M13 h14 => ?_)
      obtain ⟨⟨x12, rfl, bx12, qx12⟩, h14⟩ := h14
      have ux12 := tl_b bx12
      have hf := li_fr_trans hf h14 (fun i h => False.elim h)
      have mM13_1_1 : (M13.1 1 1).toInt = (M1.1 1 1).toInt := by rw [h14.1 1 id]
      have mM13_1_2 : (M13.1 1 2).toInt = (M1.1 1 2).toInt := by rw [h14.1 1 id]
      have Psg_M13 : li_sg (M13.1 2)  := li_sg_tr (h14.1 2 (fun h => by first | exact (h : False).elim | omega))  Psg_M1
      have Ppq_M13 : li_pq (M13.1 2) ((M13.1 1 1).toInt) (p2.toInt) (0) (0) (OK) (QQ) (MM) := li_pq_tr (h14.1 2 (fun h => by first | exact (h : False).elim | omega)) (by omega) (by omega) (by omega) (by omega) (by omega) (by omega) (by omega) Ppq_M1
      have J78 : ∀ (x16 : Int32) (M17 : li_M), li_fr (fun i => i = 1 ∨ i = 6 ∨ i = 7) M0 M17 → ((((M0.1 1 1).toInt = 0 ∧ (x16 : Int32).toInt = 0 ∧ (M17.1 1 2).toInt = 0) ∨ (0 < (M0.1 1 1).toInt ∧ OK = 1 ∧ (x16 : Int32).toInt = MM ∧ 0 ≤ MM ∧ MM ≤ 100 ∧ (M17.1 1 2).toInt = QQ) ∨ (0 < (M0.1 1 1).toInt ∧ OK = 0 ∧ (x16 : Int32).toInt = -1 ∧ (M17.1 1 2).toInt = QQ)) ∧ (M17.1 1 1).toInt = (M0.1 1 1).toInt ∧ 0 ≤ (M17.1 1 2).toInt ∧ (M17.1 1 2).toInt ≤ (M0.1 1 1).toInt) → li_T l Z YX11_readText d 78 [(0, .ref (Z.2.2 0)), (1, .int p1), (2, .int p2), (3, .int p3)] [.int x16] M17 (fun r M' => (∃ x : Int32, r = some (.int x) ∧ ((((M0.1 1 1).toInt = 0 ∧ x.toInt = 0) ∨ (0 < (M0.1 1 1).toInt ∧ OK = 1 ∧ (M0.1 1 1).toInt ≤ p3.toInt ∧ x.toInt = MM ∧ 0 ≤ MM ∧ MM ≤ 100) ∨ (0 < (M0.1 1 1).toInt ∧ OK = 1 ∧ p3.toInt < (M0.1 1 1).toInt ∧ x.toInt = -1 - p3.toInt) ∨ (0 < (M0.1 1 1).toInt ∧ OK = 0 ∧ 0 ≤ QQ ∧ QQ ≤ p3.toInt ∧ x.toInt = -1 - QQ) ∨ (0 < (M0.1 1 1).toInt ∧ OK = 0 ∧ p3.toInt < QQ ∧ x.toInt = -1 - p3.toInt)) ∧ (M'.1 1 1).toInt = 0)) ∧ li_fr (fun i => i = 1 ∨ i = 6 ∨ i = 7) M0 M') := by
        intro x16 M17 hf hi
        have gx16 := tl_rg x16
        refine li_istore [(4, .int x16), (0, .ref (Z.2.2 0)), (1, .int p1), (2, .int p2), (3, .int p3)] dX11_readText_78 (by decide) rfl ?_
        refine li_pick [1, 2, 3, 4, 0] [(0, .ref (Z.2.2 0)), (1, .int p1), (2, .int p2), (3, .int p3), (4, .int x16)] rfl ?_
        exact J80 x16 M17 hf (by omega)
      refine li_if_eq 72 dX11_readText_65 (by decide) (fun c15 => ?_) (fun c15 => ?_)
      · have tc15 : x12.toInt = 0 := tl_eq c15
        refine li_aload_n 0 dX11_readText_72 rfl ?_
        refine li_iload_n 1 dX11_readText_73 rfl ?_
        refine li_iload_n 2 dX11_readText_74 rfl ?_
        refine li_callV (n := 2) (As := [.int p1, .int p2]) dX11_readText_75 (k5_X11_readLines (d - 1) (by omega) p1 p2 M13 (by omega) Psg_M13 (by omega) OK QQ MM (li_pq_tr rfl (by omega) (by omega) (by omega) rfl rfl rfl rfl Ppq_M13)) (by omega) (Nat.le_of_ble_eq_true rfl) w_664 w_666 w_8 w_101 w_667 (by decide +kernel) rfl (by decide) sh_0 rfl rfl (Nat.le_of_ble_eq_true rfl) (fun r M19 h20 => ?_)
        obtain ⟨⟨x18, rfl, qx18⟩, h20⟩ := h20
        have gx18 := tl_rg x18
        have hf := li_fr_trans hf h20 (fun i (h : i = 1 ∨ i = 6 ∨ i = 7) => (show i = 1 ∨ i = 6 ∨ i = 7 by omega))
        have Psg_M19 : li_sg (M19.1 2)  := li_sg_tr (h20.1 2 (fun h => by first | exact (h : False).elim | omega))  Psg_M13
        refine li_pick [0, 1, 2, 3] [(0, .ref (Z.2.2 0)), (1, .int p1), (2, .int p2), (3, .int p3)] rfl ?_
        exact J78 x18 M19 hf (by omega)
      · have tc15 : ¬ x12.toInt = 0 := tl_ne c15
        refine li_iconst 0 dX11_readText_68 (by decide) ?_
        refine li_goto 78 dX11_readText_69 (by decide) ?_
        refine li_pick [0, 1, 2, 3] [(0, .ref (Z.2.2 0)), (1, .int p1), (2, .int p2), (3, .int p3)] rfl ?_
        have z0 : (0 : Int32).toInt = 0 := rfl
        exact J78 0 M13 hf (by omega)
    · have tc11 : p1.toInt = 5 := tl_eq c11
      exfalso; omega
  · have tc3 : p1.toInt = 4 := tl_eq c3
    exfalso; omega

