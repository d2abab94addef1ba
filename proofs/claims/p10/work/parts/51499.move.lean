set_option maxRecDepth 100000 in
set_option maxHeartbeats 4000000 in
theorem k8_X11_move {l : Launch} {Z : li_Z} (d : Nat) (hdZq : 2 ≤ d) (p1Zq : Int32) (p2Zq : Int32) (M0 : li_M) (h5 : 0 ≤ (M0.1 5 0).toInt ∧ (M0.1 5 0).toInt ≤ 6) (g6 : Nat → Int32) (hg6 : M0.1 6 = g6) : li_Met l Z YX11_move d [.ref (Z.2.2 0), .int p1Zq, .int p2Zq] M0 (fun r M' => (∃ x : Int32, r = some (.int x) ∧ (((x.toInt = -1 ∧ ¬ (0 ≤ p1Zq.toInt ∧ p1Zq.toInt < (M0.1 5 0).toInt ∧ 0 ≤ p2Zq.toInt ∧ p2Zq.toInt ≤ 99)) ∨ ((0 ≤ p1Zq.toInt ∧ p1Zq.toInt < (M0.1 5 0).toInt ∧ 0 ≤ p2Zq.toInt ∧ p2Zq.toInt ≤ 99) ∧ x.toInt = (g6 p1Zq.toNatClampNeg).toInt)) ∧ li_mo (M'.1 6) g6 p1Zq p2Zq ((M0.1 5 0).toInt))) ∧ li_fr (fun i => i = 6) M0 M') := by
  refine li_enter (by decide +kernel) (Nat.le_of_ble_eq_true rfl) ?_
  show li_T l Z YX11_move d 0 [(0, .ref (Z.2.2 0)), (1, .int p1Zq), (2, .int p2Zq)] [] M0 _
  have hf : li_fr (fun i => i = 6) M0 M0 := li_fr_refl
  have gp1 := tl_rg p1Zq
  have gp2 := tl_rg p2Zq
  have Pce_M0 : li_ce (M0.1 6) (g6) := hg6
  refine li_aload_n 0 dX11_move_0 rfl ?_
  refine li_getr (k := 2) (N := 13) (T := TX11) (C0 := RX11) dX11_move_1 (by decide) sh_0 rfl rfl (by decide) (by decide) li_in11 w_475 ?_
  refine li_iload_n 1 dX11_move_4 rfl ?_
  refine li_callV (n := 1) (As := [.int p1Zq]) dX11_move_5 (k6_X8_hasPerson (d - 1) (by omega) p1Zq M0) (by omega) (Nat.le_of_ble_eq_true rfl) w_758 w_759 w_760 w_104 w_761 (by decide +kernel) rfl (by decide) sh_5 rfl rfl (Nat.le_of_ble_eq_true rfl) (fun r M2Zq h3 => ?_)
  obtain ⟨⟨x1Zq, rfl, bx1, qx1⟩, h3⟩ := h3
  have ux1 := tl_b bx1
  have hf := li_fr_trans hf h3 (fun i hZq => False.elim hZq)
  have mM2_5_0 : (M2Zq.1 5 0).toInt = (M0.1 5 0).toInt := by rw [h3.1 5 id]
  have Pce_M2 : li_ce (M2Zq.1 6) (g6) := li_ce_tr (h3.1 6 (fun hZq => by first | exact (hZq : False).elim | omega)) rfl Pce_M0
  refine li_if_eq 21 dX11_move_8 (by decide) (fun c4 => ?_) (fun c4 => ?_)
  · have tc4 : x1Zq.toInt = 0 := tl_eq c4
    refine li_iconst (-1) dX11_move_21 (by decide) ?_
    have zm1 : ((-1) : Int32).toInt = -1 := rfl
    exact li_iret dX11_move_22 rfl rfl ⟨⟨_, rfl, (by refine ⟨by omega, ?_⟩; first | exact mo | exact li_mo_no Pce_M2 (by omega))⟩, hf⟩
  · have tc4 : ¬ x1Zq.toInt = 0 := tl_ne c4
    refine li_iload_n 2 dX11_move_11 rfl ?_
    refine li_iconst 0 dX11_move_12 (by decide) ?_
    refine li_bipush 99 dX11_move_13 (by decide) ?_
    refine li_callS (n := 3) (As := [.int p2Zq, .int 0, .int 99]) dX11_move_15 (k4_X11_within2 (d - 1) (by omega) p2Zq 0 99 M2Zq) (by omega) (Nat.le_of_ble_eq_true rfl) w_762 w_639 w_101 w_640 (by decide +kernel) rfl rfl (Nat.le_of_ble_eq_true rfl) (fun r M6Zq h7 => ?_)
    have z0 : (0 : Int32).toInt = 0 := rfl
    have z99 : (99 : Int32).toInt = 99 := rfl
    obtain ⟨⟨x5Zq, rfl, bx5, qx5⟩, h7⟩ := h7
    have ux5 := tl_b bx5
    have hf := li_fr_trans hf h7 (fun i hZq => False.elim hZq)
    have mM6_5_0 : (M6Zq.1 5 0).toInt = (M2Zq.1 5 0).toInt := by rw [h7.1 5 id]
    have Pce_M6 : li_ce (M6Zq.1 6) (g6) := li_ce_tr (h7.1 6 (fun hZq => by first | exact (hZq : False).elim | omega)) rfl Pce_M2
    refine li_if_ne 23 dX11_move_18 (by decide) (fun c8Zq => ?_) (fun c8Zq => ?_)
    · have tc8 : ¬ x5Zq.toInt = 0 := tl_ne c8Zq
      refine li_aload_n 0 dX11_move_23 rfl ?_
      refine li_getr (k := 2) (N := 13) (T := TX11) (C0 := RX11) dX11_move_24 (by decide) sh_0 rfl rfl (by decide) (by decide) li_in11 w_475 ?_
      refine li_getr (k := 2) (N := 9) (T := TX8) (C0 := RX8) dX11_move_27 (by decide) sh_5 rfl rfl (by decide) (by decide) li_in8 w_184 ?_
      refine li_iload_n 1 dX11_move_30 rfl ?_
      refine li_callS (n := 2) (As := [.ref (Z.2.2 6), .int p1Zq]) dX11_move_31 (a_X11_at (d - 1) (by omega) (by decide) sh_6 (by decide) p1Zq M6Zq) (by omega) (Nat.le_of_ble_eq_true rfl) w_763 w_569 w_101 w_570 (by decide +kernel) rfl rfl (Nat.le_of_ble_eq_true rfl) (fun r M10 h11 => ?_)
      obtain ⟨⟨x9, rfl, qx9⟩, h11⟩ := h11
      have gx9 := tl_rg x9
      have hf := li_fr_trans hf h11 (fun i hZq => False.elim hZq)
      have mM10_5_0 : (M10.1 5 0).toInt = (M6Zq.1 5 0).toInt := by rw [h11.1 5 id]
      have Pce_M10 : li_ce (M10.1 6) (g6) := li_ce_tr (h11.1 6 (fun hZq => by first | exact (hZq : False).elim | omega)) rfl Pce_M6
      have sq : x9.toInt = (g6 p1Zq.toNatClampNeg).toInt := at_6 qx9 Pce_M6 (by omega)
      refine li_istore_n [(3, .int x9), (0, .ref (Z.2.2 0)), (1, .int p1Zq), (2, .int p2Zq)] dX11_move_34 (by decide) rfl ?_
      refine li_aload_n 1 dX11_move_35 rfl ?_
      refine li_getr (k := 2) (N := 13) (T := TX11) (C0 := RX11) dX11_move_36 (by decide) sh_0 rfl rfl (by decide) (by decide) li_in11 w_475 ?_
      refine li_getr (k := 2) (N := 9) (T := TX8) (C0 := RX8) dX11_move_39 (by decide) sh_5 rfl rfl (by decide) (by decide) li_in8 w_184 ?_
      refine li_iload_n 2 dX11_move_42 rfl ?_
      refine li_iload_n 3 dX11_move_43 rfl ?_
      refine li_callS (n := 3) (As := [.ref (Z.2.2 6), .int p1Zq, .int p2Zq]) dX11_move_44 (a_X11_put (d - 1) (by omega) (by decide) sh_6 (by decide) p1Zq p2Zq M10) (by omega) (Nat.le_of_ble_eq_true rfl) w_710 w_522 w_101 w_523 (by decide +kernel) rfl rfl (Nat.le_of_ble_eq_true rfl) (fun r M13 h14 => ?_)
      obtain ⟨rfl, h14, nM13⟩ := h14
      have hf := li_fr_trans hf h14 (fun i (hZq : i = 6) => (show i = 6 by omega))
      have mM13_5_0 : (M13.1 5 0).toInt = (M10.1 5 0).toInt := by rw [h14.1 5 (show ¬ (5 = 6) by omega)]
      have mo : li_mo (M13.1 6) g6 p1Zq p2Zq ((M0.1 5 0).toInt) := li_mo_c nM13 Pce_M10 (by omega) (by omega)
      refine li_iload_n 0 dX11_move_47 rfl ?_
      exact li_iret dX11_move_48 rfl rfl ⟨⟨_, rfl, (by refine ⟨by omega, ?_⟩; first | exact mo | exact li_mo_no Pce_M13 (by omega))⟩, hf⟩
    · have tc8 : x5Zq.toInt = 0 := tl_eq c8Zq
      refine li_iconst (-1) dX11_move_21 (by decide) ?_
      have zm1 : ((-1) : Int32).toInt = -1 := rfl
      exact li_iret dX11_move_22 rfl rfl ⟨⟨_, rfl, (by refine ⟨by omega, ?_⟩; first | exact mo | exact li_mo_no Pce_M6 (by omega))⟩, hf⟩
set_option maxRecDepth 100000 in
set_option maxHeartbeats 4000000 in
theorem k8_X12_move {l : Launch} {Z : li_Z} (d : Nat) (hdZq : 3 ≤ d) (p1Zq p2Zq : Int32) (M0 : li_M) (hJ : li_J M0) (g7 : Nat → Int32) (hg7 : M0.1 177 = g7) : li_Met l Z YX12_move d [.ref (Z.2.2 175), .int p1Zq, .int p2Zq] M0 (fun r M' => (∃ x : Int32, r = some (.int x) ∧ (((x.toInt = -1 ∧ ¬ (0 ≤ p1Zq.toInt ∧ p1Zq.toInt < (M0.1 175 1).toInt ∧ 0 ≤ p2Zq.toInt ∧ p2Zq.toInt ≤ 99)) ∨ ((0 ≤ p1Zq.toInt ∧ p1Zq.toInt < (M0.1 175 1).toInt ∧ 0 ≤ p2Zq.toInt ∧ p2Zq.toInt ≤ 99) ∧ x.toInt = (g7 p1Zq.toNatClampNeg).toInt)) ∧ li_mo (M'.1 177) g7 p1Zq p2Zq ((M0.1 175 1).toInt))) ∧ li_fs (fun i k => i = 177 ∨ (i = 175 ∧ k = 10)) M0 M' ∧ li_J M') := by
  refine li_enter (by decide +kernel) (Nat.le_of_ble_eq_true rfl) ?_
  show li_T l Z YX12_move d 0 [(0, .ref (Z.2.2 175)), (1, .int p1Zq), (2, .int p2Zq)] [] M0 _
  have hf : li_fs (fun i k => i = 177 ∨ (i = 175 ∧ k = 10)) M0 M0 := li_fs_refl
  have gp1 := tl_rg p1Zq
  have gp2 := tl_rg p2Zq
  have rM0_1 := J_sl1 (M := M0) hJ
  have Pce_M0 : li_ce (M0.1 177) (g7) := hg7
  refine li_aload_n 0 dX12_move_0 rfl ?_
  refine li_iconst 0 dX12_move_1 (by decide) ?_
  refine li_puti (k := 10) (N := 52) (T := TX12) (C0 := RX12) dX12_move_2 (by decide) sh_175 rfl rfl (by decide) li_in12 tyX12_ok nmX12 rfl rfl rfl rfl w_1414 ?_
  refine li_nm (fun M1Zq eM1 => ?_)
  have hf := li_fs_ui hf (Or.inr (⟨rfl, rfl⟩)) eM1
  have z0 : (0 : Int32).toInt = 0 := rfl
  have hJ := hJ.put (k := 10) (by decide) (rg_free rfl) eM1
  have rM1_1 := J_sl1 (M := M1Zq) hJ
  have mM1_1 : (M1Zq.1 175 1).toInt = (M0.1 175 1).toInt := by rw [eM1, li_ui_at, if_pos rfl, if_neg (by decide)]
  have Pce_M1 : li_ce (M1Zq.1 177) (g7) := li_ce_tr (li_cell_ui eM1 (by decide)) rfl Pce_M0
  refine li_aload_n 0 dX12_move_5 rfl ?_
  refine li_iload_n 1 dX12_move_6 rfl ?_
  refine li_callV (n := 1) (As := [.int p1Zq]) dX12_move_7 (k_X12_isOne (d - 1) (by omega) p1Zq M1Zq hJ ) (by omega) (Nat.le_of_ble_eq_true rfl) w_1648 w_1650 w_56 w_112 w_1651 (by decide +kernel) rfl (by decide) sh_175 rfl rfl (Nat.le_of_ble_eq_true rfl) (fun r M3Zq h4 => ?_)
  obtain ⟨qx2, h4, jM3⟩ := h4
  have hf := li_fs_trans hf h4 (fun i k hZq => False.elim hZq)
  have hJ := jM3
  have rM3_1 := J_sl1 (M := M3Zq) hJ
  have mM3_1 : (M3Zq.1 175 1).toInt = (M1Zq.1 175 1).toInt := tl_slot (h4.1 175 1 id)
  have Pce_M3 : li_ce (M3Zq.1 177) (g7) := li_ce_tr (funext fun i => h4.1 177 i id) rfl Pce_M1
  rcases qx2 with ⟨rfl, qx2⟩ | ⟨rfl, qx2⟩
  · skip
    refine li_if_eq 23 dX12_move_10 (by decide) (fun c => absurd c (by decide)) (fun c => ?_)
    refine li_iload_n 2 dX12_move_13 rfl ?_
    refine li_iconst 0 dX12_move_14 (by decide) ?_
    refine li_bipush 99 dX12_move_15 (by decide) ?_
    have z0 : (0 : Int32).toInt = 0 := rfl
    have z99 : (99 : Int32).toInt = 99 := rfl
    refine li_callS (n := 3) (As := [.int p2Zq, .int 0, .int 99]) dX12_move_17 (k_X12_in (d - 1) (by omega) p2Zq 0 99 M3Zq hJ ) (by omega) (Nat.le_of_ble_eq_true rfl) w_1570 w_1571 w_112 w_1572 (by decide +kernel) rfl rfl (Nat.le_of_ble_eq_true rfl) (fun r M7Zq h8 => ?_)
    obtain ⟨qx6, h8, jM7⟩ := h8
    have hf := li_fs_trans hf h8 (fun i k hZq => False.elim hZq)
    have hJ := jM7
    have rM7_1 := J_sl1 (M := M7Zq) hJ
    have mM7_1 : (M7Zq.1 175 1).toInt = (M3Zq.1 175 1).toInt := tl_slot (h8.1 175 1 id)
    have Pce_M7 : li_ce (M7Zq.1 177) (g7) := li_ce_tr (funext fun i => h8.1 177 i id) rfl Pce_M3
    rcases qx6 with ⟨rfl, qx6⟩ | ⟨rfl, qx6⟩
    · skip
      refine li_if_ne 25 dX12_move_20 (by decide) (fun c => ?_) (fun c => absurd c (by decide))
      refine li_aload_n 0 dX12_move_25 rfl ?_
      refine li_getr (k := 2) (N := 52) (T := TX12) (C0 := RX12) dX12_move_26 (by decide) sh_175 rfl rfl (by decide) (by decide) li_in12 w_1406 ?_
      refine li_iload_n 1 dX12_move_29 rfl ?_
      refine li_iald dX12_move_30 (by decide) sh_177 (tl_in (by omega)) ?_
      refine li_top (fun x10 ex10 => ?_)
      have gx10 := tl_rg x10
      have sq : x10.toInt = (g7 p1Zq.toNatClampNeg).toInt := tl_slot (ex10.trans (congrFun Pce_M7 _))
      refine li_istore_n [(3, .int x10), (0, .ref (Z.2.2 175)), (1, .int p1Zq), (2, .int p2Zq)] dX12_move_31 (by decide) rfl ?_
      refine li_aload_n 1 dX12_move_32 rfl ?_
      refine li_getr (k := 2) (N := 52) (T := TX12) (C0 := RX12) dX12_move_33 (by decide) sh_175 rfl rfl (by decide) (by decide) li_in12 w_1406 ?_
      refine li_iload_n 2 dX12_move_36 rfl ?_
      refine li_iload_n 3 dX12_move_37 rfl ?_
      refine li_iast dX12_move_38 (by decide) sh_177 (tl_in (by omega)) ?_
      refine li_nm (fun M11 eM11 => ?_)
      have hf := li_fs_ui hf (Or.inl rfl) eM11
      have hJ := hJ.st (by decide) (li_el_free (by unfold li_led; omega) (by decide) (by decide) (by unfold li_rq; omega)) eM11
      have rM11_1 := J_sl1 (M := M11) hJ
      have mM11_1 : (M11.1 175 1).toInt = (M7Zq.1 175 1).toInt := by rw [eM11, li_ui_at, if_neg (by decide)]
      have mo : li_mo (M11.1 177) g7 p1Zq p2Zq ((M0.1 175 1).toInt) := li_mo_j eM11 Pce_M7 (by omega)
      refine li_iload_n 0 dX12_move_39 rfl ?_
      exact li_iret dX12_move_40 rfl rfl ⟨⟨_, rfl, (by refine ⟨by omega, ?_⟩; first | exact mo | exact li_mo_no Pce_M11 (by omega))⟩, hf, hJ⟩
    · skip
      refine li_if_ne 25 dX12_move_20 (by decide) (fun c => absurd rfl c) (fun c => ?_)
      refine li_iconst (-1) dX12_move_23 (by decide) ?_
      have zm1 : ((-1) : Int32).toInt = -1 := rfl
      exact li_iret dX12_move_24 rfl rfl ⟨⟨_, rfl, (by refine ⟨by omega, ?_⟩; first | exact mo | exact li_mo_no Pce_M7 (by omega))⟩, hf, hJ⟩
  · skip
    refine li_if_eq 23 dX12_move_10 (by decide) (fun c => ?_) (fun c => absurd rfl c)
    refine li_iconst (-1) dX12_move_23 (by decide) ?_
    have zm1 : ((-1) : Int32).toInt = -1 := rfl
    exact li_iret dX12_move_24 rfl rfl ⟨⟨_, rfl, (by refine ⟨by omega, ?_⟩; first | exact mo | exact li_mo_no Pce_M3 (by omega))⟩, hf, hJ⟩
