theorem shl_z {q a x : Int32} (hq : q.toInt = 0) (e1Zq : a = 1 <<< (q &&& 31)) (e2Zq : x = a - 1) : x.toInt = 0 := by
  rw [e2Zq, e1Zq, z_of hq]
  decide +kernel

set_option maxRecDepth 100000 in
set_option maxHeartbeats 4000000 in
theorem k15_X12_cost {l : Launch} {Z : li_Z} (d : Nat) (hdZq : 3 ≤ d) (p1Zq p2Zq : Int32) (M0 : li_M) (hJ : li_J M0) (z4 : (M0.1 175 4).toInt = 0) : li_Met l Z YX12_cost d [.ref (Z.2.2 175), .int p1Zq, .int p2Zq] M0 (fun r M' => (∃ x : Int32, r = some (.int x) ∧ (x.toInt = -1)) ∧ li_fs (fun i k => (i = 175 ∧ k = 10)) M0 M' ∧ li_J M') := by
  refine li_enter (by decide +kernel) (Nat.le_of_ble_eq_true rfl) ?_
  show li_T l Z YX12_cost d 0 [(0, .ref (Z.2.2 175)), (1, .int p1Zq), (2, .int p2Zq)] [] M0 _
  have hf : li_fs (fun i k => (i = 175 ∧ k = 10)) M0 M0 := li_fs_refl
  have gp1 := tl_rg p1Zq
  have gp2 := tl_rg p2Zq
  have rM0_4 := J_sl4 (M := M0) hJ
  refine li_aload_n 0 dX12_cost_0 rfl ?_
  refine li_iconst 0 dX12_cost_1 (by decide) ?_
  refine li_puti (k := 10) (N := 52) (T := TX12) (C0 := RX12) dX12_cost_2 (by decide) sh_175 rfl rfl (by decide) li_in12 tyX12_ok nmX12 rfl rfl rfl rfl w_1414 ?_
  refine li_nm (fun M1Zq eM1 => ?_)
  have hf := li_fs_ui hf (⟨rfl, rfl⟩) eM1
  have z0 : (0 : Int32).toInt = 0 := rfl
  have hJ := hJ.put (k := 10) (by decide) (rg_free rfl) eM1
  have rM1_4 := J_sl4 (M := M1Zq) hJ
  have mM1_4 : (M1Zq.1 175 4).toInt = (M0.1 175 4).toInt := by rw [eM1, li_ui_at, if_pos rfl, if_neg (by decide)]
  refine li_aload_n 0 dX12_cost_5 rfl ?_
  refine li_iload_n 1 dX12_cost_6 rfl ?_
  refine li_callV (n := 1) (As := [.int p1Zq]) dX12_cost_7 (k_X12_isThing (d - 1) (by omega) p1Zq M1Zq hJ ) (by omega) (Nat.le_of_ble_eq_true rfl) w_1668 w_1670 w_59 w_112 w_1671 (by decide +kernel) rfl (by decide) sh_175 rfl rfl (Nat.le_of_ble_eq_true rfl) (fun r M3Zq h4 => ?_)
  obtain ⟨qx2, h4, jM3⟩ := h4
  have hf := li_fs_trans hf h4 (fun i k hZq => False.elim hZq)
  have hJ := jM3
  have rM3_4 := J_sl4 (M := M3Zq) hJ
  have mM3_4 : (M3Zq.1 175 4).toInt = (M1Zq.1 175 4).toInt := tl_slot (h4.1 175 4 id)
  rcases qx2 with ⟨rfl, qx2⟩ | ⟨rfl, qx2⟩
  · exfalso; omega
  · skip
    refine li_if_eq 22 dX12_cost_10 (by decide) (fun c => ?_) (fun c => absurd rfl c)
    refine li_iconst (-1) dX12_cost_22 (by decide) ?_
    have zm1 : ((-1) : Int32).toInt = -1 := rfl
    exact li_iret dX12_cost_23 rfl rfl ⟨⟨_, rfl, (by first | omega | (intro _; omega) | (refine ⟨?_, ?_⟩ <;> first | omega | (intro _; omega)) | (refine ⟨?_, ?_, ?_, ?_⟩ <;> first | omega | (intro _; omega)))⟩, hf, hJ⟩
set_option maxRecDepth 100000 in
set_option maxHeartbeats 4000000 in
theorem k15_X12_refusesSay {l : Launch} {Z : li_Z} (d : Nat) (hdZq : 3 ≤ d) {a : Nat} (haZq : li_la a) (p1Zq p2Zq : Int32) (M0 : li_M) (hJ : li_J M0) (z4 : (M0.1 175 4).toInt = 0) : li_Met l Z YX12_refusesSay d [.ref (Z.2.2 175), .ref (Z.2.2 a), .int p1Zq, .int p2Zq] M0 (fun r M' => (∃ x : Int32, r = some (.int x) ∧ (x.toInt = -1)) ∧ li_fs (fun i k => False) M0 M' ∧ li_J M') := by
  refine li_enter (by decide +kernel) (Nat.le_of_ble_eq_true rfl) ?_
  show li_T l Z YX12_refusesSay d 0 [(0, .ref (Z.2.2 175)), (1, .ref (Z.2.2 a)), (2, .int p1Zq), (3, .int p2Zq)] [] M0 _
  have hf : li_fs (fun i k => False) M0 M0 := li_fs_refl
  have gp1 := tl_rg p1Zq
  have gp2 := tl_rg p2Zq
  have rM0_4 := J_sl4 (M := M0) hJ
  have caa : a = 176 ∨ a = 200 := haZq
  refine li_aload_n 0 dX12_refusesSay_0 rfl ?_
  refine li_iload_n 2 dX12_refusesSay_1 rfl ?_
  refine li_callV (n := 1) (As := [.int p1Zq]) dX12_refusesSay_2 (k_X12_isThing (d - 1) (by omega) p1Zq M0 hJ ) (by omega) (Nat.le_of_ble_eq_true rfl) w_1668 w_1670 w_59 w_112 w_1671 (by decide +kernel) rfl (by decide) sh_175 rfl rfl (Nat.le_of_ble_eq_true rfl) (fun r M2Zq h3 => ?_)
  obtain ⟨qx1, h3, jM2⟩ := h3
  have hf := li_fs_trans hf h3 (fun i k hZq => False.elim hZq)
  have hJ := jM2
  have rM2_4 := J_sl4 (M := M2Zq) hJ
  have mM2_4 : (M2Zq.1 175 4).toInt = (M0.1 175 4).toInt := tl_slot (h3.1 175 4 id)
  rcases qx1 with ⟨rfl, qx1⟩ | ⟨rfl, qx1⟩
  · exfalso; omega
  · skip
    refine li_if_eq 17 dX12_refusesSay_5 (by decide) (fun c => ?_) (fun c => absurd rfl c)
    refine li_iconst (-1) dX12_refusesSay_17 (by decide) ?_
    have zm1 : ((-1) : Int32).toInt = -1 := rfl
    exact li_iret dX12_refusesSay_18 rfl rfl ⟨⟨_, rfl, (by first | omega | (intro _; omega) | (refine ⟨?_, ?_⟩ <;> first | omega | (intro _; omega)) | (refine ⟨?_, ?_, ?_, ?_⟩ <;> first | omega | (intro _; omega)))⟩, hf, hJ⟩
set_option maxRecDepth 100000 in
set_option maxHeartbeats 4000000 in
theorem k15_X12_say {l : Launch} {Z : li_Z} (d : Nat) (hdZq : 4 ≤ d) (p1Zq p2Zq : Int32) (M0 : li_M) (hJ : li_J M0) (z4 : (M0.1 175 4).toInt = 0) : li_Met l Z YX12_say d [.ref (Z.2.2 175), .int p1Zq, .int p2Zq] M0 (fun r M' => (∃ x : Int32, r = some (.int x) ∧ (x.toInt = -1)) ∧ li_fs (fun i k => (i = 175 ∧ k = 10)) M0 M' ∧ li_J M') := by
  refine li_enter (by decide +kernel) (Nat.le_of_ble_eq_true rfl) ?_
  show li_T l Z YX12_say d 0 [(0, .ref (Z.2.2 175)), (1, .int p1Zq), (2, .int p2Zq)] [] M0 _
  have hf : li_fs (fun i k => (i = 175 ∧ k = 10)) M0 M0 := li_fs_refl
  have gp1 := tl_rg p1Zq
  have gp2 := tl_rg p2Zq
  have rM0_4 := J_sl4 (M := M0) hJ
  refine li_aload_n 0 dX12_say_0 rfl ?_
  refine li_iconst 0 dX12_say_1 (by decide) ?_
  refine li_puti (k := 10) (N := 52) (T := TX12) (C0 := RX12) dX12_say_2 (by decide) sh_175 rfl rfl (by decide) li_in12 tyX12_ok nmX12 rfl rfl rfl rfl w_1414 ?_
  refine li_nm (fun M1Zq eM1 => ?_)
  have hf := li_fs_ui hf (⟨rfl, rfl⟩) eM1
  have z0 : (0 : Int32).toInt = 0 := rfl
  have hJ := hJ.put (k := 10) (by decide) (rg_free rfl) eM1
  have rM1_4 := J_sl4 (M := M1Zq) hJ
  have mM1_4 : (M1Zq.1 175 4).toInt = (M0.1 175 4).toInt := by rw [eM1, li_ui_at, if_pos rfl, if_neg (by decide)]
  refine li_aload_n 0 dX12_say_5 rfl ?_
  refine li_aload_n 0 dX12_say_6 rfl ?_
  refine li_getr (k := 0) (N := 52) (T := TX12) (C0 := RX12) dX12_say_7 (by decide) sh_175 rfl rfl (by decide) (by decide) li_in12 w_1404 ?_
  refine li_iload_n 1 dX12_say_10 rfl ?_
  refine li_iload_n 2 dX12_say_11 rfl ?_
  refine li_callV (n := 3) (As := [.ref (Z.2.2 176), .int p1Zq, .int p2Zq]) dX12_say_12 (k15_X12_refusesSay (d - 1) (by omega) la_176 p1Zq p2Zq M1Zq hJ (by omega) ) (by omega) (Nat.le_of_ble_eq_true rfl) w_1734 w_1736 w_69 w_112 w_1737 (by decide +kernel) rfl (by decide) sh_175 rfl rfl (Nat.le_of_ble_eq_true rfl) (fun r M3Zq h4 => ?_)
  obtain ⟨⟨x2Zq, rfl, qx2⟩, h4, jM3⟩ := h4
  have gx2 := tl_rg x2Zq
  have hf := li_fs_trans hf h4 (fun i k hZq => False.elim hZq)
  have hJ := jM3
  have rM3_4 := J_sl4 (M := M3Zq) hJ
  have mM3_4 : (M3Zq.1 175 4).toInt = (M1Zq.1 175 4).toInt := tl_slot (h4.1 175 4 id)
  refine li_istore_n [(3, .int x2Zq), (0, .ref (Z.2.2 175)), (1, .int p1Zq), (2, .int p2Zq)] dX12_say_15 (by decide) rfl ?_
  refine li_iload_n 0 dX12_say_16 rfl ?_
  refine li_if_ge 22 dX12_say_17 (by decide) (fun c5Zq => ?_) (fun c5Zq => ?_)
  · have tc5 : 0 ≤ x2Zq.toInt := tl_le c5Zq
    exfalso; omega
  · have tc5 : x2Zq.toInt < 0 := tl_nle c5Zq
    refine li_iload_n 0 dX12_say_20 rfl ?_
    exact li_iret dX12_say_21 rfl rfl ⟨⟨_, rfl, (by first | omega | (intro _; omega) | (refine ⟨?_, ?_⟩ <;> first | omega | (intro _; omega)) | (refine ⟨?_, ?_, ?_, ?_⟩ <;> first | omega | (intro _; omega)))⟩, hf, hJ⟩
set_option maxRecDepth 100000 in
set_option maxHeartbeats 4000000 in
theorem k15_X12_refusesGive {l : Launch} {Z : li_Z} (d : Nat) (hdZq : 4 ≤ d) (p1Zq p2Zq p3Zq : Int32) (M0 : li_M) (hJ : li_J M0) (z1 : (M0.1 175 1).toInt = 0) : li_Met l Z YX12_refusesGive d [.ref (Z.2.2 175), .int p1Zq, .int p2Zq, .int p3Zq] M0 (fun r M' => (∃ x : Int32, r = some (.int x) ∧ (x.toInt = -1)) ∧ li_fs (fun i k => False) M0 M' ∧ li_J M') := by
  refine li_enter (by decide +kernel) (Nat.le_of_ble_eq_true rfl) ?_
  show li_T l Z YX12_refusesGive d 0 [(0, .ref (Z.2.2 175)), (1, .int p1Zq), (2, .int p2Zq), (3, .int p3Zq)] [] M0 _
  have hf : li_fs (fun i k => False) M0 M0 := li_fs_refl
  have gp1 := tl_rg p1Zq
  have gp2 := tl_rg p2Zq
  have gp3 := tl_rg p3Zq
  have rM0_1 := J_sl1 (M := M0) hJ
  refine li_aload_n 0 dX12_refusesGive_0 rfl ?_
  refine li_iload_n 1 dX12_refusesGive_1 rfl ?_
  refine li_iload_n 2 dX12_refusesGive_2 rfl ?_
  refine li_callV (n := 2) (As := [.int p1Zq, .int p2Zq]) dX12_refusesGive_3 (k_X12_areTwo (d - 1) (by omega) p1Zq p2Zq M0 hJ ) (by omega) (Nat.le_of_ble_eq_true rfl) w_1764 w_1766 w_74 w_112 w_1767 (by decide +kernel) rfl (by decide) sh_175 rfl rfl (Nat.le_of_ble_eq_true rfl) (fun r M2Zq h3 => ?_)
  obtain ⟨qx1, h3, jM2⟩ := h3
  have hf := li_fs_trans hf h3 (fun i k hZq => False.elim hZq)
  have hJ := jM2
  have rM2_1 := J_sl1 (M := M2Zq) hJ
  have mM2_1 : (M2Zq.1 175 1).toInt = (M0.1 175 1).toInt := tl_slot (h3.1 175 1 id)
  rcases qx1 with ⟨rfl, qx1⟩ | ⟨rfl, qx1⟩
  · exfalso; omega
  · skip
    refine li_if_eq 20 dX12_refusesGive_6 (by decide) (fun c => ?_) (fun c => absurd rfl c)
    refine li_iconst (-1) dX12_refusesGive_20 (by decide) ?_
    have zm1 : ((-1) : Int32).toInt = -1 := rfl
    exact li_iret dX12_refusesGive_21 rfl rfl ⟨⟨_, rfl, (by first | omega | (intro _; omega) | (refine ⟨?_, ?_⟩ <;> first | omega | (intro _; omega)) | (refine ⟨?_, ?_, ?_, ?_⟩ <;> first | omega | (intro _; omega)))⟩, hf, hJ⟩
set_option maxRecDepth 100000 in
set_option maxHeartbeats 4000000 in
theorem k15_X12_give {l : Launch} {Z : li_Z} (d : Nat) (hdZq : 5 ≤ d) (p1Zq p2Zq p3Zq : Int32) (M0 : li_M) (hJ : li_J M0) (z1 : (M0.1 175 1).toInt = 0) : li_Met l Z YX12_give d [.ref (Z.2.2 175), .int p1Zq, .int p2Zq, .int p3Zq] M0 (fun r M' => (∃ x : Int32, r = some (.int x) ∧ (x.toInt = -1)) ∧ li_fs (fun i k => (i = 175 ∧ k = 10)) M0 M' ∧ li_J M') := by
  refine li_enter (by decide +kernel) (Nat.le_of_ble_eq_true rfl) ?_
  show li_T l Z YX12_give d 0 [(0, .ref (Z.2.2 175)), (1, .int p1Zq), (2, .int p2Zq), (3, .int p3Zq)] [] M0 _
  have hf : li_fs (fun i k => (i = 175 ∧ k = 10)) M0 M0 := li_fs_refl
  have gp1 := tl_rg p1Zq
  have gp2 := tl_rg p2Zq
  have gp3 := tl_rg p3Zq
  have rM0_1 := J_sl1 (M := M0) hJ
  refine li_aload_n 0 dX12_give_0 rfl ?_
  refine li_iconst 0 dX12_give_1 (by decide) ?_
  refine li_puti (k := 10) (N := 52) (T := TX12) (C0 := RX12) dX12_give_2 (by decide) sh_175 rfl rfl (by decide) li_in12 tyX12_ok nmX12 rfl rfl rfl rfl w_1414 ?_
  refine li_nm (fun M1Zq eM1 => ?_)
  have hf := li_fs_ui hf (⟨rfl, rfl⟩) eM1
  have z0 : (0 : Int32).toInt = 0 := rfl
  have hJ := hJ.put (k := 10) (by decide) (rg_free rfl) eM1
  have rM1_1 := J_sl1 (M := M1Zq) hJ
  have mM1_1 : (M1Zq.1 175 1).toInt = (M0.1 175 1).toInt := by rw [eM1, li_ui_at, if_pos rfl, if_neg (by decide)]
  refine li_aload_n 0 dX12_give_5 rfl ?_
  refine li_iload_n 1 dX12_give_6 rfl ?_
  refine li_iload_n 2 dX12_give_7 rfl ?_
  refine li_iload_n 3 dX12_give_8 rfl ?_
  refine li_callV (n := 3) (As := [.int p1Zq, .int p2Zq, .int p3Zq]) dX12_give_9 (k15_X12_refusesGive (d - 1) (by omega) p1Zq p2Zq p3Zq M1Zq hJ (by omega) ) (by omega) (Nat.le_of_ble_eq_true rfl) w_1760 w_1762 w_73 w_112 w_1763 (by decide +kernel) rfl (by decide) sh_175 rfl rfl (Nat.le_of_ble_eq_true rfl) (fun r M3Zq h4 => ?_)
  obtain ⟨⟨x2Zq, rfl, qx2⟩, h4, jM3⟩ := h4
  have gx2 := tl_rg x2Zq
  have hf := li_fs_trans hf h4 (fun i k hZq => False.elim hZq)
  have hJ := jM3
  have rM3_1 := J_sl1 (M := M3Zq) hJ
  have mM3_1 : (M3Zq.1 175 1).toInt = (M1Zq.1 175 1).toInt := tl_slot (h4.1 175 1 id)
  refine li_istore [(4, .int x2Zq), (0, .ref (Z.2.2 175)), (1, .int p1Zq), (2, .int p2Zq), (3, .int p3Zq)] dX12_give_12 (by decide) rfl ?_
  refine li_iload 0 dX12_give_14 rfl ?_
  refine li_if_ge 22 dX12_give_16 (by decide) (fun c5Zq => ?_) (fun c5Zq => ?_)
  · have tc5 : 0 ≤ x2Zq.toInt := tl_le c5Zq
    exfalso; omega
  · have tc5 : x2Zq.toInt < 0 := tl_nle c5Zq
    refine li_iload 0 dX12_give_19 rfl ?_
    exact li_iret dX12_give_21 rfl rfl ⟨⟨_, rfl, (by first | omega | (intro _; omega) | (refine ⟨?_, ?_⟩ <;> first | omega | (intro _; omega)) | (refine ⟨?_, ?_, ?_, ?_⟩ <;> first | omega | (intro _; omega)))⟩, hf, hJ⟩
set_option maxRecDepth 100000 in
set_option maxHeartbeats 4000000 in
theorem k15_X12_lend {l : Launch} {Z : li_Z} (d : Nat) (hdZq : 4 ≤ d) (p1Zq p2Zq p3Zq p4Zq : Int32) (M0 : li_M) (hJ : li_J M0) (z1 : (M0.1 175 1).toInt = 0) : li_Met l Z YX12_lend d [.ref (Z.2.2 175), .int p1Zq, .int p2Zq, .int p3Zq, .int p4Zq] M0 (fun r M' => (∃ x : Int32, r = some (.int x) ∧ (x.toInt = -1)) ∧ li_fs (fun i k => (i = 175 ∧ k = 10)) M0 M' ∧ li_J M') := by
  refine li_enter (by decide +kernel) (Nat.le_of_ble_eq_true rfl) ?_
  show li_T l Z YX12_lend d 0 [(0, .ref (Z.2.2 175)), (1, .int p1Zq), (2, .int p2Zq), (3, .int p3Zq), (4, .int p4Zq)] [] M0 _
  have hf : li_fs (fun i k => (i = 175 ∧ k = 10)) M0 M0 := li_fs_refl
  have gp1 := tl_rg p1Zq
  have gp2 := tl_rg p2Zq
  have gp3 := tl_rg p3Zq
  have gp4 := tl_rg p4Zq
  have rM0_1 := J_sl1 (M := M0) hJ
  refine li_aload_n 0 dX12_lend_0 rfl ?_
  refine li_iconst 0 dX12_lend_1 (by decide) ?_
  refine li_puti (k := 10) (N := 52) (T := TX12) (C0 := RX12) dX12_lend_2 (by decide) sh_175 rfl rfl (by decide) li_in12 tyX12_ok nmX12 rfl rfl rfl rfl w_1414 ?_
  refine li_nm (fun M1Zq eM1 => ?_)
  have hf := li_fs_ui hf (⟨rfl, rfl⟩) eM1
  have z0 : (0 : Int32).toInt = 0 := rfl
  have hJ := hJ.put (k := 10) (by decide) (rg_free rfl) eM1
  have rM1_1 := J_sl1 (M := M1Zq) hJ
  have mM1_1 : (M1Zq.1 175 1).toInt = (M0.1 175 1).toInt := by rw [eM1, li_ui_at, if_pos rfl, if_neg (by decide)]
  refine li_aload_n 0 dX12_lend_5 rfl ?_
  refine li_iload_n 1 dX12_lend_6 rfl ?_
  refine li_iload_n 2 dX12_lend_7 rfl ?_
  refine li_callV (n := 2) (As := [.int p1Zq, .int p2Zq]) dX12_lend_8 (k_X12_areTwo (d - 1) (by omega) p1Zq p2Zq M1Zq hJ ) (by omega) (Nat.le_of_ble_eq_true rfl) w_1764 w_1766 w_74 w_112 w_1767 (by decide +kernel) rfl (by decide) sh_175 rfl rfl (Nat.le_of_ble_eq_true rfl) (fun r M3Zq h4 => ?_)
  obtain ⟨qx2, h4, jM3⟩ := h4
  have hf := li_fs_trans hf h4 (fun i k hZq => False.elim hZq)
  have hJ := jM3
  have rM3_1 := J_sl1 (M := M3Zq) hJ
  have mM3_1 : (M3Zq.1 175 1).toInt = (M1Zq.1 175 1).toInt := tl_slot (h4.1 175 1 id)
  rcases qx2 with ⟨rfl, qx2⟩ | ⟨rfl, qx2⟩
  · exfalso; omega
  · skip
    refine li_if_eq 25 dX12_lend_11 (by decide) (fun c => ?_) (fun c => absurd rfl c)
    refine li_iconst (-1) dX12_lend_25 (by decide) ?_
    have zm1 : ((-1) : Int32).toInt = -1 := rfl
    exact li_iret dX12_lend_26 rfl rfl ⟨⟨_, rfl, (by first | omega | (intro _; omega) | (refine ⟨?_, ?_⟩ <;> first | omega | (intro _; omega)) | (refine ⟨?_, ?_, ?_, ?_⟩ <;> first | omega | (intro _; omega)))⟩, hf, hJ⟩
set_option maxRecDepth 100000 in
set_option maxHeartbeats 4000000 in
theorem k15_X12_undo {l : Launch} {Z : li_Z} (d : Nat) (hdZq : 1 ≤ d) (M0 : li_M) (hJ : li_J M0) (z23 : (M0.1 175 23).toInt = 0) : li_Met l Z YX12_undo d [.ref (Z.2.2 175)] M0 (fun r M' => (∃ x : Int32, r = some (.int x) ∧ (x.toInt = -1)) ∧ li_fs (fun i k => (i = 175 ∧ k = 10)) M0 M' ∧ li_J M') := by
  refine li_enter (by decide +kernel) (Nat.le_of_ble_eq_true rfl) ?_
  show li_T l Z YX12_undo d 0 [(0, .ref (Z.2.2 175))] [] M0 _
  have hf : li_fs (fun i k => (i = 175 ∧ k = 10)) M0 M0 := li_fs_refl
  have rM0_23 := J_sl23 (M := M0) hJ
  refine li_aload_n 0 dX12_undo_0 rfl ?_
  refine li_iconst 0 dX12_undo_1 (by decide) ?_
  refine li_puti (k := 10) (N := 52) (T := TX12) (C0 := RX12) dX12_undo_2 (by decide) sh_175 rfl rfl (by decide) li_in12 tyX12_ok nmX12 rfl rfl rfl rfl w_1414 ?_
  refine li_nm (fun M1Zq eM1 => ?_)
  have hf := li_fs_ui hf (⟨rfl, rfl⟩) eM1
  have z0 : (0 : Int32).toInt = 0 := rfl
  have hJ := hJ.put (k := 10) (by decide) (rg_free rfl) eM1
  have rM1_23 := J_sl23 (M := M1Zq) hJ
  have mM1_23 : (M1Zq.1 175 23).toInt = (M0.1 175 23).toInt := by rw [eM1, li_ui_at, if_pos rfl, if_neg (by decide)]
  refine li_aload_n 0 dX12_undo_5 rfl ?_
  refine li_geti (k := 23) (N := 52) (T := TX12) (C0 := RX12) dX12_undo_6 (by decide) sh_175 rfl rfl (by decide) li_in12 w_1427 ?_
  refine li_top (fun x2Zq ex2Zq => ?_)
  have gx2 : 0 ≤ x2Zq.toInt ∧ x2Zq.toInt ≤ 12 := by rw [ex2Zq]; exact J_sl23 hJ
  have mx2 : x2Zq.toInt = (M1Zq.1 175 23).toInt := tl_slot ex2Zq
  have sx2 : x2Zq.toInt = (M0.1 175 23).toInt := tl_slot (ex2Zq.trans (hf.1 175 23 (show ¬ ((175 = 175 ∧ 23 = 10)) by decide)))
  refine li_if_ne 14 dX12_undo_9 (by decide) (fun c3 => ?_) (fun c3 => ?_)
  · have tc3 : ¬ x2Zq.toInt = 0 := tl_ne c3
    exfalso; omega
  · have tc3 : x2Zq.toInt = 0 := tl_eq c3
    refine li_iconst (-1) dX12_undo_12 (by decide) ?_
    have zm1 : ((-1) : Int32).toInt = -1 := rfl
    exact li_iret dX12_undo_13 rfl rfl ⟨⟨_, rfl, (by first | omega | (intro _; omega) | (refine ⟨?_, ?_⟩ <;> first | omega | (intro _; omega)) | (refine ⟨?_, ?_, ?_, ?_⟩ <;> first | omega | (intro _; omega)))⟩, hf, hJ⟩
set_option maxRecDepth 100000 in
set_option maxHeartbeats 4000000 in
theorem k15_X12_best {l : Launch} {Z : li_Z} (d : Nat) (hdZq : 3 ≤ d) (p1Zq : Int32) (M0 : li_M) (hJ : li_J M0) (z1 : (M0.1 175 1).toInt = 0) : li_Met l Z YX12_best d [.ref (Z.2.2 175), .int p1Zq] M0 (fun r M' => (∃ x : Int32, r = some (.int x) ∧ (x.toInt = -1)) ∧ li_fs (fun i k => (i = 175 ∧ k = 10)) M0 M' ∧ li_J M') := by
  refine li_enter (by decide +kernel) (Nat.le_of_ble_eq_true rfl) ?_
  show li_T l Z YX12_best d 0 [(0, .ref (Z.2.2 175)), (1, .int p1Zq)] [] M0 _
  have hf : li_fs (fun i k => (i = 175 ∧ k = 10)) M0 M0 := li_fs_refl
  have gp1 := tl_rg p1Zq
  have rM0_1 := J_sl1 (M := M0) hJ
  refine li_aload_n 0 dX12_best_0 rfl ?_
  refine li_iconst 0 dX12_best_1 (by decide) ?_
  refine li_puti (k := 10) (N := 52) (T := TX12) (C0 := RX12) dX12_best_2 (by decide) sh_175 rfl rfl (by decide) li_in12 tyX12_ok nmX12 rfl rfl rfl rfl w_1414 ?_
  refine li_nm (fun M1Zq eM1 => ?_)
  have hf := li_fs_ui hf (⟨rfl, rfl⟩) eM1
  have z0 : (0 : Int32).toInt = 0 := rfl
  have hJ := hJ.put (k := 10) (by decide) (rg_free rfl) eM1
  have rM1_1 := J_sl1 (M := M1Zq) hJ
  have mM1_1 : (M1Zq.1 175 1).toInt = (M0.1 175 1).toInt := by rw [eM1, li_ui_at, if_pos rfl, if_neg (by decide)]
  refine li_aload_n 0 dX12_best_5 rfl ?_
  refine li_iload_n 1 dX12_best_6 rfl ?_
  refine li_callV (n := 1) (As := [.int p1Zq]) dX12_best_7 (k_X12_isOne (d - 1) (by omega) p1Zq M1Zq hJ ) (by omega) (Nat.le_of_ble_eq_true rfl) w_1652 w_1654 w_56 w_112 w_1655 (by decide +kernel) rfl (by decide) sh_175 rfl rfl (Nat.le_of_ble_eq_true rfl) (fun r M3Zq h4 => ?_)
  obtain ⟨qx2, h4, jM3⟩ := h4
  have hf := li_fs_trans hf h4 (fun i k hZq => False.elim hZq)
  have hJ := jM3
  have rM3_1 := J_sl1 (M := M3Zq) hJ
  have mM3_1 : (M3Zq.1 175 1).toInt = (M1Zq.1 175 1).toInt := tl_slot (h4.1 175 1 id)
  rcases qx2 with ⟨rfl, qx2⟩ | ⟨rfl, qx2⟩
  · exfalso; omega
  · skip
    refine li_if_ne 15 dX12_best_10 (by decide) (fun c => absurd rfl c) (fun c => ?_)
    refine li_iconst (-1) dX12_best_13 (by decide) ?_
    have zm1 : ((-1) : Int32).toInt = -1 := rfl
    exact li_iret dX12_best_14 rfl rfl ⟨⟨_, rfl, (by first | omega | (intro _; omega) | (refine ⟨?_, ?_⟩ <;> first | omega | (intro _; omega)) | (refine ⟨?_, ?_, ?_, ?_⟩ <;> first | omega | (intro _; omega)))⟩, hf, hJ⟩
set_option maxRecDepth 100000 in
set_option maxHeartbeats 4000000 in
theorem k15_X12_lacks {l : Launch} {Z : li_Z} (d : Nat) (hdZq : 3 ≤ d) (p1Zq : Int32) (M0 : li_M) (hJ : li_J M0) (z1 : (M0.1 175 1).toInt = 0) : li_Met l Z YX12_lacks d [.ref (Z.2.2 175), .int p1Zq] M0 (fun r M' => (∃ x : Int32, r = some (.int x) ∧ (x.toInt = -1)) ∧ li_fs (fun i k => (i = 175 ∧ k = 10)) M0 M' ∧ li_J M') := by
  refine li_enter (by decide +kernel) (Nat.le_of_ble_eq_true rfl) ?_
  show li_T l Z YX12_lacks d 0 [(0, .ref (Z.2.2 175)), (1, .int p1Zq)] [] M0 _
  have hf : li_fs (fun i k => (i = 175 ∧ k = 10)) M0 M0 := li_fs_refl
  have gp1 := tl_rg p1Zq
  have rM0_1 := J_sl1 (M := M0) hJ
  refine li_aload_n 0 dX12_lacks_0 rfl ?_
  refine li_iconst 0 dX12_lacks_1 (by decide) ?_
  refine li_puti (k := 10) (N := 52) (T := TX12) (C0 := RX12) dX12_lacks_2 (by decide) sh_175 rfl rfl (by decide) li_in12 tyX12_ok nmX12 rfl rfl rfl rfl w_1414 ?_
  refine li_nm (fun M1Zq eM1 => ?_)
  have hf := li_fs_ui hf (⟨rfl, rfl⟩) eM1
  have z0 : (0 : Int32).toInt = 0 := rfl
  have hJ := hJ.put (k := 10) (by decide) (rg_free rfl) eM1
  have rM1_1 := J_sl1 (M := M1Zq) hJ
  have mM1_1 : (M1Zq.1 175 1).toInt = (M0.1 175 1).toInt := by rw [eM1, li_ui_at, if_pos rfl, if_neg (by decide)]
  refine li_aload_n 0 dX12_lacks_5 rfl ?_
  refine li_iload_n 1 dX12_lacks_6 rfl ?_
  refine li_callV (n := 1) (As := [.int p1Zq]) dX12_lacks_7 (k_X12_isOne (d - 1) (by omega) p1Zq M1Zq hJ ) (by omega) (Nat.le_of_ble_eq_true rfl) w_1652 w_1654 w_56 w_112 w_1655 (by decide +kernel) rfl (by decide) sh_175 rfl rfl (Nat.le_of_ble_eq_true rfl) (fun r M3Zq h4 => ?_)
  obtain ⟨qx2, h4, jM3⟩ := h4
  have hf := li_fs_trans hf h4 (fun i k hZq => False.elim hZq)
  have hJ := jM3
  have rM3_1 := J_sl1 (M := M3Zq) hJ
  have mM3_1 : (M3Zq.1 175 1).toInt = (M1Zq.1 175 1).toInt := tl_slot (h4.1 175 1 id)
  rcases qx2 with ⟨rfl, qx2⟩ | ⟨rfl, qx2⟩
  · exfalso; omega
  · skip
    refine li_if_ne 15 dX12_lacks_10 (by decide) (fun c => absurd rfl c) (fun c => ?_)
    refine li_iconst (-1) dX12_lacks_13 (by decide) ?_
    have zm1 : ((-1) : Int32).toInt = -1 := rfl
    exact li_iret dX12_lacks_14 rfl rfl ⟨⟨_, rfl, (by first | omega | (intro _; omega) | (refine ⟨?_, ?_⟩ <;> first | omega | (intro _; omega)) | (refine ⟨?_, ?_, ?_, ?_⟩ <;> first | omega | (intro _; omega)))⟩, hf, hJ⟩
set_option maxRecDepth 100000 in
set_option maxHeartbeats 4000000 in
theorem k15_X12_spoke {l : Launch} {Z : li_Z} (d : Nat) (hdZq : 3 ≤ d) (p1Zq : Int32) (M0 : li_M) (hJ : li_J M0) (z1 : (M0.1 175 1).toInt = 0) : li_Met l Z YX12_spoke d [.ref (Z.2.2 175), .int p1Zq] M0 (fun r M' => (∃ x : Int32, r = some (.int x) ∧ (x.toInt = -1)) ∧ li_fs (fun i k => (i = 175 ∧ k = 10)) M0 M' ∧ li_J M') := by
  refine li_enter (by decide +kernel) (Nat.le_of_ble_eq_true rfl) ?_
  show li_T l Z YX12_spoke d 0 [(0, .ref (Z.2.2 175)), (1, .int p1Zq)] [] M0 _
  have hf : li_fs (fun i k => (i = 175 ∧ k = 10)) M0 M0 := li_fs_refl
  have gp1 := tl_rg p1Zq
  have rM0_1 := J_sl1 (M := M0) hJ
  refine li_aload_n 0 dX12_spoke_0 rfl ?_
  refine li_iconst 0 dX12_spoke_1 (by decide) ?_
  refine li_puti (k := 10) (N := 52) (T := TX12) (C0 := RX12) dX12_spoke_2 (by decide) sh_175 rfl rfl (by decide) li_in12 tyX12_ok nmX12 rfl rfl rfl rfl w_1414 ?_
  refine li_nm (fun M1Zq eM1 => ?_)
  have hf := li_fs_ui hf (⟨rfl, rfl⟩) eM1
  have z0 : (0 : Int32).toInt = 0 := rfl
  have hJ := hJ.put (k := 10) (by decide) (rg_free rfl) eM1
  have rM1_1 := J_sl1 (M := M1Zq) hJ
  have mM1_1 : (M1Zq.1 175 1).toInt = (M0.1 175 1).toInt := by rw [eM1, li_ui_at, if_pos rfl, if_neg (by decide)]
  refine li_aload_n 0 dX12_spoke_5 rfl ?_
  refine li_iload_n 1 dX12_spoke_6 rfl ?_
  refine li_callV (n := 1) (As := [.int p1Zq]) dX12_spoke_7 (k_X12_isOne (d - 1) (by omega) p1Zq M1Zq hJ ) (by omega) (Nat.le_of_ble_eq_true rfl) w_1652 w_1654 w_56 w_112 w_1655 (by decide +kernel) rfl (by decide) sh_175 rfl rfl (Nat.le_of_ble_eq_true rfl) (fun r M3Zq h4 => ?_)
  obtain ⟨qx2, h4, jM3⟩ := h4
  have hf := li_fs_trans hf h4 (fun i k hZq => False.elim hZq)
  have hJ := jM3
  have rM3_1 := J_sl1 (M := M3Zq) hJ
  have mM3_1 : (M3Zq.1 175 1).toInt = (M1Zq.1 175 1).toInt := tl_slot (h4.1 175 1 id)
  rcases qx2 with ⟨rfl, qx2⟩ | ⟨rfl, qx2⟩
  · exfalso; omega
  · skip
    refine li_if_ne 15 dX12_spoke_10 (by decide) (fun c => absurd rfl c) (fun c => ?_)
    refine li_iconst (-1) dX12_spoke_13 (by decide) ?_
    have zm1 : ((-1) : Int32).toInt = -1 := rfl
    exact li_iret dX12_spoke_14 rfl rfl ⟨⟨_, rfl, (by first | omega | (intro _; omega) | (refine ⟨?_, ?_⟩ <;> first | omega | (intro _; omega)) | (refine ⟨?_, ?_, ?_, ?_⟩ <;> first | omega | (intro _; omega)))⟩, hf, hJ⟩
set_option maxRecDepth 100000 in
set_option maxHeartbeats 4000000 in
theorem k15_X12_run {l : Launch} {Z : li_Z} (d : Nat) (hdZq : 3 ≤ d) (p1Zq : Int32) (M0 : li_M) (hJ : li_J M0) (z1 : (M0.1 175 1).toInt = 0) : li_Met l Z YX12_run d [.ref (Z.2.2 175), .int p1Zq] M0 (fun r M' => (∃ x : Int32, r = some (.int x) ∧ (x.toInt = -1)) ∧ li_fs (fun i k => (i = 175 ∧ k = 10)) M0 M' ∧ li_J M') := by
  refine li_enter (by decide +kernel) (Nat.le_of_ble_eq_true rfl) ?_
  show li_T l Z YX12_run d 0 [(0, .ref (Z.2.2 175)), (1, .int p1Zq)] [] M0 _
  have hf : li_fs (fun i k => (i = 175 ∧ k = 10)) M0 M0 := li_fs_refl
  have gp1 := tl_rg p1Zq
  have rM0_1 := J_sl1 (M := M0) hJ
  refine li_aload_n 0 dX12_run_0 rfl ?_
  refine li_iconst 0 dX12_run_1 (by decide) ?_
  refine li_puti (k := 10) (N := 52) (T := TX12) (C0 := RX12) dX12_run_2 (by decide) sh_175 rfl rfl (by decide) li_in12 tyX12_ok nmX12 rfl rfl rfl rfl w_1414 ?_
  refine li_nm (fun M1Zq eM1 => ?_)
  have hf := li_fs_ui hf (⟨rfl, rfl⟩) eM1
  have z0 : (0 : Int32).toInt = 0 := rfl
  have hJ := hJ.put (k := 10) (by decide) (rg_free rfl) eM1
  have rM1_1 := J_sl1 (M := M1Zq) hJ
  have mM1_1 : (M1Zq.1 175 1).toInt = (M0.1 175 1).toInt := by rw [eM1, li_ui_at, if_pos rfl, if_neg (by decide)]
  refine li_aload_n 0 dX12_run_5 rfl ?_
  refine li_iload_n 1 dX12_run_6 rfl ?_
  refine li_callV (n := 1) (As := [.int p1Zq]) dX12_run_7 (k_X12_isOne (d - 1) (by omega) p1Zq M1Zq hJ ) (by omega) (Nat.le_of_ble_eq_true rfl) w_1652 w_1654 w_56 w_112 w_1655 (by decide +kernel) rfl (by decide) sh_175 rfl rfl (Nat.le_of_ble_eq_true rfl) (fun r M3Zq h4 => ?_)
  obtain ⟨qx2, h4, jM3⟩ := h4
  have hf := li_fs_trans hf h4 (fun i k hZq => False.elim hZq)
  have hJ := jM3
  have rM3_1 := J_sl1 (M := M3Zq) hJ
  have mM3_1 : (M3Zq.1 175 1).toInt = (M1Zq.1 175 1).toInt := tl_slot (h4.1 175 1 id)
  rcases qx2 with ⟨rfl, qx2⟩ | ⟨rfl, qx2⟩
  · exfalso; omega
  · skip
    refine li_if_ne 15 dX12_run_10 (by decide) (fun c => absurd rfl c) (fun c => ?_)
    refine li_iconst (-1) dX12_run_13 (by decide) ?_
    have zm1 : ((-1) : Int32).toInt = -1 := rfl
    exact li_iret dX12_run_14 rfl rfl ⟨⟨_, rfl, (by first | omega | (intro _; omega) | (refine ⟨?_, ?_⟩ <;> first | omega | (intro _; omega)) | (refine ⟨?_, ?_, ?_, ?_⟩ <;> first | omega | (intro _; omega)))⟩, hf, hJ⟩
set_option maxRecDepth 100000 in
set_option maxHeartbeats 4000000 in
theorem k15_X12_relay {l : Launch} {Z : li_Z} (d : Nat) (hdZq : 3 ≤ d) (p1Zq p2Zq p3Zq : Int32) (M0 : li_M) (hJ : li_J M0) (z1 : (M0.1 175 1).toInt = 0) : li_Met l Z YX12_relay d [.ref (Z.2.2 175), .int p1Zq, .int p2Zq, .int p3Zq] M0 (fun r M' => (∃ x : Int32, r = some (.int x) ∧ (x.toInt = -1)) ∧ li_fs (fun i k => (i = 175 ∧ k = 10)) M0 M' ∧ li_J M') := by
  refine li_enter (by decide +kernel) (Nat.le_of_ble_eq_true rfl) ?_
  show li_T l Z YX12_relay d 0 [(0, .ref (Z.2.2 175)), (1, .int p1Zq), (2, .int p2Zq), (3, .int p3Zq)] [] M0 _
  have hf : li_fs (fun i k => (i = 175 ∧ k = 10)) M0 M0 := li_fs_refl
  have gp1 := tl_rg p1Zq
  have gp2 := tl_rg p2Zq
  have gp3 := tl_rg p3Zq
  have rM0_1 := J_sl1 (M := M0) hJ
  refine li_aload_n 0 dX12_relay_0 rfl ?_
  refine li_iconst 0 dX12_relay_1 (by decide) ?_
  refine li_puti (k := 10) (N := 52) (T := TX12) (C0 := RX12) dX12_relay_2 (by decide) sh_175 rfl rfl (by decide) li_in12 tyX12_ok nmX12 rfl rfl rfl rfl w_1414 ?_
  refine li_nm (fun M1Zq eM1 => ?_)
  have hf := li_fs_ui hf (⟨rfl, rfl⟩) eM1
  have z0 : (0 : Int32).toInt = 0 := rfl
  have hJ := hJ.put (k := 10) (by decide) (rg_free rfl) eM1
  have rM1_1 := J_sl1 (M := M1Zq) hJ
  have mM1_1 : (M1Zq.1 175 1).toInt = (M0.1 175 1).toInt := by rw [eM1, li_ui_at, if_pos rfl, if_neg (by decide)]
  refine li_aload_n 0 dX12_relay_5 rfl ?_
  refine li_iload_n 1 dX12_relay_6 rfl ?_
  refine li_callV (n := 1) (As := [.int p1Zq]) dX12_relay_7 (k_X12_isOne (d - 1) (by omega) p1Zq M1Zq hJ ) (by omega) (Nat.le_of_ble_eq_true rfl) w_1652 w_1654 w_56 w_112 w_1655 (by decide +kernel) rfl (by decide) sh_175 rfl rfl (Nat.le_of_ble_eq_true rfl) (fun r M3Zq h4 => ?_)
  obtain ⟨qx2, h4, jM3⟩ := h4
  have hf := li_fs_trans hf h4 (fun i k hZq => False.elim hZq)
  have hJ := jM3
  have rM3_1 := J_sl1 (M := M3Zq) hJ
  have mM3_1 : (M3Zq.1 175 1).toInt = (M1Zq.1 175 1).toInt := tl_slot (h4.1 175 1 id)
  rcases qx2 with ⟨rfl, qx2⟩ | ⟨rfl, qx2⟩
  · exfalso; omega
  · skip
    refine li_if_eq 31 dX12_relay_10 (by decide) (fun c => ?_) (fun c => absurd rfl c)
    refine li_iconst (-1) dX12_relay_31 (by decide) ?_
    have zm1 : ((-1) : Int32).toInt = -1 := rfl
    exact li_iret dX12_relay_32 rfl rfl ⟨⟨_, rfl, (by first | omega | (intro _; omega) | (refine ⟨?_, ?_⟩ <;> first | omega | (intro _; omega)) | (refine ⟨?_, ?_, ?_, ?_⟩ <;> first | omega | (intro _; omega)))⟩, hf, hJ⟩
set_option maxRecDepth 100000 in
set_option maxHeartbeats 4000000 in
theorem k15_X12_criers {l : Launch} {Z : li_Z} (d : Nat) (hdZq : 3 ≤ d) (p1Zq p2Zq p3Zq : Int32) (M0 : li_M) (hJ : li_J M0) (z1 : (M0.1 175 1).toInt = 0) : li_Met l Z YX12_criers d [.ref (Z.2.2 175), .int p1Zq, .int p2Zq, .int p3Zq] M0 (fun r M' => (∃ x : Int32, r = some (.int x) ∧ (x.toInt = -1)) ∧ li_fs (fun i k => (i = 175 ∧ k = 10)) M0 M' ∧ li_J M') := by
  refine li_enter (by decide +kernel) (Nat.le_of_ble_eq_true rfl) ?_
  show li_T l Z YX12_criers d 0 [(0, .ref (Z.2.2 175)), (1, .int p1Zq), (2, .int p2Zq), (3, .int p3Zq)] [] M0 _
  have hf : li_fs (fun i k => (i = 175 ∧ k = 10)) M0 M0 := li_fs_refl
  have gp1 := tl_rg p1Zq
  have gp2 := tl_rg p2Zq
  have gp3 := tl_rg p3Zq
  have rM0_1 := J_sl1 (M := M0) hJ
  refine li_aload_n 0 dX12_criers_0 rfl ?_
  refine li_iconst 0 dX12_criers_1 (by decide) ?_
  refine li_puti (k := 10) (N := 52) (T := TX12) (C0 := RX12) dX12_criers_2 (by decide) sh_175 rfl rfl (by decide) li_in12 tyX12_ok nmX12 rfl rfl rfl rfl w_1414 ?_
  refine li_nm (fun M1Zq eM1 => ?_)
  have hf := li_fs_ui hf (⟨rfl, rfl⟩) eM1
  have z0 : (0 : Int32).toInt = 0 := rfl
  have hJ := hJ.put (k := 10) (by decide) (rg_free rfl) eM1
  have rM1_1 := J_sl1 (M := M1Zq) hJ
  have mM1_1 : (M1Zq.1 175 1).toInt = (M0.1 175 1).toInt := by rw [eM1, li_ui_at, if_pos rfl, if_neg (by decide)]
  refine li_aload_n 0 dX12_criers_5 rfl ?_
  refine li_iload_n 1 dX12_criers_6 rfl ?_
  refine li_callV (n := 1) (As := [.int p1Zq]) dX12_criers_7 (k_X12_isOne (d - 1) (by omega) p1Zq M1Zq hJ ) (by omega) (Nat.le_of_ble_eq_true rfl) w_1652 w_1654 w_56 w_112 w_1655 (by decide +kernel) rfl (by decide) sh_175 rfl rfl (Nat.le_of_ble_eq_true rfl) (fun r M3Zq h4 => ?_)
  obtain ⟨qx2, h4, jM3⟩ := h4
  have hf := li_fs_trans hf h4 (fun i k hZq => False.elim hZq)
  have hJ := jM3
  have rM3_1 := J_sl1 (M := M3Zq) hJ
  have mM3_1 : (M3Zq.1 175 1).toInt = (M1Zq.1 175 1).toInt := tl_slot (h4.1 175 1 id)
  rcases qx2 with ⟨rfl, qx2⟩ | ⟨rfl, qx2⟩
  · exfalso; omega
  · skip
    refine li_if_eq 39 dX12_criers_10 (by decide) (fun c => ?_) (fun c => absurd rfl c)
    refine li_iconst (-1) dX12_criers_39 (by decide) ?_
    have zm1 : ((-1) : Int32).toInt = -1 := rfl
    exact li_iret dX12_criers_40 rfl rfl ⟨⟨_, rfl, (by first | omega | (intro _; omega) | (refine ⟨?_, ?_⟩ <;> first | omega | (intro _; omega)) | (refine ⟨?_, ?_, ?_, ?_⟩ <;> first | omega | (intro _; omega)))⟩, hf, hJ⟩
set_option maxRecDepth 100000 in
set_option maxHeartbeats 4000000 in
theorem k15_X12_move {l : Launch} {Z : li_Z} (d : Nat) (hdZq : 3 ≤ d) (p1Zq p2Zq : Int32) (M0 : li_M) (hJ : li_J M0) (z1 : (M0.1 175 1).toInt = 0) : li_Met l Z YX12_move d [.ref (Z.2.2 175), .int p1Zq, .int p2Zq] M0 (fun r M' => (∃ x : Int32, r = some (.int x) ∧ (x.toInt = -1)) ∧ li_fs (fun i k => (i = 175 ∧ k = 10)) M0 M' ∧ li_J M') := by
  refine li_enter (by decide +kernel) (Nat.le_of_ble_eq_true rfl) ?_
  show li_T l Z YX12_move d 0 [(0, .ref (Z.2.2 175)), (1, .int p1Zq), (2, .int p2Zq)] [] M0 _
  have hf : li_fs (fun i k => (i = 175 ∧ k = 10)) M0 M0 := li_fs_refl
  have gp1 := tl_rg p1Zq
  have gp2 := tl_rg p2Zq
  have rM0_1 := J_sl1 (M := M0) hJ
  refine li_aload_n 0 dX12_move_0 rfl ?_
  refine li_iconst 0 dX12_move_1 (by decide) ?_
  refine li_puti (k := 10) (N := 52) (T := TX12) (C0 := RX12) dX12_move_2 (by decide) sh_175 rfl rfl (by decide) li_in12 tyX12_ok nmX12 rfl rfl rfl rfl w_1414 ?_
  refine li_nm (fun M1Zq eM1 => ?_)
  have hf := li_fs_ui hf (⟨rfl, rfl⟩) eM1
  have z0 : (0 : Int32).toInt = 0 := rfl
  have hJ := hJ.put (k := 10) (by decide) (rg_free rfl) eM1
  have rM1_1 := J_sl1 (M := M1Zq) hJ
  have mM1_1 : (M1Zq.1 175 1).toInt = (M0.1 175 1).toInt := by rw [eM1, li_ui_at, if_pos rfl, if_neg (by decide)]
  refine li_aload_n 0 dX12_move_5 rfl ?_
  refine li_iload_n 1 dX12_move_6 rfl ?_
  refine li_callV (n := 1) (As := [.int p1Zq]) dX12_move_7 (k_X12_isOne (d - 1) (by omega) p1Zq M1Zq hJ ) (by omega) (Nat.le_of_ble_eq_true rfl) w_1652 w_1654 w_56 w_112 w_1655 (by decide +kernel) rfl (by decide) sh_175 rfl rfl (Nat.le_of_ble_eq_true rfl) (fun r M3Zq h4 => ?_)
  obtain ⟨qx2, h4, jM3⟩ := h4
  have hf := li_fs_trans hf h4 (fun i k hZq => False.elim hZq)
  have hJ := jM3
  have rM3_1 := J_sl1 (M := M3Zq) hJ
  have mM3_1 : (M3Zq.1 175 1).toInt = (M1Zq.1 175 1).toInt := tl_slot (h4.1 175 1 id)
  rcases qx2 with ⟨rfl, qx2⟩ | ⟨rfl, qx2⟩
  · exfalso; omega
  · skip
    refine li_if_eq 23 dX12_move_10 (by decide) (fun c => ?_) (fun c => absurd rfl c)
    refine li_iconst (-1) dX12_move_23 (by decide) ?_
    have zm1 : ((-1) : Int32).toInt = -1 := rfl
    exact li_iret dX12_move_24 rfl rfl ⟨⟨_, rfl, (by first | omega | (intro _; omega) | (refine ⟨?_, ?_⟩ <;> first | omega | (intro _; omega)) | (refine ⟨?_, ?_, ?_, ?_⟩ <;> first | omega | (intro _; omega)))⟩, hf, hJ⟩
set_option maxRecDepth 100000 in
set_option maxHeartbeats 4000000 in
theorem k15_X12_read {l : Launch} {Z : li_Z} (d : Nat) (hdZq : 3 ≤ d) (p1Zq p2Zq : Int32) (M0 : li_M) (hJ : li_J M0) (z1 : (M0.1 175 1).toInt = 0) : li_Met l Z YX12_read d [.ref (Z.2.2 175), .int p1Zq, .int p2Zq] M0 (fun r M' => (∃ x : Int32, r = some (.int x) ∧ (x.toInt = -1)) ∧ li_fs (fun i k => (i = 175 ∧ k = 10)) M0 M' ∧ li_J M') := by
  refine li_enter (by decide +kernel) (Nat.le_of_ble_eq_true rfl) ?_
  show li_T l Z YX12_read d 0 [(0, .ref (Z.2.2 175)), (1, .int p1Zq), (2, .int p2Zq)] [] M0 _
  have hf : li_fs (fun i k => (i = 175 ∧ k = 10)) M0 M0 := li_fs_refl
  have gp1 := tl_rg p1Zq
  have gp2 := tl_rg p2Zq
  have rM0_1 := J_sl1 (M := M0) hJ
  refine li_aload_n 0 dX12_read_0 rfl ?_
  refine li_iconst 0 dX12_read_1 (by decide) ?_
  refine li_puti (k := 10) (N := 52) (T := TX12) (C0 := RX12) dX12_read_2 (by decide) sh_175 rfl rfl (by decide) li_in12 tyX12_ok nmX12 rfl rfl rfl rfl w_1414 ?_
  refine li_nm (fun M1Zq eM1 => ?_)
  have hf := li_fs_ui hf (⟨rfl, rfl⟩) eM1
  have z0 : (0 : Int32).toInt = 0 := rfl
  have hJ := hJ.put (k := 10) (by decide) (rg_free rfl) eM1
  have rM1_1 := J_sl1 (M := M1Zq) hJ
  have mM1_1 : (M1Zq.1 175 1).toInt = (M0.1 175 1).toInt := by rw [eM1, li_ui_at, if_pos rfl, if_neg (by decide)]
  refine li_aload_n 0 dX12_read_5 rfl ?_
  refine li_iload_n 1 dX12_read_6 rfl ?_
  refine li_callV (n := 1) (As := [.int p1Zq]) dX12_read_7 (k_X12_isOne (d - 1) (by omega) p1Zq M1Zq hJ ) (by omega) (Nat.le_of_ble_eq_true rfl) w_1652 w_1654 w_56 w_112 w_1655 (by decide +kernel) rfl (by decide) sh_175 rfl rfl (Nat.le_of_ble_eq_true rfl) (fun r M3Zq h4 => ?_)
  obtain ⟨qx2, h4, jM3⟩ := h4
  have hf := li_fs_trans hf h4 (fun i k hZq => False.elim hZq)
  have hJ := jM3
  have rM3_1 := J_sl1 (M := M3Zq) hJ
  have mM3_1 : (M3Zq.1 175 1).toInt = (M1Zq.1 175 1).toInt := tl_slot (h4.1 175 1 id)
  rcases qx2 with ⟨rfl, qx2⟩ | ⟨rfl, qx2⟩
  · exfalso; omega
  · skip
    refine li_if_eq 24 dX12_read_10 (by decide) (fun c => ?_) (fun c => absurd rfl c)
    refine li_iconst (-1) dX12_read_24 (by decide) ?_
    have zm1 : ((-1) : Int32).toInt = -1 := rfl
    exact li_iret dX12_read_25 rfl rfl ⟨⟨_, rfl, (by first | omega | (intro _; omega) | (refine ⟨?_, ?_⟩ <;> first | omega | (intro _; omega)) | (refine ⟨?_, ?_, ?_, ?_⟩ <;> first | omega | (intro _; omega)))⟩, hf, hJ⟩
