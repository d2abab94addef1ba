set_option maxRecDepth 100000 in
set_option maxHeartbeats 4000000 in
theorem k3_X12_readRule {l : Launch} {Z : li_Z} (d : Nat) (hd : 338 ≤ d) (M0 : li_M) (hJ : li_J M0) : li_Met l Z YX12_readRule d [.ref (Z.2.2 175)] M0 (fun r M' => ((r = some (.int 1) ∧ ((M0.1 175 7).toInt ≤ 40)) ∨ (r = some (.int 0) ∧ True)) ∧ li_fs (fun i k => i = 1000 ∨ (i = 175 ∧ k = 12) ∨ (i = 175 ∧ k = 13) ∨ (i = 175 ∧ k = 14) ∨ (i = 175 ∧ k = 15) ∨ (i = 175 ∧ k = 20) ∨ (i = 175 ∧ k = 7)) M0 M' ∧ li_J M' ∧ (M'.1 175 7).toInt = 0) := by
  refine li_enter (by decide +kernel) (Nat.le_of_ble_eq_true rfl) ?_
  show li_T l Z YX12_readRule d 0 [(0, .ref (Z.2.2 175))] [] M0 _
  have hf : li_fs (fun i k => i = 1000 ∨ (i = 175 ∧ k = 12) ∨ (i = 175 ∧ k = 13) ∨ (i = 175 ∧ k = 14) ∨ (i = 175 ∧ k = 15) ∨ (i = 175 ∧ k = 20) ∨ (i = 175 ∧ k = 7)) M0 M0 := li_fs_refl
  have rM0_7 := J_sl7 (M := M0) hJ
  have rM0_12 := J_sl12 (M := M0) hJ
  have rM0_13 := J_sl13 (M := M0) hJ
  have rM0_14 := J_sl14 (M := M0) hJ
  have rM0_15 := J_sl15 (M := M0) hJ
  refine li_aload_n 0 dX12_readRule_0 rfl ?_
  refine li_geti (k := 7) (N := 52) (T := TX12) (C0 := RX12) dX12_readRule_1 (by decide) sh_175 rfl rfl (by decide) li_in12 w_1411 ?_
  refine li_top (fun x1 ex1 => ?_)
  have gx1 : 0 ≤ x1.toInt ∧ x1.toInt ≤ 80 := by rw [ex1]; exact J_sl7 hJ
  have mx1 : x1.toInt = (M0.1 175 7).toInt := tl_slot ex1
  refine li_istore_n [(1, .int x1), (0, .ref (Z.2.2 175))] dX12_readRule_4 (by decide) rfl ?_
  refine li_aload_n 1 dX12_readRule_5 rfl ?_
  refine li_aload_n 1 dX12_readRule_6 rfl ?_
  refine li_getr (k := 6) (N := 52) (T := TX12) (C0 := RX12) dX12_readRule_7 (by decide) sh_175 rfl rfl (by decide) (by decide) li_in12 w_1410 ?_
  refine li_iload_n 0 dX12_readRule_10 rfl ?_
  refine li_bipush 40 dX12_readRule_11 (by decide) ?_
  have z40 : (40 : Int32).toInt = 40 := rfl
  refine li_callV (n := 3) (As := [.ref (Z.2.2 180), .int x1, .int 40]) dX12_readRule_13 (k_X12_begin (d - 1) (by unfold li_rq; omega) x1 40 M0 hJ (show 0 ≤ (x1 : Int32).toInt ∧ (x1 : Int32).toInt ≤ (li_qn 180 : Int) by have := li_qn_fix; omega) (by omega)) (by omega) (Nat.le_of_ble_eq_true rfl) w_1577 w_1579 w_42 w_112 w_1580 (by decide +kernel) rfl (by decide) sh_175 rfl rfl (Nat.le_of_ble_eq_true rfl) (fun r M3 h4 => ?_)
  obtain ⟨rfl, h4, jM3, nM3⟩ := h4
  have hf := li_fs_trans hf h4 (fun i k => fun h => Or.elim h (fun h => Or.inr (Or.inl h)) (fun h => Or.elim h (fun h => Or.inr (Or.inr (Or.inl h))) (fun h => Or.elim h (fun h => Or.inr (Or.inr (Or.inr (Or.inl h)))) (fun h => Or.elim h (fun h => Or.inr (Or.inr (Or.inr (Or.inr (Or.inl h))))) (fun h => Or.inl h)))))
  have hJ := jM3
  have rM3_7 := J_sl7 (M := M3) hJ
  have rM3_12 := J_sl12 (M := M3) hJ
  have rM3_13 := J_sl13 (M := M3) hJ
  have rM3_14 := J_sl14 (M := M3) hJ
  have rM3_15 := J_sl15 (M := M3) hJ
  have mM3_7 : (M3.1 175 7).toInt = (M0.1 175 7).toInt := tl_slot (h4.1 175 7 (show ¬ ((175 = 175 ∧ 7 = 12) ∨ (175 = 175 ∧ 7 = 13) ∨ (175 = 175 ∧ 7 = 14) ∨ (175 = 175 ∧ 7 = 15) ∨ 175 = 1000) by decide))
  refine li_aload_n 1 dX12_readRule_16 rfl ?_
  refine li_iconst 0 dX12_readRule_17 (by decide) ?_
  refine li_puti (k := 7) (N := 52) (T := TX12) (C0 := RX12) dX12_readRule_18 (by decide) sh_175 rfl rfl (by decide) li_in12 tyX12_ok nmX12 rfl rfl rfl rfl w_1411 ?_
  refine li_nm (fun M5 eM5 => ?_)
  have hf := li_fs_ui hf (Or.inr (Or.inr (Or.inr (Or.inr (Or.inr (Or.inr (⟨rfl, rfl⟩))))))) eM5
  have z0 : (0 : Int32).toInt = 0 := rfl
  have hJ := J_pt7 hJ (show 0 ≤ (0 : Int32).toInt ∧ (0 : Int32).toInt ≤ 80 by omega) eM5
  have rM5_7 := J_sl7 (M := M5) hJ
  have rM5_12 := J_sl12 (M := M5) hJ
  have rM5_13 := J_sl13 (M := M5) hJ
  have rM5_14 := J_sl14 (M := M5) hJ
  have rM5_15 := J_sl15 (M := M5) hJ
  have mM5_7 : (M5.1 175 7).toInt = 0 := by rw [eM5, li_ui_at, if_pos rfl, if_pos rfl]; rfl
  have mM5_12 : (M5.1 175 12).toInt = (M3.1 175 12).toInt := by rw [eM5, li_ui_at, if_pos rfl, if_neg (by decide)]
  have mM5_13 : (M5.1 175 13).toInt = (M3.1 175 13).toInt := by rw [eM5, li_ui_at, if_pos rfl, if_neg (by decide)]
  have mM5_14 : (M5.1 175 14).toInt = (M3.1 175 14).toInt := by rw [eM5, li_ui_at, if_pos rfl, if_neg (by decide)]
  have mM5_15 : (M5.1 175 15).toInt = (M3.1 175 15).toInt := by rw [eM5, li_ui_at, if_pos rfl, if_neg (by decide)]
  refine li_aload_n 1 dX12_readRule_21 rfl ?_
  refine li_iconst 0 dX12_readRule_22 (by decide) ?_
  refine li_puti (k := 20) (N := 52) (T := TX12) (C0 := RX12) dX12_readRule_23 (by decide) sh_175 rfl rfl (by decide) li_in12 tyX12_ok nmX12 rfl rfl (li_nz (Or.inl rfl)) (li_fz (Or.inl rfl)) w_1424 ?_
  refine li_nm (fun M6 eM6 => ?_)
  have hf := li_fs_ui hf (Or.inr (Or.inr (Or.inr (Or.inr (Or.inr (Or.inl ⟨rfl, rfl⟩)))))) eM6
  have z0 : (0 : Int32).toInt = 0 := rfl
  have hJ := hJ.put (k := 20) (by decide) (rg_free rfl) eM6
  have rM6_7 := J_sl7 (M := M6) hJ
  have rM6_12 := J_sl12 (M := M6) hJ
  have rM6_13 := J_sl13 (M := M6) hJ
  have rM6_14 := J_sl14 (M := M6) hJ
  have rM6_15 := J_sl15 (M := M6) hJ
  have mM6_7 : (M6.1 175 7).toInt = (M5.1 175 7).toInt := by rw [eM6, li_ui_at, if_pos rfl, if_neg (by decide)]
  have mM6_12 : (M6.1 175 12).toInt = (M5.1 175 12).toInt := by rw [eM6, li_ui_at, if_pos rfl, if_neg (by decide)]
  have mM6_13 : (M6.1 175 13).toInt = (M5.1 175 13).toInt := by rw [eM6, li_ui_at, if_pos rfl, if_neg (by decide)]
  have mM6_14 : (M6.1 175 14).toInt = (M5.1 175 14).toInt := by rw [eM6, li_ui_at, if_pos rfl, if_neg (by decide)]
  have mM6_15 : (M6.1 175 15).toInt = (M5.1 175 15).toInt := by rw [eM6, li_ui_at, if_pos rfl, if_neg (by decide)]
  refine li_iload_n 0 dX12_readRule_26 rfl ?_
  refine li_if_le 52 dX12_readRule_27 (by decide) (fun c7 => ?_) (fun c7 => ?_)
  · have tc7 : x1.toInt ≤ 0 := tl_le c7
    refine li_aload_n 1 dX12_readRule_52 rfl ?_
    refine li_callV (n := 0) (As := []) dX12_readRule_53 (k_X12_fine (d - 1) (by omega)  M6 hJ ) (by omega) (Nat.le_of_ble_eq_true rfl) w_1581 w_1583 w_43 w_112 w_1584 (by decide +kernel) rfl (by decide) sh_175 rfl rfl (Nat.le_of_ble_eq_true rfl) (fun r M9 h10 => ?_)
    obtain ⟨qx8, h10, jM9⟩ := h10
    have hf := li_fs_trans hf h10 (fun i k h => False.elim h)
    have hJ := jM9
    have rM9_7 := J_sl7 (M := M9) hJ
    have rM9_12 := J_sl12 (M := M9) hJ
    have rM9_13 := J_sl13 (M := M9) hJ
    have rM9_14 := J_sl14 (M := M9) hJ
    have rM9_15 := J_sl15 (M := M9) hJ
    have mM9_7 : (M9.1 175 7).toInt = (M6.1 175 7).toInt := tl_slot (h10.1 175 7 id)
    have mM9_12 : (M9.1 175 12).toInt = (M6.1 175 12).toInt := tl_slot (h10.1 175 12 id)
    have mM9_13 : (M9.1 175 13).toInt = (M6.1 175 13).toInt := tl_slot (h10.1 175 13 id)
    have mM9_14 : (M9.1 175 14).toInt = (M6.1 175 14).toInt := tl_slot (h10.1 175 14 id)
    have mM9_15 : (M9.1 175 15).toInt = (M6.1 175 15).toInt := tl_slot (h10.1 175 15 id)
    rcases qx8 with ⟨rfl, qx8⟩ | ⟨rfl, qx8⟩
    · skip
      have z1 : (1 : Int32).toInt = 1 := rfl
      exact li_iret dX12_readRule_56 rfl (li_nz (Or.inr rfl)) ⟨Or.inl ⟨rfl, (by omega)⟩, hf, hJ, (by omega)⟩
    · skip
      have z0 : (0 : Int32).toInt = 0 := rfl
      exact li_iret dX12_readRule_56 rfl (li_nz (Or.inl rfl)) ⟨Or.inr ⟨rfl, trivial⟩, hf, hJ, (by omega)⟩
  · have tc7 : 0 < x1.toInt := tl_nle c7
    refine li_aload_n 1 dX12_readRule_30 rfl ?_
    refine li_iconst 0 dX12_readRule_31 (by decide) ?_
    have z0 : (0 : Int32).toInt = 0 := rfl
    refine li_callV (n := 1) (As := [.int 0]) dX12_readRule_32 ((kk_parse 81).2.2.2 0 M6 (d - 1) hJ (by have := J_sl14 hJ; omega) (by omega)) (by omega) (Nat.le_of_ble_eq_true rfl) w_1625 w_1627 w_52 w_112 w_1628 (by decide +kernel) rfl (by decide) sh_175 rfl rfl (Nat.le_of_ble_eq_true rfl) (fun r M12 h13 => ?_)
    obtain ⟨⟨x11, rfl, qx11⟩, h13, jM12⟩ := h13
    have gx11 := tl_rg x11
    have hf := li_fs_trans hf h13 (fun i k => fun h => Or.elim h (fun h => Or.inr (Or.inr (Or.inr (Or.inl h)))) (fun h => Or.inr (Or.inr (Or.inr (Or.inr (Or.inl h))))))
    have hJ := jM12
    have rM12_7 := J_sl7 (M := M12) hJ
    have rM12_12 := J_sl12 (M := M12) hJ
    have rM12_13 := J_sl13 (M := M12) hJ
    have rM12_14 := J_sl14 (M := M12) hJ
    have rM12_15 := J_sl15 (M := M12) hJ
    have mM12_7 : (M12.1 175 7).toInt = (M6.1 175 7).toInt := tl_slot (h13.1 175 7 (show ¬ ((175 = 175 ∧ 7 = 14) ∨ (175 = 175 ∧ 7 = 15)) by decide))
    have mM12_12 : (M12.1 175 12).toInt = (M6.1 175 12).toInt := tl_slot (h13.1 175 12 (show ¬ ((175 = 175 ∧ 12 = 14) ∨ (175 = 175 ∧ 12 = 15)) by decide))
    have mM12_13 : (M12.1 175 13).toInt = (M6.1 175 13).toInt := tl_slot (h13.1 175 13 (show ¬ ((175 = 175 ∧ 13 = 14) ∨ (175 = 175 ∧ 13 = 15)) by decide))
    refine li_pop dX12_readRule_35 rfl ?_
    refine li_aload_n 1 dX12_readRule_36 rfl ?_
    refine li_geti (k := 14) (N := 52) (T := TX12) (C0 := RX12) dX12_readRule_37 (by decide) sh_175 rfl rfl (by decide) li_in12 w_1418 ?_
    refine li_top (fun x14 ex14 => ?_)
    have gx14 : 0 ≤ x14.toInt ∧ x14.toInt ≤ 81 := by rw [ex14]; exact J_sl14 hJ
    have mx14 : x14.toInt = (M12.1 175 14).toInt := tl_slot ex14
    refine li_iload_n 0 dX12_readRule_40 rfl ?_
    refine li_icmp_ge 52 dX12_readRule_41 (by decide) (fun c15 => ?_) (fun c15 => ?_)
    · have tc15 : x1.toInt ≤ x14.toInt := tl_le c15
      refine li_aload_n 1 dX12_readRule_52 rfl ?_
      refine li_callV (n := 0) (As := []) dX12_readRule_53 (k_X12_fine (d - 1) (by omega)  M12 hJ ) (by omega) (Nat.le_of_ble_eq_true rfl) w_1581 w_1583 w_43 w_112 w_1584 (by decide +kernel) rfl (by decide) sh_175 rfl rfl (Nat.le_of_ble_eq_true rfl) (fun r M17 h18 => ?_)
      obtain ⟨qx16, h18, jM17⟩ := h18
      have hf := li_fs_trans hf h18 (fun i k h => False.elim h)
      have hJ := jM17
      have rM17_7 := J_sl7 (M := M17) hJ
      have rM17_12 := J_sl12 (M := M17) hJ
      have rM17_13 := J_sl13 (M := M17) hJ
      have rM17_14 := J_sl14 (M := M17) hJ
      have rM17_15 := J_sl15 (M := M17) hJ
      have mM17_7 : (M17.1 175 7).toInt = (M12.1 175 7).toInt := tl_slot (h18.1 175 7 id)
      have mM17_12 : (M17.1 175 12).toInt = (M12.1 175 12).toInt := tl_slot (h18.1 175 12 id)
      have mM17_13 : (M17.1 175 13).toInt = (M12.1 175 13).toInt := tl_slot (h18.1 175 13 id)
      have mM17_14 : (M17.1 175 14).toInt = (M12.1 175 14).toInt := tl_slot (h18.1 175 14 id)
      have mM17_15 : (M17.1 175 15).toInt = (M12.1 175 15).toInt := tl_slot (h18.1 175 15 id)
      rcases qx16 with ⟨rfl, qx16⟩ | ⟨rfl, qx16⟩
      · skip
        have z1 : (1 : Int32).toInt = 1 := rfl
        exact li_iret dX12_readRule_56 rfl (li_nz (Or.inr rfl)) ⟨Or.inl ⟨rfl, (by omega)⟩, hf, hJ, (by omega)⟩
      · skip
        have z0 : (0 : Int32).toInt = 0 := rfl
        exact li_iret dX12_readRule_56 rfl (li_nz (Or.inl rfl)) ⟨Or.inr ⟨rfl, trivial⟩, hf, hJ, (by omega)⟩
    · have tc15 : x14.toInt < x1.toInt := tl_nle c15
      refine li_aload_n 1 dX12_readRule_44 rfl ?_
      refine li_aload_n 1 dX12_readRule_45 rfl ?_
      refine li_geti (k := 14) (N := 52) (T := TX12) (C0 := RX12) dX12_readRule_46 (by decide) sh_175 rfl rfl (by decide) li_in12 w_1418 ?_
      refine li_top (fun x19 ex19 => ?_)
      have gx19 : 0 ≤ x19.toInt ∧ x19.toInt ≤ 81 := by rw [ex19]; exact J_sl14 hJ
      have mx19 : x19.toInt = (M12.1 175 14).toInt := tl_slot ex19
      refine li_callV (n := 1) (As := [.int x19]) dX12_readRule_49 (k_X12_fault (d - 1) (by omega) x19 M12 hJ (by omega)) (by omega) (Nat.le_of_ble_eq_true rfl) w_1585 w_1587 w_44 w_112 w_1588 (by decide +kernel) rfl (by decide) sh_175 rfl rfl (Nat.le_of_ble_eq_true rfl) (fun r M21 h22 => ?_)
      obtain ⟨rfl, h22, jM21, nM21⟩ := h22
      have hf := li_fs_trans hf h22 (fun i k => fun h => Or.inr (Or.inr (Or.inr (Or.inr (Or.inl h)))))
      have hJ := jM21
      have rM21_7 := J_sl7 (M := M21) hJ
      have rM21_12 := J_sl12 (M := M21) hJ
      have rM21_13 := J_sl13 (M := M21) hJ
      have rM21_14 := J_sl14 (M := M21) hJ
      have rM21_15 := J_sl15 (M := M21) hJ
      have mM21_7 : (M21.1 175 7).toInt = (M12.1 175 7).toInt := tl_slot (h22.1 175 7 (show ¬ ((175 = 175 ∧ 7 = 15)) by decide))
      have mM21_12 : (M21.1 175 12).toInt = (M12.1 175 12).toInt := tl_slot (h22.1 175 12 (show ¬ ((175 = 175 ∧ 12 = 15)) by decide))
      have mM21_13 : (M21.1 175 13).toInt = (M12.1 175 13).toInt := tl_slot (h22.1 175 13 (show ¬ ((175 = 175 ∧ 13 = 15)) by decide))
      have mM21_14 : (M21.1 175 14).toInt = (M12.1 175 14).toInt := tl_slot (h22.1 175 14 (show ¬ ((175 = 175 ∧ 14 = 15)) by decide))
      refine li_aload_n 1 dX12_readRule_52 rfl ?_
      refine li_callV (n := 0) (As := []) dX12_readRule_53 (k_X12_fine (d - 1) (by omega)  M21 hJ ) (by omega) (Nat.le_of_ble_eq_true rfl) w_1581 w_1583 w_43 w_112 w_1584 (by decide +kernel) rfl (by decide) sh_175 rfl rfl (Nat.le_of_ble_eq_true rfl) (fun r M24 h25 => ?_)
      obtain ⟨qx23, h25, jM24⟩ := h25
      have hf := li_fs_trans hf h25 (fun i k h => False.elim h)
      have hJ := jM24
      have rM24_7 := J_sl7 (M := M24) hJ
      have rM24_12 := J_sl12 (M := M24) hJ
      have rM24_13 := J_sl13 (M := M24) hJ
      have rM24_14 := J_sl14 (M := M24) hJ
      have rM24_15 := J_sl15 (M := M24) hJ
      have mM24_7 : (M24.1 175 7).toInt = (M21.1 175 7).toInt := tl_slot (h25.1 175 7 id)
      have mM24_12 : (M24.1 175 12).toInt = (M21.1 175 12).toInt := tl_slot (h25.1 175 12 id)
      have mM24_13 : (M24.1 175 13).toInt = (M21.1 175 13).toInt := tl_slot (h25.1 175 13 id)
      have mM24_14 : (M24.1 175 14).toInt = (M21.1 175 14).toInt := tl_slot (h25.1 175 14 id)
      have mM24_15 : (M24.1 175 15).toInt = (M21.1 175 15).toInt := tl_slot (h25.1 175 15 id)
      rcases qx23 with ⟨rfl, qx23⟩ | ⟨rfl, qx23⟩
      · skip
        have z1 : (1 : Int32).toInt = 1 := rfl
        exact li_iret dX12_readRule_56 rfl (li_nz (Or.inr rfl)) ⟨Or.inl ⟨rfl, (by omega)⟩, hf, hJ, (by omega)⟩
      · skip
        have z0 : (0 : Int32).toInt = 0 := rfl
        exact li_iret dX12_readRule_56 rfl (li_nz (Or.inl rfl)) ⟨Or.inr ⟨rfl, trivial⟩, hf, hJ, (by omega)⟩
set_option maxRecDepth 100000 in
set_option maxHeartbeats 4000000 in
theorem k3_X12_rule {l : Launch} {Z : li_Z} (d : Nat) (hd : 339 ≤ d) (M0 : li_M) (hJ : li_J M0) : li_Met l Z YX12_rule d [.ref (Z.2.2 175)] M0 (fun r M' => (∃ x : Int32, r = some (.int x)) ∧ li_fs (fun i k => i = 183 ∨ i = 184 ∨ i = 1000 ∨ (i = 175 ∧ k = 10) ∨ (i = 175 ∧ k = 12) ∨ (i = 175 ∧ k = 13) ∨ (i = 175 ∧ k = 14) ∨ (i = 175 ∧ k = 15) ∨ (i = 175 ∧ k = 18) ∨ (i = 175 ∧ k = 20) ∨ (i = 175 ∧ k = 7)) M0 M' ∧ li_J M' ∧ (M'.1 175 7).toInt = 0) := by
  refine li_enter (by decide +kernel) (Nat.le_of_ble_eq_true rfl) ?_
  show li_T l Z YX12_rule d 0 [(0, .ref (Z.2.2 175))] [] M0 _
  have hf : li_fs (fun i k => i = 183 ∨ i = 184 ∨ i = 1000 ∨ (i = 175 ∧ k = 10) ∨ (i = 175 ∧ k = 12) ∨ (i = 175 ∧ k = 13) ∨ (i = 175 ∧ k = 14) ∨ (i = 175 ∧ k = 15) ∨ (i = 175 ∧ k = 18) ∨ (i = 175 ∧ k = 20) ∨ (i = 175 ∧ k = 7)) M0 M0 := li_fs_refl
  have rM0_7 := J_sl7 (M := M0) hJ
  refine li_aload_n 0 dX12_rule_0 rfl ?_
  refine li_iconst 0 dX12_rule_1 (by decide) ?_
  refine li_puti (k := 10) (N := 52) (T := TX12) (C0 := RX12) dX12_rule_2 (by decide) sh_175 rfl rfl (by decide) li_in12 tyX12_ok nmX12 rfl rfl rfl rfl w_1414 ?_
  refine li_nm (fun M1 eM1 => ?_)
  have hf := li_fs_ui hf (Or.inr (Or.inr (Or.inr (Or.inl ⟨rfl, rfl⟩)))) eM1
  have z0 : (0 : Int32).toInt = 0 := rfl
  have hJ := hJ.put (k := 10) (by decide) (rg_free rfl) eM1
  have rM1_7 := J_sl7 (M := M1) hJ
  have mM1_7 : (M1.1 175 7).toInt = (M0.1 175 7).toInt := by rw [eM1, li_ui_at, if_pos rfl, if_neg (by decide)]
  refine li_aload_n 0 dX12_rule_5 rfl ?_
  refine li_geti (k := 7) (N := 52) (T := TX12) (C0 := RX12) dX12_rule_6 (by decide) sh_175 rfl rfl (by decide) li_in12 w_1411 ?_
  refine li_top (fun x2 ex2 => ?_)
  have gx2 : 0 ≤ x2.toInt ∧ x2.toInt ≤ 80 := by rw [ex2]; exact J_sl7 hJ
  have mx2 : x2.toInt = (M1.1 175 7).toInt := tl_slot ex2
  refine li_istore_n [(1, .int x2), (0, .ref (Z.2.2 175))] dX12_rule_9 (by decide) rfl ?_
  refine li_aload_n 1 dX12_rule_10 rfl ?_
  refine li_callV (n := 0) (As := []) dX12_rule_11 (k3_X12_readRule (d - 1) (by omega)  M1 hJ ) (by omega) (Nat.le_of_ble_eq_true rfl) w_1621 w_1623 w_51 w_112 w_1624 (by decide +kernel) rfl (by decide) sh_175 rfl rfl (Nat.le_of_ble_eq_true rfl) (fun r M4 h5 => ?_)
  obtain ⟨qx3, h5, jM4, nM4⟩ := h5
  have hf := li_fs_trans hf h5 (fun i k => fun h => Or.elim h (fun h => Or.inr (Or.inr (Or.inl h))) (fun h => Or.elim h (fun h => Or.inr (Or.inr (Or.inr (Or.inr (Or.inl h))))) (fun h => Or.elim h (fun h => Or.inr (Or.inr (Or.inr (Or.inr (Or.inr (Or.inl h)))))) (fun h => Or.elim h (fun h => Or.inr (Or.inr (Or.inr (Or.inr (Or.inr (Or.inr (Or.inl h))))))) (fun h => Or.elim h (fun h => Or.inr (Or.inr (Or.inr (Or.inr (Or.inr (Or.inr (Or.inr (Or.inl h)))))))) (fun h => Or.elim h (fun h => Or.inr (Or.inr (Or.inr (Or.inr (Or.inr (Or.inr (Or.inr (Or.inr (Or.inr (Or.inl h)))))))))) (fun h => Or.inr (Or.inr (Or.inr (Or.inr (Or.inr (Or.inr (Or.inr (Or.inr (Or.inr (Or.inr h))))))))))))))))
  have hJ := jM4
  have rM4_7 := J_sl7 (M := M4) hJ
  rcases qx3 with ⟨rfl, qx3⟩ | ⟨rfl, qx3⟩
  · skip
    refine li_if_ne 24 dX12_rule_14 (by decide) (fun c => ?_) (fun c => absurd c (by decide))
    refine li_iconst 0 dX12_rule_24 (by decide) ?_
    refine li_istore_n [(2, .int 0), (1, .int x2), (0, .ref (Z.2.2 175))] dX12_rule_25 (by decide) rfl ?_
    have L26 : ∀ (n : Nat) (x7 : Int32) (M8 : li_M), ((x2 : Int32).toInt - (x7 : Int32).toInt).toNat < n → li_fs (fun i k => i = 183 ∨ i = 184 ∨ i = 1000 ∨ (i = 175 ∧ k = 10) ∨ (i = 175 ∧ k = 12) ∨ (i = 175 ∧ k = 13) ∨ (i = 175 ∧ k = 14) ∨ (i = 175 ∧ k = 15) ∨ (i = 175 ∧ k = 18) ∨ (i = 175 ∧ k = 20) ∨ (i = 175 ∧ k = 7)) M0 M8 → li_J M8 → 0 ≤ (x7 : Int32).toInt ∧ (M8.1 175 7).toInt = 0 → li_T l Z YX12_rule d 26 [(2, .int x7), (1, .int x2), (0, .ref (Z.2.2 175))] [] M8 (fun r M' => (∃ x : Int32, r = some (.int x)) ∧ li_fs (fun i k => i = 183 ∨ i = 184 ∨ i = 1000 ∨ (i = 175 ∧ k = 10) ∨ (i = 175 ∧ k = 12) ∨ (i = 175 ∧ k = 13) ∨ (i = 175 ∧ k = 14) ∨ (i = 175 ∧ k = 15) ∨ (i = 175 ∧ k = 18) ∨ (i = 175 ∧ k = 20) ∨ (i = 175 ∧ k = 7)) M0 M' ∧ li_J M' ∧ (M'.1 175 7).toInt = 0) := by
      intro n
      induction n with
      | zero => intro x7 M8 hn; exact absurd hn (Nat.not_lt_zero _)
      | succ n ih26 =>
        intro x7 M8 hn hf hJ hi
        have gx7 := tl_rg x7
        have rM8_7 := J_sl7 (M := M8) hJ
        refine li_iload_n 0 dX12_rule_26 rfl ?_
        refine li_iload_n 1 dX12_rule_27 rfl ?_
        refine li_icmp_ge 49 dX12_rule_28 (by decide) (fun c9 => ?_) (fun c9 => ?_)
        · have tc9 : x2.toInt ≤ x7.toInt := tl_le c9
          refine li_aload_n 2 dX12_rule_49 rfl ?_
          refine li_iload_n 1 dX12_rule_50 rfl ?_
          refine li_puti (k := 18) (N := 52) (T := TX12) (C0 := RX12) dX12_rule_51 (by decide) sh_175 rfl rfl (by decide) li_in12 tyX12_ok nmX12 rfl rfl rfl rfl w_1422 ?_
          refine li_nm (fun M10 eM10 => ?_)
          have hf := li_fs_ui hf (Or.inr (Or.inr (Or.inr (Or.inr (Or.inr (Or.inr (Or.inr (Or.inr (Or.inl ⟨rfl, rfl⟩))))))))) eM10
          have hJ := J_pt18 hJ (show 0 ≤ (x2 : Int32).toInt ∧ (x2 : Int32).toInt ≤ 40 by omega) eM10
          have rM10_7 := J_sl7 (M := M10) hJ
          have mM10_7 : (M10.1 175 7).toInt = (M8.1 175 7).toInt := by rw [eM10, li_ui_at, if_pos rfl, if_neg (by decide)]
          refine li_iconst 0 dX12_rule_54 (by decide) ?_
          have z0 : (0 : Int32).toInt = 0 := rfl
          exact li_iret dX12_rule_55 rfl rfl ⟨⟨_, rfl⟩, hf, hJ, (by omega)⟩
        · have tc9 : x7.toInt < x2.toInt := tl_nle c9
          refine li_aload_n 2 dX12_rule_31 rfl ?_
          obtain ⟨q11, hq11, rq11⟩ := hJ.2.2.1
          refine li_getm (r := 1) (k := 17) (N := 52) (T := TX12) (C0 := RX12) dX12_rule_32 (by decide) sh_175 rfl rfl hq11 (by decide) li_in12 w_1421 ?_
          refine li_iload_n 0 dX12_rule_35 rfl ?_
          refine li_aload_n 2 dX12_rule_36 rfl ?_
          refine li_getr (k := 6) (N := 52) (T := TX12) (C0 := RX12) dX12_rule_37 (by decide) sh_175 rfl rfl (by decide) (by decide) li_in12 w_1410 ?_
          refine li_iload_n 0 dX12_rule_40 rfl ?_
          refine li_bald dX12_rule_41 (by decide) sh_180 (tl_in (by omega)) ?_
          refine li_top (fun x12 ex12 => ?_)
          have gx12 := tl_rg x12
          refine li_bast dX12_rule_42 (snU rq11) (shU rq11) (tl_in (by omega)) ?_
          have uM13 : q11 = 183 ∨ q11 = 184 := rq11
          refine li_nm (fun M13 eM13 => ?_)
          have hf := li_fs_ui hf (show q11 = 183 ∨ q11 = 184 ∨ q11 = 1000 ∨ (q11 = 175 ∧ (x7 : Int32).toNatClampNeg = 10) ∨ (q11 = 175 ∧ (x7 : Int32).toNatClampNeg = 12) ∨ (q11 = 175 ∧ (x7 : Int32).toNatClampNeg = 13) ∨ (q11 = 175 ∧ (x7 : Int32).toNatClampNeg = 14) ∨ (q11 = 175 ∧ (x7 : Int32).toNatClampNeg = 15) ∨ (q11 = 175 ∧ (x7 : Int32).toNatClampNeg = 18) ∨ (q11 = 175 ∧ (x7 : Int32).toNatClampNeg = 20) ∨ (q11 = 175 ∧ (x7 : Int32).toNatClampNeg = 7) by omega) eM13
          have hJ := hJ.st (by unfold li_rl at rq11; omega) (li_el_byte (rl_rq rq11)) eM13
          have rM13_7 := J_sl7 (M := M13) hJ
          have mM13_7 : (M13.1 175 7).toInt = (M8.1 175 7).toInt := by rw [eM13, li_ui_at, if_neg (by unfold li_rl at rq11; omega)]
          obtain ⟨x14, ex14⟩ : ∃ y : Int32, y = x7 + 1 := ⟨_, rfl⟩
          have z1 : (1 : Int32).toInt = 1 := rfl
          try (have tx14 : x14.toInt = (x7 : Int32).toInt + (1 : Int32).toInt := tl_add ex14 (by omega))
          refine li_iinc 0 [(2, .int x14), (1, .int x2), (0, .ref (Z.2.2 175))] x14 dX12_rule_43 rfl (by rw [ex14]; rfl) (by decide) rfl ?_
          refine li_goto 26 dX12_rule_46 (by decide) ?_
          refine li_pick [0, 1, 2] [(2, .int x14), (1, .int x2), (0, .ref (Z.2.2 175))] rfl ?_
          exact ih26 x14 M13 (by omega) hf hJ (by omega)
    have z0 : (0 : Int32).toInt = 0 := rfl
    exact L26 _ 0 M4 (Nat.lt_succ_self _) hf hJ (by omega)
  · skip
    refine li_if_ne 24 dX12_rule_14 (by decide) (fun c => absurd rfl c) (fun c => ?_)
    refine li_iconst (-1) dX12_rule_17 (by decide) ?_
    refine li_aload_n 1 dX12_rule_18 rfl ?_
    refine li_geti (k := 15) (N := 52) (T := TX12) (C0 := RX12) dX12_rule_19 (by decide) sh_175 rfl rfl (by decide) li_in12 w_1419 ?_
    refine li_top (fun x16 ex16 => ?_)
    have gx16 : -1 ≤ x16.toInt ∧ x16.toInt ≤ 81 := by rw [ex16]; exact J_sl15 hJ
    have mx16 : x16.toInt = (M4.1 175 15).toInt := tl_slot ex16
    refine li_isub dX12_rule_22 ?_
    refine li_top (fun x17 ex17 => ?_)
    have zm1 : ((-1) : Int32).toInt = -1 := rfl
    try (have tx17 : x17.toInt = ((-1) : Int32).toInt - (x16 : Int32).toInt := tl_sub ex17 (by omega))
    exact li_iret dX12_rule_23 rfl rfl ⟨⟨_, rfl⟩, hf, hJ, (by omega)⟩
set_option maxRecDepth 100000 in
set_option maxHeartbeats 4000000 in
theorem k3_X12_grammar {l : Launch} {Z : li_Z} (d : Nat) (hd : 4 ≤ d) (M0 : li_M) (hJ : li_J M0) : li_Met l Z YX12_grammar d [.ref (Z.2.2 175)] M0 (fun r M' => (∃ x : Int32, r = some (.int x)) ∧ li_fs (fun i k => i = 193 ∨ i = 194 ∨ i = 1000 ∨ (i = 175 ∧ k = 10) ∨ (i = 175 ∧ k = 12) ∨ (i = 175 ∧ k = 13) ∨ (i = 175 ∧ k = 14) ∨ (i = 175 ∧ k = 15) ∨ (i = 175 ∧ k = 38) ∨ (i = 175 ∧ k = 7)) M0 M' ∧ li_J M' ∧ (M'.1 175 7).toInt = 0) := by
  refine li_enter (by decide +kernel) (Nat.le_of_ble_eq_true rfl) ?_
  show li_T l Z YX12_grammar d 0 [(0, .ref (Z.2.2 175))] [] M0 _
  have hf : li_fs (fun i k => i = 193 ∨ i = 194 ∨ i = 1000 ∨ (i = 175 ∧ k = 10) ∨ (i = 175 ∧ k = 12) ∨ (i = 175 ∧ k = 13) ∨ (i = 175 ∧ k = 14) ∨ (i = 175 ∧ k = 15) ∨ (i = 175 ∧ k = 38) ∨ (i = 175 ∧ k = 7)) M0 M0 := li_fs_refl
  have rM0_7 := J_sl7 (M := M0) hJ
  have rM0_15 := J_sl15 (M := M0) hJ
  refine li_aload_n 0 dX12_grammar_0 rfl ?_
  refine li_iconst 0 dX12_grammar_1 (by decide) ?_
  refine li_puti (k := 10) (N := 52) (T := TX12) (C0 := RX12) dX12_grammar_2 (by decide) sh_175 rfl rfl (by decide) li_in12 tyX12_ok nmX12 rfl rfl rfl rfl w_1414 ?_
  refine li_nm (fun M1 eM1 => ?_)
  have hf := li_fs_ui hf (Or.inr (Or.inr (Or.inr (Or.inl ⟨rfl, rfl⟩)))) eM1
  have z0 : (0 : Int32).toInt = 0 := rfl
  have hJ := hJ.put (k := 10) (by decide) (rg_free rfl) eM1
  have rM1_7 := J_sl7 (M := M1) hJ
  have rM1_15 := J_sl15 (M := M1) hJ
  have mM1_7 : (M1.1 175 7).toInt = (M0.1 175 7).toInt := by rw [eM1, li_ui_at, if_pos rfl, if_neg (by decide)]
  have mM1_15 : (M1.1 175 15).toInt = (M0.1 175 15).toInt := by rw [eM1, li_ui_at, if_pos rfl, if_neg (by decide)]
  refine li_aload_n 0 dX12_grammar_5 rfl ?_
  refine li_aload_n 0 dX12_grammar_6 rfl ?_
  refine li_getr (k := 6) (N := 52) (T := TX12) (C0 := RX12) dX12_grammar_7 (by decide) sh_175 rfl rfl (by decide) (by decide) li_in12 w_1410 ?_
  refine li_aload_n 0 dX12_grammar_10 rfl ?_
  refine li_geti (k := 7) (N := 52) (T := TX12) (C0 := RX12) dX12_grammar_11 (by decide) sh_175 rfl rfl (by decide) li_in12 w_1411 ?_
  refine li_top (fun x2 ex2 => ?_)
  have gx2 : 0 ≤ x2.toInt ∧ x2.toInt ≤ 80 := by rw [ex2]; exact J_sl7 hJ
  have mx2 : x2.toInt = (M1.1 175 7).toInt := tl_slot ex2
  refine li_bipush 80 dX12_grammar_14 (by decide) ?_
  have z80 : (80 : Int32).toInt = 80 := rfl
  refine li_callV (n := 3) (As := [.ref (Z.2.2 180), .int x2, .int 80]) dX12_grammar_16 (k_X12_begin (d - 1) (by unfold li_rq; omega) x2 80 M1 hJ (show 0 ≤ (x2 : Int32).toInt ∧ (x2 : Int32).toInt ≤ (li_qn 180 : Int) by have := li_qn_fix; omega) (by omega)) (by omega) (Nat.le_of_ble_eq_true rfl) w_1577 w_1579 w_42 w_112 w_1580 (by decide +kernel) rfl (by decide) sh_175 rfl rfl (Nat.le_of_ble_eq_true rfl) (fun r M4 h5 => ?_)
  obtain ⟨rfl, h5, jM4, nM4⟩ := h5
  have hf := li_fs_trans hf h5 (fun i k => fun h => Or.elim h (fun h => Or.inr (Or.inr (Or.inr (Or.inr (Or.inl h))))) (fun h => Or.elim h (fun h => Or.inr (Or.inr (Or.inr (Or.inr (Or.inr (Or.inl h)))))) (fun h => Or.elim h (fun h => Or.inr (Or.inr (Or.inr (Or.inr (Or.inr (Or.inr (Or.inl h))))))) (fun h => Or.elim h (fun h => Or.inr (Or.inr (Or.inr (Or.inr (Or.inr (Or.inr (Or.inr (Or.inl h)))))))) (fun h => Or.inr (Or.inr (Or.inl h)))))))
  have hJ := jM4
  have rM4_7 := J_sl7 (M := M4) hJ
  have rM4_15 := J_sl15 (M := M4) hJ
  have mM4_7 : (M4.1 175 7).toInt = (M1.1 175 7).toInt := tl_slot (h5.1 175 7 (show ¬ ((175 = 175 ∧ 7 = 12) ∨ (175 = 175 ∧ 7 = 13) ∨ (175 = 175 ∧ 7 = 14) ∨ (175 = 175 ∧ 7 = 15) ∨ 175 = 1000) by decide))
  refine li_aload_n 0 dX12_grammar_19 rfl ?_
  refine li_iconst 0 dX12_grammar_20 (by decide) ?_
  refine li_puti (k := 7) (N := 52) (T := TX12) (C0 := RX12) dX12_grammar_21 (by decide) sh_175 rfl rfl (by decide) li_in12 tyX12_ok nmX12 rfl rfl rfl rfl w_1411 ?_
  refine li_nm (fun M6 eM6 => ?_)
  have hf := li_fs_ui hf (Or.inr (Or.inr (Or.inr (Or.inr (Or.inr (Or.inr (Or.inr (Or.inr (Or.inr (⟨rfl, rfl⟩)))))))))) eM6
  have z0 : (0 : Int32).toInt = 0 := rfl
  have hJ := J_pt7 hJ (show 0 ≤ (0 : Int32).toInt ∧ (0 : Int32).toInt ≤ 80 by omega) eM6
  have rM6_7 := J_sl7 (M := M6) hJ
  have rM6_15 := J_sl15 (M := M6) hJ
  have mM6_7 : (M6.1 175 7).toInt = 0 := by rw [eM6, li_ui_at, if_pos rfl, if_pos rfl]; rfl
  have mM6_15 : (M6.1 175 15).toInt = (M4.1 175 15).toInt := by rw [eM6, li_ui_at, if_pos rfl, if_neg (by decide)]
  refine li_iconst 0 dX12_grammar_24 (by decide) ?_
  refine li_istore_n [(1, .int 0), (0, .ref (Z.2.2 175))] dX12_grammar_25 (by decide) rfl ?_
  refine li_aload_n 1 dX12_grammar_26 rfl ?_
  refine li_geti (k := 12) (N := 52) (T := TX12) (C0 := RX12) dX12_grammar_27 (by decide) sh_175 rfl rfl (by decide) li_in12 w_1416 ?_
  refine li_top (fun x7 ex7 => ?_)
  have gx7 : 0 ≤ x7.toInt ∧ x7.toInt ≤ 80 := by rw [ex7]; exact J_sl12 hJ
  have mx7 : x7.toInt = (M6.1 175 12).toInt := tl_slot ex7
  have J38 : ∀ (x9 : Int32) (M10 : li_M), li_fs (fun i k => i = 193 ∨ i = 194 ∨ i = 1000 ∨ (i = 175 ∧ k = 10) ∨ (i = 175 ∧ k = 12) ∨ (i = 175 ∧ k = 13) ∨ (i = 175 ∧ k = 14) ∨ (i = 175 ∧ k = 15) ∨ (i = 175 ∧ k = 38) ∨ (i = 175 ∧ k = 7)) M0 M10 → li_J M10 → (M10.1 175 7).toInt = 0 → li_T l Z YX12_grammar d 38 [(1, .int 0), (0, .ref (Z.2.2 175))] [.int x9] M10 (fun r M' => (∃ x : Int32, r = some (.int x)) ∧ li_fs (fun i k => i = 193 ∨ i = 194 ∨ i = 1000 ∨ (i = 175 ∧ k = 10) ∨ (i = 175 ∧ k = 12) ∨ (i = 175 ∧ k = 13) ∨ (i = 175 ∧ k = 14) ∨ (i = 175 ∧ k = 15) ∨ (i = 175 ∧ k = 38) ∨ (i = 175 ∧ k = 7)) M0 M' ∧ li_J M' ∧ (M'.1 175 7).toInt = 0) := by
    intro x9 M10 hf hJ hi
    have gx9 := tl_rg x9
    have rM10_7 := J_sl7 (M := M10) hJ
    have rM10_15 := J_sl15 (M := M10) hJ
    refine li_istore_n [(2, .int x9), (1, .int 0), (0, .ref (Z.2.2 175))] dX12_grammar_38 (by decide) rfl ?_
    have J141 : ∀ (x11 : Int32) (x12 : Int32) (M13 : li_M), li_fs (fun i k => i = 193 ∨ i = 194 ∨ i = 1000 ∨ (i = 175 ∧ k = 10) ∨ (i = 175 ∧ k = 12) ∨ (i = 175 ∧ k = 13) ∨ (i = 175 ∧ k = 14) ∨ (i = 175 ∧ k = 15) ∨ (i = 175 ∧ k = 38) ∨ (i = 175 ∧ k = 7)) M0 M13 → li_J M13 → 0 ≤ (x12 : Int32).toInt ∧ (x12 : Int32).toInt ≤ 11 ∧ (x12 : Int32).toInt ≤ 11 + (M13.1 175 15).toInt ∧ (M13.1 175 7).toInt = 0 → li_T l Z YX12_grammar d 141 [(2, .int x11), (1, .int x12), (0, .ref (Z.2.2 175))] [] M13 (fun r M' => (∃ x : Int32, r = some (.int x)) ∧ li_fs (fun i k => i = 193 ∨ i = 194 ∨ i = 1000 ∨ (i = 175 ∧ k = 10) ∨ (i = 175 ∧ k = 12) ∨ (i = 175 ∧ k = 13) ∨ (i = 175 ∧ k = 14) ∨ (i = 175 ∧ k = 15) ∨ (i = 175 ∧ k = 38) ∨ (i = 175 ∧ k = 7)) M0 M' ∧ li_J M' ∧ (M'.1 175 7).toInt = 0) := by
      intro x11 x12 M13 hf hJ hi
      have gx11 := tl_rg x11
      have gx12 := tl_rg x12
      have rM13_7 := J_sl7 (M := M13) hJ
      have rM13_15 := J_sl15 (M := M13) hJ
      refine li_aload_n 2 dX12_grammar_141 rfl ?_
      refine li_geti (k := 14) (N := 52) (T := TX12) (C0 := RX12) dX12_grammar_142 (by decide) sh_175 rfl rfl (by decide) li_in12 w_1418 ?_
      refine li_top (fun x14 ex14 => ?_)
      have gx14 : 0 ≤ x14.toInt ∧ x14.toInt ≤ 81 := by rw [ex14]; exact J_sl14 hJ
      have mx14 : x14.toInt = (M13.1 175 14).toInt := tl_slot ex14
      refine li_aload_n 2 dX12_grammar_145 rfl ?_
      refine li_geti (k := 12) (N := 52) (T := TX12) (C0 := RX12) dX12_grammar_146 (by decide) sh_175 rfl rfl (by decide) li_in12 w_1416 ?_
      refine li_top (fun x15 ex15 => ?_)
      have gx15 : 0 ≤ x15.toInt ∧ x15.toInt ≤ 80 := by rw [ex15]; exact J_sl12 hJ
      have mx15 : x15.toInt = (M13.1 175 12).toInt := tl_slot ex15
      have J160 : ∀  (M17 : li_M), li_fs (fun i k => i = 193 ∨ i = 194 ∨ i = 1000 ∨ (i = 175 ∧ k = 10) ∨ (i = 175 ∧ k = 12) ∨ (i = 175 ∧ k = 13) ∨ (i = 175 ∧ k = 14) ∨ (i = 175 ∧ k = 15) ∨ (i = 175 ∧ k = 38) ∨ (i = 175 ∧ k = 7)) M0 M17 → li_J M17 → (x12 : Int32).toInt ≤ 11 + (M17.1 175 15).toInt ∧ (M17.1 175 7).toInt = 0 → li_T l Z YX12_grammar d 160 [(2, .int x11), (1, .int x12), (0, .ref (Z.2.2 175))] [] M17 (fun r M' => (∃ x : Int32, r = some (.int x)) ∧ li_fs (fun i k => i = 193 ∨ i = 194 ∨ i = 1000 ∨ (i = 175 ∧ k = 10) ∨ (i = 175 ∧ k = 12) ∨ (i = 175 ∧ k = 13) ∨ (i = 175 ∧ k = 14) ∨ (i = 175 ∧ k = 15) ∨ (i = 175 ∧ k = 38) ∨ (i = 175 ∧ k = 7)) M0 M' ∧ li_J M' ∧ (M'.1 175 7).toInt = 0) := by
        intro  M17 hf hJ hi
        have rM17_7 := J_sl7 (M := M17) hJ
        have rM17_15 := J_sl15 (M := M17) hJ
        refine li_aload_n 2 dX12_grammar_160 rfl ?_
        refine li_callV (n := 0) (As := []) dX12_grammar_161 (k_X12_fineW (d - 1) (by omega)  M17 hJ ) (by omega) (Nat.le_of_ble_eq_true rfl) w_1581 w_1583 w_43 w_112 w_1584 (by decide +kernel) rfl (by decide) sh_175 rfl rfl (Nat.le_of_ble_eq_true rfl) (fun r M19 h20 => ?_)
        obtain ⟨qx18, h20, jM19⟩ := h20
        have hf := li_fs_trans hf h20 (fun i k h => False.elim h)
        have hJ := jM19
        have rM19_7 := J_sl7 (M := M19) hJ
        have rM19_15 := J_sl15 (M := M19) hJ
        have mM19_7 : (M19.1 175 7).toInt = (M17.1 175 7).toInt := tl_slot (h20.1 175 7 id)
        have mM19_15 : (M19.1 175 15).toInt = (M17.1 175 15).toInt := tl_slot (h20.1 175 15 id)
        rcases qx18 with ⟨rfl, qx18⟩ | ⟨rfl, qx18⟩
        · skip
          refine li_if_ne 174 dX12_grammar_164 (by decide) (fun c => ?_) (fun c => absurd c (by decide))
          refine li_iconst 0 dX12_grammar_174 (by decide) ?_
          refine li_istore_n [(3, .int 0), (2, .int x11), (1, .int x12), (0, .ref (Z.2.2 175))] dX12_grammar_175 (by decide) rfl ?_
          have L176 : ∀ (n : Nat) (x22 : Int32) (M23 : li_M), (30 - (x22 : Int32).toInt).toNat < n → li_fs (fun i k => i = 193 ∨ i = 194 ∨ i = 1000 ∨ (i = 175 ∧ k = 10) ∨ (i = 175 ∧ k = 12) ∨ (i = 175 ∧ k = 13) ∨ (i = 175 ∧ k = 14) ∨ (i = 175 ∧ k = 15) ∨ (i = 175 ∧ k = 38) ∨ (i = 175 ∧ k = 7)) M0 M23 → li_J M23 → 0 ≤ (x22 : Int32).toInt ∧ (M23.1 175 7).toInt = 0 → li_T l Z YX12_grammar d 176 [(3, .int x22), (2, .int x11), (1, .int x12), (0, .ref (Z.2.2 175))] [] M23 (fun r M' => (∃ x : Int32, r = some (.int x)) ∧ li_fs (fun i k => i = 193 ∨ i = 194 ∨ i = 1000 ∨ (i = 175 ∧ k = 10) ∨ (i = 175 ∧ k = 12) ∨ (i = 175 ∧ k = 13) ∨ (i = 175 ∧ k = 14) ∨ (i = 175 ∧ k = 15) ∨ (i = 175 ∧ k = 38) ∨ (i = 175 ∧ k = 7)) M0 M' ∧ li_J M' ∧ (M'.1 175 7).toInt = 0) := by
            intro n
            induction n with
            | zero => intro x22 M23 hn; exact absurd hn (Nat.not_lt_zero _)
            | succ n ih176 =>
              intro x22 M23 hn hf hJ hi
              have gx22 := tl_rg x22
              have rM23_7 := J_sl7 (M := M23) hJ
              have rM23_15 := J_sl15 (M := M23) hJ
              refine li_iload_n 0 dX12_grammar_176 rfl ?_
              refine li_iconst 3 dX12_grammar_177 (by decide) ?_
              refine li_iload_n 2 dX12_grammar_178 rfl ?_
              refine li_imul dX12_grammar_179 ?_
              refine li_top (fun x24 ex24 => ?_)
              have z3 : (3 : Int32).toInt = 3 := rfl
              try (have tx24 : x24.toInt = 3 * (x12 : Int32).toInt := tl_mul ex24 (show -2147483648 ≤ 3 * (x12 : Int32).toInt ∧ 3 * (x12 : Int32).toInt ≤ 2147483647 by omega))
              refine li_icmp_ge 201 dX12_grammar_180 (by decide) (fun c25 => ?_) (fun c25 => ?_)
              · have tc25 : x24.toInt ≤ x22.toInt := tl_le c25
                refine li_aload_n 3 dX12_grammar_201 rfl ?_
                refine li_iload_n 2 dX12_grammar_202 rfl ?_
                refine li_puti (k := 38) (N := 52) (T := TX12) (C0 := RX12) dX12_grammar_203 (by decide) sh_175 rfl rfl (by decide) li_in12 tyX12_ok nmX12 rfl rfl rfl rfl w_1442 ?_
                refine li_nm (fun M26 eM26 => ?_)
                have hf := li_fs_ui hf (Or.inr (Or.inr (Or.inr (Or.inr (Or.inr (Or.inr (Or.inr (Or.inr (Or.inl ⟨rfl, rfl⟩))))))))) eM26
                have hJ := J_pt38 hJ (show 0 ≤ (x12 : Int32).toInt ∧ (x12 : Int32).toInt ≤ 10 by omega) eM26
                have rM26_7 := J_sl7 (M := M26) hJ
                have rM26_15 := J_sl15 (M := M26) hJ
                have mM26_7 : (M26.1 175 7).toInt = (M23.1 175 7).toInt := by rw [eM26, li_ui_at, if_pos rfl, if_neg (by decide)]
                have mM26_15 : (M26.1 175 15).toInt = (M23.1 175 15).toInt := by rw [eM26, li_ui_at, if_pos rfl, if_neg (by decide)]
                refine li_iload_n 2 dX12_grammar_206 rfl ?_
                exact li_iret dX12_grammar_207 rfl rfl ⟨⟨_, rfl⟩, hf, hJ, (by omega)⟩
              · have tc25 : x22.toInt < x24.toInt := tl_nle c25
                refine li_aload_n 3 dX12_grammar_183 rfl ?_
                refine li_getr (k := 36) (N := 52) (T := TX12) (C0 := RX12) dX12_grammar_184 (by decide) sh_175 rfl rfl (by decide) (by decide) li_in12 w_1440 ?_
                refine li_iload_n 0 dX12_grammar_187 rfl ?_
                refine li_aload_n 3 dX12_grammar_188 rfl ?_
                refine li_getr (k := 37) (N := 52) (T := TX12) (C0 := RX12) dX12_grammar_189 (by decide) sh_175 rfl rfl (by decide) (by decide) li_in12 w_1441 ?_
                refine li_iload_n 0 dX12_grammar_192 rfl ?_
                refine li_iald dX12_grammar_193 (by decide) sh_194 (tl_in (by omega)) ?_
                refine li_top (fun x27 ex27 => ?_)
                have gx27 := tl_rg x27
                refine li_iast dX12_grammar_194 (by decide) sh_193 (tl_in (by omega)) ?_
                refine li_nm (fun M28 eM28 => ?_)
                have hf := li_fs_ui hf (Or.inl rfl) eM28
                have hJ := hJ.st (by decide) (li_el_free (by unfold li_led; omega) (by decide) (by decide) (by unfold li_rq; omega)) eM28
                have rM28_7 := J_sl7 (M := M28) hJ
                have rM28_15 := J_sl15 (M := M28) hJ
                have mM28_7 : (M28.1 175 7).toInt = (M23.1 175 7).toInt := by rw [eM28, li_ui_at, if_neg (by decide)]
                have mM28_15 : (M28.1 175 15).toInt = (M23.1 175 15).toInt := by rw [eM28, li_ui_at, if_neg (by decide)]
                obtain ⟨x29, ex29⟩ : ∃ y : Int32, y = x22 + 1 := ⟨_, rfl⟩
                have z1 : (1 : Int32).toInt = 1 := rfl
                try (have tx29 : x29.toInt = (x22 : Int32).toInt + (1 : Int32).toInt := tl_add ex29 (by omega))
                refine li_iinc 0 [(3, .int x29), (2, .int x11), (1, .int x12), (0, .ref (Z.2.2 175))] x29 dX12_grammar_195 rfl (by rw [ex29]; rfl) (by decide) rfl ?_
                refine li_goto 176 dX12_grammar_198 (by decide) ?_
                refine li_pick [0, 1, 2, 3] [(3, .int x29), (2, .int x11), (1, .int x12), (0, .ref (Z.2.2 175))] rfl ?_
                exact ih176 x29 M28 (by omega) hf hJ (by omega)
          have z0 : (0 : Int32).toInt = 0 := rfl
          exact L176 _ 0 M19 (Nat.lt_succ_self _) hf hJ (by omega)
        · skip
          refine li_if_ne 174 dX12_grammar_164 (by decide) (fun c => absurd rfl c) (fun c => ?_)
          refine li_iconst (-1) dX12_grammar_167 (by decide) ?_
          refine li_aload_n 2 dX12_grammar_168 rfl ?_
          refine li_geti (k := 15) (N := 52) (T := TX12) (C0 := RX12) dX12_grammar_169 (by decide) sh_175 rfl rfl (by decide) li_in12 w_1419 ?_
          refine li_top (fun x31 ex31 => ?_)
          have gx31 : -1 ≤ x31.toInt ∧ x31.toInt ≤ 81 := by rw [ex31]; exact J_sl15 hJ
          have mx31 : x31.toInt = (M19.1 175 15).toInt := tl_slot ex31
          refine li_isub dX12_grammar_172 ?_
          refine li_top (fun x32 ex32 => ?_)
          have zm1 : ((-1) : Int32).toInt = -1 := rfl
          try (have tx32 : x32.toInt = ((-1) : Int32).toInt - (x31 : Int32).toInt := tl_sub ex32 (by omega))
          exact li_iret dX12_grammar_173 rfl rfl ⟨⟨_, rfl⟩, hf, hJ, (by omega)⟩
      refine li_icmp_ge 160 dX12_grammar_149 (by decide) (fun c16 => ?_) (fun c16 => ?_)
      · have tc16 : x15.toInt ≤ x14.toInt := tl_le c16
        refine li_pick [0, 1, 2] [(2, .int x11), (1, .int x12), (0, .ref (Z.2.2 175))] rfl ?_
        exact J160  M13 hf hJ (by omega)
      · have tc16 : x14.toInt < x15.toInt := tl_nle c16
        refine li_aload_n 2 dX12_grammar_152 rfl ?_
        refine li_aload_n 2 dX12_grammar_153 rfl ?_
        refine li_geti (k := 14) (N := 52) (T := TX12) (C0 := RX12) dX12_grammar_154 (by decide) sh_175 rfl rfl (by decide) li_in12 w_1418 ?_
        refine li_top (fun x33 ex33 => ?_)
        have gx33 : 0 ≤ x33.toInt ∧ x33.toInt ≤ 81 := by rw [ex33]; exact J_sl14 hJ
        have mx33 : x33.toInt = (M13.1 175 14).toInt := tl_slot ex33
        refine li_callV (n := 1) (As := [.int x33]) dX12_grammar_157 (k_X12_faultW (d - 1) (by omega) x33 M13 hJ (by omega)) (by omega) (Nat.le_of_ble_eq_true rfl) w_1585 w_1587 w_44 w_112 w_1588 (by decide +kernel) rfl (by decide) sh_175 rfl rfl (Nat.le_of_ble_eq_true rfl) (fun r M35 h36 => ?_)
        obtain ⟨rfl, h36, jM35, nM35⟩ := h36
        have hf := li_fs_trans hf h36 (fun i k => fun h => Or.inr (Or.inr (Or.inr (Or.inr (Or.inr (Or.inr (Or.inr (Or.inl h))))))))
        have hJ := jM35
        have rM35_7 := J_sl7 (M := M35) hJ
        have rM35_15 := J_sl15 (M := M35) hJ
        have mM35_7 : (M35.1 175 7).toInt = (M13.1 175 7).toInt := tl_slot (h36.1 175 7 (show ¬ ((175 = 175 ∧ 7 = 15)) by decide))
        refine li_pick [0, 1, 2] [(2, .int x11), (1, .int x12), (0, .ref (Z.2.2 175))] rfl ?_
        exact J160  M35 hf hJ (by omega)
    have L39 : ∀ (n : Nat) (x37 : Int32) (x38 : Int32) (M39 : li_M), (12 - (x38 : Int32).toInt).toNat < n → li_fs (fun i k => i = 193 ∨ i = 194 ∨ i = 1000 ∨ (i = 175 ∧ k = 10) ∨ (i = 175 ∧ k = 12) ∨ (i = 175 ∧ k = 13) ∨ (i = 175 ∧ k = 14) ∨ (i = 175 ∧ k = 15) ∨ (i = 175 ∧ k = 38) ∨ (i = 175 ∧ k = 7)) M0 M39 → li_J M39 → 0 ≤ (x38 : Int32).toInt ∧ (x38 : Int32).toInt ≤ 11 ∧ (x38 : Int32).toInt ≤ 11 + (M39.1 175 15).toInt ∧ (M39.1 175 7).toInt = 0 → li_T l Z YX12_grammar d 39 [(2, .int x37), (1, .int x38), (0, .ref (Z.2.2 175))] [] M39 (fun r M' => (∃ x : Int32, r = some (.int x)) ∧ li_fs (fun i k => i = 193 ∨ i = 194 ∨ i = 1000 ∨ (i = 175 ∧ k = 10) ∨ (i = 175 ∧ k = 12) ∨ (i = 175 ∧ k = 13) ∨ (i = 175 ∧ k = 14) ∨ (i = 175 ∧ k = 15) ∨ (i = 175 ∧ k = 38) ∨ (i = 175 ∧ k = 7)) M0 M' ∧ li_J M' ∧ (M'.1 175 7).toInt = 0) := by
      intro n
      induction n with
      | zero => intro x37 x38 M39 hn; exact absurd hn (Nat.not_lt_zero _)
      | succ n ih39 =>
        intro x37 x38 M39 hn hf hJ hi
        have gx37 := tl_rg x37
        have gx38 := tl_rg x38
        have rM39_7 := J_sl7 (M := M39) hJ
        have rM39_15 := J_sl15 (M := M39) hJ
        refine li_iload_n 0 dX12_grammar_39 rfl ?_
        refine li_if_eq 141 dX12_grammar_40 (by decide) (fun c40 => ?_) (fun c40 => ?_)
        · have tc40 : x37.toInt = 0 := tl_eq c40
          refine li_pick [0, 1, 2] [(2, .int x37), (1, .int x38), (0, .ref (Z.2.2 175))] rfl ?_
          exact J141 x37 x38 M39 hf hJ (by omega)
        · have tc40 : ¬ x37.toInt = 0 := tl_ne c40
          refine li_aload_n 2 dX12_grammar_43 rfl ?_
          refine li_callV (n := 0) (As := []) dX12_grammar_44 (k_X12_fineW (d - 1) (by omega)  M39 hJ ) (by omega) (Nat.le_of_ble_eq_true rfl) w_1581 w_1583 w_43 w_112 w_1584 (by decide +kernel) rfl (by decide) sh_175 rfl rfl (Nat.le_of_ble_eq_true rfl) (fun r M42 h43 => ?_)
          obtain ⟨qx41, h43, jM42⟩ := h43
          have hf := li_fs_trans hf h43 (fun i k h => False.elim h)
          have hJ := jM42
          have rM42_7 := J_sl7 (M := M42) hJ
          have rM42_15 := J_sl15 (M := M42) hJ
          have mM42_7 : (M42.1 175 7).toInt = (M39.1 175 7).toInt := tl_slot (h43.1 175 7 id)
          have mM42_15 : (M42.1 175 15).toInt = (M39.1 175 15).toInt := tl_slot (h43.1 175 15 id)
          rcases qx41 with ⟨rfl, qx41⟩ | ⟨rfl, qx41⟩
          · skip
            refine li_if_eq 141 dX12_grammar_47 (by decide) (fun c => absurd c (by decide)) (fun c => ?_)
            refine li_iload_n 1 dX12_grammar_50 rfl ?_
            refine li_bipush 10 dX12_grammar_51 (by decide) ?_
            have J128 : ∀  (M46 : li_M), li_fs (fun i k => i = 193 ∨ i = 194 ∨ i = 1000 ∨ (i = 175 ∧ k = 10) ∨ (i = 175 ∧ k = 12) ∨ (i = 175 ∧ k = 13) ∨ (i = 175 ∧ k = 14) ∨ (i = 175 ∧ k = 15) ∨ (i = 175 ∧ k = 38) ∨ (i = 175 ∧ k = 7)) M0 M46 → li_J M46 → (x38 : Int32).toInt ≤ 10 ∧ (x38 : Int32).toInt ≤ 10 + (M46.1 175 15).toInt ∧ (M46.1 175 7).toInt = 0 → li_T l Z YX12_grammar d 128 [(2, .int x37), (1, .int x38), (0, .ref (Z.2.2 175))] [] M46 (fun r M' => (∃ x : Int32, r = some (.int x)) ∧ li_fs (fun i k => i = 193 ∨ i = 194 ∨ i = 1000 ∨ (i = 175 ∧ k = 10) ∨ (i = 175 ∧ k = 12) ∨ (i = 175 ∧ k = 13) ∨ (i = 175 ∧ k = 14) ∨ (i = 175 ∧ k = 15) ∨ (i = 175 ∧ k = 38) ∨ (i = 175 ∧ k = 7)) M0 M' ∧ li_J M' ∧ (M'.1 175 7).toInt = 0) := by
              intro  M46 hf hJ hi
              have rM46_7 := J_sl7 (M := M46) hJ
              have rM46_15 := J_sl15 (M := M46) hJ
              obtain ⟨x47, ex47⟩ : ∃ y : Int32, y = x38 + 1 := ⟨_, rfl⟩
              have z1 : (1 : Int32).toInt = 1 := rfl
              try (have tx47 : x47.toInt = (x38 : Int32).toInt + (1 : Int32).toInt := tl_add ex47 (by omega))
              refine li_iinc 1 [(1, .int x47), (2, .int x37), (0, .ref (Z.2.2 175))] x47 dX12_grammar_128 rfl (by rw [ex47]; rfl) (by decide) rfl ?_
              refine li_aload_n 2 dX12_grammar_131 rfl ?_
              refine li_bipush 59 dX12_grammar_132 (by decide) ?_
              have z59 : (59 : Int32).toInt = 59 := rfl
              refine li_callV (n := 1) (As := [.int 59]) dX12_grammar_134 (k_X12_passesW (d - 1) (by omega) 59 M46 hJ (by omega)) (by omega) (Nat.le_of_ble_eq_true rfl) w_1605 w_1607 w_49 w_112 w_1608 (by decide +kernel) rfl (by decide) sh_175 rfl rfl (Nat.le_of_ble_eq_true rfl) (fun r M49 h50 => ?_)
              obtain ⟨qx48, h50, jM49⟩ := h50
              have hf := li_fs_trans hf h50 (fun i k => fun h => Or.inr (Or.inr (Or.inr (Or.inr (Or.inr (Or.inr (Or.inl h)))))))
              have hJ := jM49
              have rM49_7 := J_sl7 (M := M49) hJ
              have rM49_15 := J_sl15 (M := M49) hJ
              have mM49_7 : (M49.1 175 7).toInt = (M46.1 175 7).toInt := tl_slot (h50.1 175 7 (show ¬ ((175 = 175 ∧ 7 = 14)) by decide))
              have mM49_15 : (M49.1 175 15).toInt = (M46.1 175 15).toInt := tl_slot (h50.1 175 15 (show ¬ ((175 = 175 ∧ 15 = 14)) by decide))
              rcases qx48 with ⟨rfl, qx48⟩ | ⟨rfl, qx48⟩
              · skip
                refine li_istore_n [(2, .int 1), (1, .int x47), (0, .ref (Z.2.2 175))] dX12_grammar_137 (by decide) rfl ?_
                refine li_goto 39 dX12_grammar_138 (by decide) ?_
                refine li_pick [0, 1, 2] [(2, .int 1), (1, .int x47), (0, .ref (Z.2.2 175))] rfl ?_
                have z1 : (1 : Int32).toInt = 1 := rfl
                exact ih39 1 x47 M49 (by omega) hf hJ (by omega)
              · skip
                refine li_istore_n [(2, .int 0), (1, .int x47), (0, .ref (Z.2.2 175))] dX12_grammar_137 (by decide) rfl ?_
                refine li_goto 39 dX12_grammar_138 (by decide) ?_
                refine li_pick [0, 1, 2] [(2, .int 0), (1, .int x47), (0, .ref (Z.2.2 175))] rfl ?_
                have z0 : (0 : Int32).toInt = 0 := rfl
                exact ih39 0 x47 M49 (by omega) hf hJ (by omega)
            refine li_icmp_ne 67 dX12_grammar_53 (by decide) (fun c45 => ?_) (fun c45 => ?_)
            · have tc45 : ¬ x38.toInt = 10 := tl_ne c45
              refine li_aload_n 2 dX12_grammar_67 rfl ?_
              refine li_getr (k := 37) (N := 52) (T := TX12) (C0 := RX12) dX12_grammar_68 (by decide) sh_175 rfl rfl (by decide) (by decide) li_in12 w_1441 ?_
              refine li_iconst 3 dX12_grammar_71 (by decide) ?_
              refine li_iload_n 1 dX12_grammar_72 rfl ?_
              refine li_imul dX12_grammar_73 ?_
              refine li_top (fun x51 ex51 => ?_)
              have z3 : (3 : Int32).toInt = 3 := rfl
              try (have tx51 : x51.toInt = 3 * (x38 : Int32).toInt := tl_mul ex51 (show -2147483648 ≤ 3 * (x38 : Int32).toInt ∧ 3 * (x38 : Int32).toInt ≤ 2147483647 by omega))
              refine li_aload_n 2 dX12_grammar_74 rfl ?_
              refine li_bipush 97 dX12_grammar_75 (by decide) ?_
              refine li_bipush 7 dX12_grammar_77 (by decide) ?_
              refine li_iconst (-1) dX12_grammar_79 (by decide) ?_
              have z97 : (97 : Int32).toInt = 97 := rfl
              have z7 : (7 : Int32).toInt = 7 := rfl
              have zm1 : ((-1) : Int32).toInt = -1 := rfl
              refine li_callV (n := 3) (As := [.int 97, .int 7, .int (-1)]) dX12_grammar_80 (k_X12_oneOfW (d - 1) (by omega) 97 7 (-1) M42 hJ (by omega) (by omega)) (by omega) (Nat.le_of_ble_eq_true rfl) w_1593 w_1595 w_46 w_112 w_1596 (by decide +kernel) rfl (by decide) sh_175 rfl rfl (Nat.le_of_ble_eq_true rfl) (fun r M53 h54 => ?_)
              obtain ⟨⟨x52, rfl, qx52⟩, h54, jM53⟩ := h54
              have gx52 := tl_rg x52
              have hf := li_fs_trans hf h54 (fun i k => fun h => Or.elim h (fun h => Or.inr (Or.inr (Or.inr (Or.inr (Or.inr (Or.inr (Or.inl h))))))) (fun h => Or.inr (Or.inr (Or.inr (Or.inr (Or.inr (Or.inr (Or.inr (Or.inl h)))))))))
              have hJ := jM53
              have rM53_7 := J_sl7 (M := M53) hJ
              have rM53_15 := J_sl15 (M := M53) hJ
              have mM53_7 : (M53.1 175 7).toInt = (M42.1 175 7).toInt := tl_slot (h54.1 175 7 (show ¬ ((175 = 175 ∧ 7 = 14) ∨ (175 = 175 ∧ 7 = 15)) by decide))
              refine li_iast dX12_grammar_83 (by decide) sh_194 (tl_in (by omega)) ?_
              refine li_nm (fun M55 eM55 => ?_)
              have hf := li_fs_ui hf (Or.inr (Or.inl rfl)) eM55
              have hJ := hJ.st (by decide) (li_el_free (by unfold li_led; omega) (by decide) (by decide) (by unfold li_rq; omega)) eM55
              have rM55_7 := J_sl7 (M := M55) hJ
              have rM55_15 := J_sl15 (M := M55) hJ
              have mM55_7 : (M55.1 175 7).toInt = (M53.1 175 7).toInt := by rw [eM55, li_ui_at, if_neg (by decide)]
              have mM55_15 : (M55.1 175 15).toInt = (M53.1 175 15).toInt := by rw [eM55, li_ui_at, if_neg (by decide)]
              refine li_aload_n 2 dX12_grammar_84 rfl ?_
              refine li_getr (k := 37) (N := 52) (T := TX12) (C0 := RX12) dX12_grammar_85 (by decide) sh_175 rfl rfl (by decide) (by decide) li_in12 w_1441 ?_
              refine li_iconst 3 dX12_grammar_88 (by decide) ?_
              refine li_iload_n 1 dX12_grammar_89 rfl ?_
              refine li_imul dX12_grammar_90 ?_
              refine li_top (fun x56 ex56 => ?_)
              have z3 : (3 : Int32).toInt = 3 := rfl
              try (have tx56 : x56.toInt = 3 * (x38 : Int32).toInt := tl_mul ex56 (show -2147483648 ≤ 3 * (x38 : Int32).toInt ∧ 3 * (x38 : Int32).toInt ≤ 2147483647 by omega))
              refine li_iconst 1 dX12_grammar_91 (by decide) ?_
              refine li_iadd dX12_grammar_92 ?_
              refine li_top (fun x57 ex57 => ?_)
              have z1 : (1 : Int32).toInt = 1 := rfl
              try (have tx57 : x57.toInt = (x56 : Int32).toInt + (1 : Int32).toInt := tl_add ex57 (by omega))
              refine li_aload_n 2 dX12_grammar_93 rfl ?_
              refine li_bipush 97 dX12_grammar_94 (by decide) ?_
              refine li_bipush 7 dX12_grammar_96 (by decide) ?_
              refine li_iconst (-1) dX12_grammar_98 (by decide) ?_
              have z97 : (97 : Int32).toInt = 97 := rfl
              have z7 : (7 : Int32).toInt = 7 := rfl
              have zm1 : ((-1) : Int32).toInt = -1 := rfl
              refine li_callV (n := 3) (As := [.int 97, .int 7, .int (-1)]) dX12_grammar_99 (k_X12_oneOfW (d - 1) (by omega) 97 7 (-1) M55 hJ (by omega) (by omega)) (by omega) (Nat.le_of_ble_eq_true rfl) w_1593 w_1595 w_46 w_112 w_1596 (by decide +kernel) rfl (by decide) sh_175 rfl rfl (Nat.le_of_ble_eq_true rfl) (fun r M59 h60 => ?_)
              obtain ⟨⟨x58, rfl, qx58⟩, h60, jM59⟩ := h60
              have gx58 := tl_rg x58
              have hf := li_fs_trans hf h60 (fun i k => fun h => Or.elim h (fun h => Or.inr (Or.inr (Or.inr (Or.inr (Or.inr (Or.inr (Or.inl h))))))) (fun h => Or.inr (Or.inr (Or.inr (Or.inr (Or.inr (Or.inr (Or.inr (Or.inl h)))))))))
              have hJ := jM59
              have rM59_7 := J_sl7 (M := M59) hJ
              have rM59_15 := J_sl15 (M := M59) hJ
              have mM59_7 : (M59.1 175 7).toInt = (M55.1 175 7).toInt := tl_slot (h60.1 175 7 (show ¬ ((175 = 175 ∧ 7 = 14) ∨ (175 = 175 ∧ 7 = 15)) by decide))
              refine li_iast dX12_grammar_102 (by decide) sh_194 (tl_in (by omega)) ?_
              refine li_nm (fun M61 eM61 => ?_)
              have hf := li_fs_ui hf (Or.inr (Or.inl rfl)) eM61
              have hJ := hJ.st (by decide) (li_el_free (by unfold li_led; omega) (by decide) (by decide) (by unfold li_rq; omega)) eM61
              have rM61_7 := J_sl7 (M := M61) hJ
              have rM61_15 := J_sl15 (M := M61) hJ
              have mM61_7 : (M61.1 175 7).toInt = (M59.1 175 7).toInt := by rw [eM61, li_ui_at, if_neg (by decide)]
              have mM61_15 : (M61.1 175 15).toInt = (M59.1 175 15).toInt := by rw [eM61, li_ui_at, if_neg (by decide)]
              refine li_aload_n 2 dX12_grammar_103 rfl ?_
              refine li_bipush 62 dX12_grammar_104 (by decide) ?_
              have z62 : (62 : Int32).toInt = 62 := rfl
              refine li_callV (n := 1) (As := [.int 62]) dX12_grammar_106 (k_X12_needW (d - 1) (by omega) 62 M61 hJ (by omega)) (by omega) (Nat.le_of_ble_eq_true rfl) w_1601 w_1603 w_48 w_112 w_1604 (by decide +kernel) rfl (by decide) sh_175 rfl rfl (Nat.le_of_ble_eq_true rfl) (fun r M63 h64 => ?_)
              obtain ⟨rfl, h64, jM63, nM63⟩ := h64
              have hf := li_fs_trans hf h64 (fun i k => fun h => Or.elim h (fun h => Or.inr (Or.inr (Or.inr (Or.inr (Or.inr (Or.inr (Or.inl h))))))) (fun h => Or.inr (Or.inr (Or.inr (Or.inr (Or.inr (Or.inr (Or.inr (Or.inl h)))))))))
              have hJ := jM63
              have rM63_7 := J_sl7 (M := M63) hJ
              have rM63_15 := J_sl15 (M := M63) hJ
              have mM63_7 : (M63.1 175 7).toInt = (M61.1 175 7).toInt := tl_slot (h64.1 175 7 (show ¬ ((175 = 175 ∧ 7 = 14) ∨ (175 = 175 ∧ 7 = 15)) by decide))
              refine li_aload_n 2 dX12_grammar_109 rfl ?_
              refine li_getr (k := 37) (N := 52) (T := TX12) (C0 := RX12) dX12_grammar_110 (by decide) sh_175 rfl rfl (by decide) (by decide) li_in12 w_1441 ?_
              refine li_iconst 3 dX12_grammar_113 (by decide) ?_
              refine li_iload_n 1 dX12_grammar_114 rfl ?_
              refine li_imul dX12_grammar_115 ?_
              refine li_top (fun x65 ex65 => ?_)
              have z3 : (3 : Int32).toInt = 3 := rfl
              try (have tx65 : x65.toInt = 3 * (x38 : Int32).toInt := tl_mul ex65 (show -2147483648 ≤ 3 * (x38 : Int32).toInt ∧ 3 * (x38 : Int32).toInt ≤ 2147483647 by omega))
              refine li_iconst 2 dX12_grammar_116 (by decide) ?_
              refine li_iadd dX12_grammar_117 ?_
              refine li_top (fun x66 ex66 => ?_)
              have z2 : (2 : Int32).toInt = 2 := rfl
              try (have tx66 : x66.toInt = (x65 : Int32).toInt + (2 : Int32).toInt := tl_add ex66 (by omega))
              refine li_aload_n 2 dX12_grammar_118 rfl ?_
              refine li_bipush 97 dX12_grammar_119 (by decide) ?_
              refine li_bipush 7 dX12_grammar_121 (by decide) ?_
              refine li_iconst (-1) dX12_grammar_123 (by decide) ?_
              have z97 : (97 : Int32).toInt = 97 := rfl
              have z7 : (7 : Int32).toInt = 7 := rfl
              have zm1 : ((-1) : Int32).toInt = -1 := rfl
              refine li_callV (n := 3) (As := [.int 97, .int 7, .int (-1)]) dX12_grammar_124 (k_X12_oneOfW (d - 1) (by omega) 97 7 (-1) M63 hJ (by omega) (by omega)) (by omega) (Nat.le_of_ble_eq_true rfl) w_1593 w_1595 w_46 w_112 w_1596 (by decide +kernel) rfl (by decide) sh_175 rfl rfl (Nat.le_of_ble_eq_true rfl) (fun r M68 h69 => ?_)
              obtain ⟨⟨x67, rfl, qx67⟩, h69, jM68⟩ := h69
              have gx67 := tl_rg x67
              have hf := li_fs_trans hf h69 (fun i k => fun h => Or.elim h (fun h => Or.inr (Or.inr (Or.inr (Or.inr (Or.inr (Or.inr (Or.inl h))))))) (fun h => Or.inr (Or.inr (Or.inr (Or.inr (Or.inr (Or.inr (Or.inr (Or.inl h)))))))))
              have hJ := jM68
              have rM68_7 := J_sl7 (M := M68) hJ
              have rM68_15 := J_sl15 (M := M68) hJ
              have mM68_7 : (M68.1 175 7).toInt = (M63.1 175 7).toInt := tl_slot (h69.1 175 7 (show ¬ ((175 = 175 ∧ 7 = 14) ∨ (175 = 175 ∧ 7 = 15)) by decide))
              refine li_iast dX12_grammar_127 (by decide) sh_194 (tl_in (by omega)) ?_
              refine li_nm (fun M70 eM70 => ?_)
              have hf := li_fs_ui hf (Or.inr (Or.inl rfl)) eM70
              have hJ := hJ.st (by decide) (li_el_free (by unfold li_led; omega) (by decide) (by decide) (by unfold li_rq; omega)) eM70
              have rM70_7 := J_sl7 (M := M70) hJ
              have rM70_15 := J_sl15 (M := M70) hJ
              have mM70_7 : (M70.1 175 7).toInt = (M68.1 175 7).toInt := by rw [eM70, li_ui_at, if_neg (by decide)]
              have mM70_15 : (M70.1 175 15).toInt = (M68.1 175 15).toInt := by rw [eM70, li_ui_at, if_neg (by decide)]
              refine li_pick [0, 1, 2] [(2, .int x37), (1, .int x38), (0, .ref (Z.2.2 175))] rfl ?_
              exact J128  M70 hf hJ (by omega)
            · have tc45 : x38.toInt = 10 := tl_eq c45
              refine li_aload_n 2 dX12_grammar_56 rfl ?_
              refine li_aload_n 2 dX12_grammar_57 rfl ?_
              refine li_geti (k := 14) (N := 52) (T := TX12) (C0 := RX12) dX12_grammar_58 (by decide) sh_175 rfl rfl (by decide) li_in12 w_1418 ?_
              refine li_top (fun x71 ex71 => ?_)
              have gx71 : 0 ≤ x71.toInt ∧ x71.toInt ≤ 81 := by rw [ex71]; exact J_sl14 hJ
              have mx71 : x71.toInt = (M42.1 175 14).toInt := tl_slot ex71
              refine li_callV (n := 1) (As := [.int x71]) dX12_grammar_61 (k_X12_faultW (d - 1) (by omega) x71 M42 hJ (by omega)) (by omega) (Nat.le_of_ble_eq_true rfl) w_1585 w_1587 w_44 w_112 w_1588 (by decide +kernel) rfl (by decide) sh_175 rfl rfl (Nat.le_of_ble_eq_true rfl) (fun r M73 h74 => ?_)
              obtain ⟨rfl, h74, jM73, nM73⟩ := h74
              have hf := li_fs_trans hf h74 (fun i k => fun h => Or.inr (Or.inr (Or.inr (Or.inr (Or.inr (Or.inr (Or.inr (Or.inl h))))))))
              have hJ := jM73
              have rM73_7 := J_sl7 (M := M73) hJ
              have rM73_15 := J_sl15 (M := M73) hJ
              have mM73_7 : (M73.1 175 7).toInt = (M42.1 175 7).toInt := tl_slot (h74.1 175 7 (show ¬ ((175 = 175 ∧ 7 = 15)) by decide))
              refine li_goto 128 dX12_grammar_64 (by decide) ?_
              refine li_pick [0, 1, 2] [(2, .int x37), (1, .int x38), (0, .ref (Z.2.2 175))] rfl ?_
              exact J128  M73 hf hJ (by omega)
          · skip
            refine li_if_eq 141 dX12_grammar_47 (by decide) (fun c => ?_) (fun c => absurd rfl c)
            refine li_pick [0, 1, 2] [(2, .int x37), (1, .int x38), (0, .ref (Z.2.2 175))] rfl ?_
            exact J141 x37 x38 M42 hf hJ (by omega)
    have z0 : (0 : Int32).toInt = 0 := rfl
    exact L39 _ x9 0 M10 (Nat.lt_succ_self _) hf hJ (by omega)
  refine li_if_le 37 dX12_grammar_30 (by decide) (fun c8 => ?_) (fun c8 => ?_)
  · have tc8 : x7.toInt ≤ 0 := tl_le c8
    refine li_iconst 0 dX12_grammar_37 (by decide) ?_
    refine li_pick [0, 1] [(1, .int 0), (0, .ref (Z.2.2 175))] rfl ?_
    have z0 : (0 : Int32).toInt = 0 := rfl
    exact J38 0 M6 hf hJ (by omega)
  · have tc8 : 0 < x7.toInt := tl_nle c8
    refine li_iconst 1 dX12_grammar_33 (by decide) ?_
    refine li_goto 38 dX12_grammar_34 (by decide) ?_
    refine li_pick [0, 1] [(1, .int 0), (0, .ref (Z.2.2 175))] rfl ?_
    have z1 : (1 : Int32).toInt = 1 := rfl
    exact J38 1 M6 hf hJ (by omega)
set_option maxRecDepth 100000 in
set_option maxHeartbeats 4000000 in
theorem k3_X12_talk {l : Launch} {Z : li_Z} (d : Nat) (hd : 343 ≤ d) (M0 : li_M) (hJ : li_J M0) : li_Met l Z YX12_talk d [.ref (Z.2.2 175)] M0 (fun r M' => (∃ x : Int32, r = some (.int x)) ∧ li_fs (fun i k => i = 176 ∨ i = 181 ∨ i = 185 ∨ i = 186 ∨ i = 187 ∨ i = 188 ∨ i = 1000 ∨ (i = 175 ∧ k = 10) ∨ (i = 175 ∧ k = 12) ∨ (i = 175 ∧ k = 13) ∨ (i = 175 ∧ k = 14) ∨ (i = 175 ∧ k = 15) ∨ (i = 175 ∧ k = 20) ∨ (i = 175 ∧ k = 23) ∨ (i = 175 ∧ k = 25) ∨ (i = 175 ∧ k = 26) ∨ (i = 175 ∧ k = 28) ∨ (i = 175 ∧ k = 7) ∨ (i = 175 ∧ k = 9)) M0 M' ∧ li_J M' ∧ (M'.1 175 7).toInt = 0) := by
  refine li_enter (by decide +kernel) (Nat.le_of_ble_eq_true rfl) ?_
  show li_T l Z YX12_talk d 0 [(0, .ref (Z.2.2 175))] [] M0 _
  have hf : li_fs (fun i k => i = 176 ∨ i = 181 ∨ i = 185 ∨ i = 186 ∨ i = 187 ∨ i = 188 ∨ i = 1000 ∨ (i = 175 ∧ k = 10) ∨ (i = 175 ∧ k = 12) ∨ (i = 175 ∧ k = 13) ∨ (i = 175 ∧ k = 14) ∨ (i = 175 ∧ k = 15) ∨ (i = 175 ∧ k = 20) ∨ (i = 175 ∧ k = 23) ∨ (i = 175 ∧ k = 25) ∨ (i = 175 ∧ k = 26) ∨ (i = 175 ∧ k = 28) ∨ (i = 175 ∧ k = 7) ∨ (i = 175 ∧ k = 9)) M0 M0 := li_fs_refl
  have rM0_7 := J_sl7 (M := M0) hJ
  have rM0_9 := J_sl9 (M := M0) hJ
  have rM0_12 := J_sl12 (M := M0) hJ
  have rM0_13 := J_sl13 (M := M0) hJ
  have rM0_14 := J_sl14 (M := M0) hJ
  have rM0_15 := J_sl15 (M := M0) hJ
  refine li_aload_n 0 dX12_talk_0 rfl ?_
  refine li_iconst 0 dX12_talk_1 (by decide) ?_
  refine li_puti (k := 10) (N := 52) (T := TX12) (C0 := RX12) dX12_talk_2 (by decide) sh_175 rfl rfl (by decide) li_in12 tyX12_ok nmX12 rfl rfl rfl rfl w_1414 ?_
  refine li_nm (fun M1 eM1 => ?_)
  have hf := li_fs_ui hf (Or.inr (Or.inr (Or.inr (Or.inr (Or.inr (Or.inr (Or.inr (Or.inl ⟨rfl, rfl⟩)))))))) eM1
  have z0 : (0 : Int32).toInt = 0 := rfl
  have hJ := hJ.put (k := 10) (by decide) (rg_free rfl) eM1
  have rM1_7 := J_sl7 (M := M1) hJ
  have rM1_9 := J_sl9 (M := M1) hJ
  have rM1_12 := J_sl12 (M := M1) hJ
  have rM1_13 := J_sl13 (M := M1) hJ
  have rM1_14 := J_sl14 (M := M1) hJ
  have rM1_15 := J_sl15 (M := M1) hJ
  have mM1_7 : (M1.1 175 7).toInt = (M0.1 175 7).toInt := by rw [eM1, li_ui_at, if_pos rfl, if_neg (by decide)]
  have mM1_9 : (M1.1 175 9).toInt = (M0.1 175 9).toInt := by rw [eM1, li_ui_at, if_pos rfl, if_neg (by decide)]
  have mM1_12 : (M1.1 175 12).toInt = (M0.1 175 12).toInt := by rw [eM1, li_ui_at, if_pos rfl, if_neg (by decide)]
  have mM1_13 : (M1.1 175 13).toInt = (M0.1 175 13).toInt := by rw [eM1, li_ui_at, if_pos rfl, if_neg (by decide)]
  have mM1_14 : (M1.1 175 14).toInt = (M0.1 175 14).toInt := by rw [eM1, li_ui_at, if_pos rfl, if_neg (by decide)]
  have mM1_15 : (M1.1 175 15).toInt = (M0.1 175 15).toInt := by rw [eM1, li_ui_at, if_pos rfl, if_neg (by decide)]
  refine li_aload_n 0 dX12_talk_5 rfl ?_
  refine li_aload_n 0 dX12_talk_6 rfl ?_
  refine li_getr (k := 6) (N := 52) (T := TX12) (C0 := RX12) dX12_talk_7 (by decide) sh_175 rfl rfl (by decide) (by decide) li_in12 w_1410 ?_
  refine li_aload_n 0 dX12_talk_10 rfl ?_
  refine li_geti (k := 7) (N := 52) (T := TX12) (C0 := RX12) dX12_talk_11 (by decide) sh_175 rfl rfl (by decide) li_in12 w_1411 ?_
  refine li_top (fun x2 ex2 => ?_)
  have gx2 : 0 ≤ x2.toInt ∧ x2.toInt ≤ 80 := by rw [ex2]; exact J_sl7 hJ
  have mx2 : x2.toInt = (M1.1 175 7).toInt := tl_slot ex2
  refine li_bipush 60 dX12_talk_14 (by decide) ?_
  have z60 : (60 : Int32).toInt = 60 := rfl
  refine li_callV (n := 3) (As := [.ref (Z.2.2 180), .int x2, .int 60]) dX12_talk_16 (k_X12_begin (d - 1) (by unfold li_rq; omega) x2 60 M1 hJ (show 0 ≤ (x2 : Int32).toInt ∧ (x2 : Int32).toInt ≤ (li_qn 180 : Int) by have := li_qn_fix; omega) (by omega)) (by omega) (Nat.le_of_ble_eq_true rfl) w_1577 w_1579 w_42 w_112 w_1580 (by decide +kernel) rfl (by decide) sh_175 rfl rfl (Nat.le_of_ble_eq_true rfl) (fun r M4 h5 => ?_)
  obtain ⟨rfl, h5, jM4, nM4⟩ := h5
  have hf := li_fs_trans hf h5 (fun i k => fun h => Or.elim h (fun h => Or.inr (Or.inr (Or.inr (Or.inr (Or.inr (Or.inr (Or.inr (Or.inr (Or.inl h))))))))) (fun h => Or.elim h (fun h => Or.inr (Or.inr (Or.inr (Or.inr (Or.inr (Or.inr (Or.inr (Or.inr (Or.inr (Or.inl h)))))))))) (fun h => Or.elim h (fun h => Or.inr (Or.inr (Or.inr (Or.inr (Or.inr (Or.inr (Or.inr (Or.inr (Or.inr (Or.inr (Or.inl h))))))))))) (fun h => Or.elim h (fun h => Or.inr (Or.inr (Or.inr (Or.inr (Or.inr (Or.inr (Or.inr (Or.inr (Or.inr (Or.inr (Or.inr (Or.inl h)))))))))))) (fun h => Or.inr (Or.inr (Or.inr (Or.inr (Or.inr (Or.inr (Or.inl h)))))))))))
  have hJ := jM4
  have rM4_7 := J_sl7 (M := M4) hJ
  have rM4_9 := J_sl9 (M := M4) hJ
  have rM4_12 := J_sl12 (M := M4) hJ
  have rM4_13 := J_sl13 (M := M4) hJ
  have rM4_14 := J_sl14 (M := M4) hJ
  have rM4_15 := J_sl15 (M := M4) hJ
  have mM4_7 : (M4.1 175 7).toInt = (M1.1 175 7).toInt := tl_slot (h5.1 175 7 (show ¬ ((175 = 175 ∧ 7 = 12) ∨ (175 = 175 ∧ 7 = 13) ∨ (175 = 175 ∧ 7 = 14) ∨ (175 = 175 ∧ 7 = 15) ∨ 175 = 1000) by decide))
  have mM4_9 : (M4.1 175 9).toInt = (M1.1 175 9).toInt := tl_slot (h5.1 175 9 (show ¬ ((175 = 175 ∧ 9 = 12) ∨ (175 = 175 ∧ 9 = 13) ∨ (175 = 175 ∧ 9 = 14) ∨ (175 = 175 ∧ 9 = 15) ∨ 175 = 1000) by decide))
  refine li_aload_n 0 dX12_talk_19 rfl ?_
  refine li_iconst 0 dX12_talk_20 (by decide) ?_
  refine li_puti (k := 7) (N := 52) (T := TX12) (C0 := RX12) dX12_talk_21 (by decide) sh_175 rfl rfl (by decide) li_in12 tyX12_ok nmX12 rfl rfl rfl rfl w_1411 ?_
  refine li_nm (fun M6 eM6 => ?_)
  have hf := li_fs_ui hf (Or.inr (Or.inr (Or.inr (Or.inr (Or.inr (Or.inr (Or.inr (Or.inr (Or.inr (Or.inr (Or.inr (Or.inr (Or.inr (Or.inr (Or.inr (Or.inr (Or.inr (Or.inl ⟨rfl, rfl⟩)))))))))))))))))) eM6
  have z0 : (0 : Int32).toInt = 0 := rfl
  have hJ := J_pt7 hJ (show 0 ≤ (0 : Int32).toInt ∧ (0 : Int32).toInt ≤ 80 by omega) eM6
  have rM6_7 := J_sl7 (M := M6) hJ
  have rM6_9 := J_sl9 (M := M6) hJ
  have rM6_12 := J_sl12 (M := M6) hJ
  have rM6_13 := J_sl13 (M := M6) hJ
  have rM6_14 := J_sl14 (M := M6) hJ
  have rM6_15 := J_sl15 (M := M6) hJ
  have mM6_7 : (M6.1 175 7).toInt = 0 := by rw [eM6, li_ui_at, if_pos rfl, if_pos rfl]; rfl
  have mM6_9 : (M6.1 175 9).toInt = (M4.1 175 9).toInt := by rw [eM6, li_ui_at, if_pos rfl, if_neg (by decide)]
  have mM6_12 : (M6.1 175 12).toInt = (M4.1 175 12).toInt := by rw [eM6, li_ui_at, if_pos rfl, if_neg (by decide)]
  have mM6_13 : (M6.1 175 13).toInt = (M4.1 175 13).toInt := by rw [eM6, li_ui_at, if_pos rfl, if_neg (by decide)]
  have mM6_14 : (M6.1 175 14).toInt = (M4.1 175 14).toInt := by rw [eM6, li_ui_at, if_pos rfl, if_neg (by decide)]
  have mM6_15 : (M6.1 175 15).toInt = (M4.1 175 15).toInt := by rw [eM6, li_ui_at, if_pos rfl, if_neg (by decide)]
  refine li_iconst 0 dX12_talk_24 (by decide) ?_
  refine li_istore_n [(1, .int 0), (0, .ref (Z.2.2 175))] dX12_talk_25 (by decide) rfl ?_
  refine li_aload_n 1 dX12_talk_26 rfl ?_
  refine li_geti (k := 12) (N := 52) (T := TX12) (C0 := RX12) dX12_talk_27 (by decide) sh_175 rfl rfl (by decide) li_in12 w_1416 ?_
  refine li_top (fun x7 ex7 => ?_)
  have gx7 : 0 ≤ x7.toInt ∧ x7.toInt ≤ 80 := by rw [ex7]; exact J_sl12 hJ
  have mx7 : x7.toInt = (M6.1 175 12).toInt := tl_slot ex7
  have J38 : ∀ (x9 : Int32) (M10 : li_M), li_fs (fun i k => i = 176 ∨ i = 181 ∨ i = 185 ∨ i = 186 ∨ i = 187 ∨ i = 188 ∨ i = 1000 ∨ (i = 175 ∧ k = 10) ∨ (i = 175 ∧ k = 12) ∨ (i = 175 ∧ k = 13) ∨ (i = 175 ∧ k = 14) ∨ (i = 175 ∧ k = 15) ∨ (i = 175 ∧ k = 20) ∨ (i = 175 ∧ k = 23) ∨ (i = 175 ∧ k = 25) ∨ (i = 175 ∧ k = 26) ∨ (i = 175 ∧ k = 28) ∨ (i = 175 ∧ k = 7) ∨ (i = 175 ∧ k = 9)) M0 M10 → li_J M10 → (M10.1 175 14).toInt = 0 ∧ (M10.1 175 7).toInt = 0 → li_T l Z YX12_talk d 38 [(1, .int 0), (0, .ref (Z.2.2 175))] [.int x9] M10 (fun r M' => (∃ x : Int32, r = some (.int x)) ∧ li_fs (fun i k => i = 176 ∨ i = 181 ∨ i = 185 ∨ i = 186 ∨ i = 187 ∨ i = 188 ∨ i = 1000 ∨ (i = 175 ∧ k = 10) ∨ (i = 175 ∧ k = 12) ∨ (i = 175 ∧ k = 13) ∨ (i = 175 ∧ k = 14) ∨ (i = 175 ∧ k = 15) ∨ (i = 175 ∧ k = 20) ∨ (i = 175 ∧ k = 23) ∨ (i = 175 ∧ k = 25) ∨ (i = 175 ∧ k = 26) ∨ (i = 175 ∧ k = 28) ∨ (i = 175 ∧ k = 7) ∨ (i = 175 ∧ k = 9)) M0 M' ∧ li_J M' ∧ (M'.1 175 7).toInt = 0) := by
    intro x9 M10 hf hJ hi
    have gx9 := tl_rg x9
    have rM10_7 := J_sl7 (M := M10) hJ
    have rM10_9 := J_sl9 (M := M10) hJ
    have rM10_12 := J_sl12 (M := M10) hJ
    have rM10_13 := J_sl13 (M := M10) hJ
    have rM10_14 := J_sl14 (M := M10) hJ
    have rM10_15 := J_sl15 (M := M10) hJ
    refine li_istore_n [(2, .int x9), (1, .int 0), (0, .ref (Z.2.2 175))] dX12_talk_38 (by decide) rfl ?_
    have J70 : ∀ (x11 : Int32) (x12 : Int32) (M13 : li_M), li_fs (fun i k => i = 176 ∨ i = 181 ∨ i = 185 ∨ i = 186 ∨ i = 187 ∨ i = 188 ∨ i = 1000 ∨ (i = 175 ∧ k = 10) ∨ (i = 175 ∧ k = 12) ∨ (i = 175 ∧ k = 13) ∨ (i = 175 ∧ k = 14) ∨ (i = 175 ∧ k = 15) ∨ (i = 175 ∧ k = 20) ∨ (i = 175 ∧ k = 23) ∨ (i = 175 ∧ k = 25) ∨ (i = 175 ∧ k = 26) ∨ (i = 175 ∧ k = 28) ∨ (i = 175 ∧ k = 7) ∨ (i = 175 ∧ k = 9)) M0 M13 → li_J M13 → 0 ≤ (x12 : Int32).toInt ∧ (x12 : Int32).toInt ≤ 41 ∧ (M13.1 175 7).toInt = 0 → li_T l Z YX12_talk d 70 [(2, .int x11), (1, .int x12), (0, .ref (Z.2.2 175))] [] M13 (fun r M' => (∃ x : Int32, r = some (.int x)) ∧ li_fs (fun i k => i = 176 ∨ i = 181 ∨ i = 185 ∨ i = 186 ∨ i = 187 ∨ i = 188 ∨ i = 1000 ∨ (i = 175 ∧ k = 10) ∨ (i = 175 ∧ k = 12) ∨ (i = 175 ∧ k = 13) ∨ (i = 175 ∧ k = 14) ∨ (i = 175 ∧ k = 15) ∨ (i = 175 ∧ k = 20) ∨ (i = 175 ∧ k = 23) ∨ (i = 175 ∧ k = 25) ∨ (i = 175 ∧ k = 26) ∨ (i = 175 ∧ k = 28) ∨ (i = 175 ∧ k = 7) ∨ (i = 175 ∧ k = 9)) M0 M' ∧ li_J M' ∧ (M'.1 175 7).toInt = 0) := by
      intro x11 x12 M13 hf hJ hi
      have gx11 := tl_rg x11
      have gx12 := tl_rg x12
      have rM13_7 := J_sl7 (M := M13) hJ
      have rM13_9 := J_sl9 (M := M13) hJ
      have rM13_12 := J_sl12 (M := M13) hJ
      have rM13_13 := J_sl13 (M := M13) hJ
      have rM13_14 := J_sl14 (M := M13) hJ
      have rM13_15 := J_sl15 (M := M13) hJ
      refine li_aload_n 2 dX12_talk_70 rfl ?_
      refine li_geti (k := 14) (N := 52) (T := TX12) (C0 := RX12) dX12_talk_71 (by decide) sh_175 rfl rfl (by decide) li_in12 w_1418 ?_
      refine li_top (fun x14 ex14 => ?_)
      have gx14 : 0 ≤ x14.toInt ∧ x14.toInt ≤ 81 := by rw [ex14]; exact J_sl14 hJ
      have mx14 : x14.toInt = (M13.1 175 14).toInt := tl_slot ex14
      refine li_aload_n 2 dX12_talk_74 rfl ?_
      refine li_geti (k := 12) (N := 52) (T := TX12) (C0 := RX12) dX12_talk_75 (by decide) sh_175 rfl rfl (by decide) li_in12 w_1416 ?_
      refine li_top (fun x15 ex15 => ?_)
      have gx15 : 0 ≤ x15.toInt ∧ x15.toInt ≤ 80 := by rw [ex15]; exact J_sl12 hJ
      have mx15 : x15.toInt = (M13.1 175 12).toInt := tl_slot ex15
      have J89 : ∀  (M17 : li_M), li_fs (fun i k => i = 176 ∨ i = 181 ∨ i = 185 ∨ i = 186 ∨ i = 187 ∨ i = 188 ∨ i = 1000 ∨ (i = 175 ∧ k = 10) ∨ (i = 175 ∧ k = 12) ∨ (i = 175 ∧ k = 13) ∨ (i = 175 ∧ k = 14) ∨ (i = 175 ∧ k = 15) ∨ (i = 175 ∧ k = 20) ∨ (i = 175 ∧ k = 23) ∨ (i = 175 ∧ k = 25) ∨ (i = 175 ∧ k = 26) ∨ (i = 175 ∧ k = 28) ∨ (i = 175 ∧ k = 7) ∨ (i = 175 ∧ k = 9)) M0 M17 → li_J M17 → (M17.1 175 7).toInt = 0 → li_T l Z YX12_talk d 89 [(2, .int x11), (1, .int x12), (0, .ref (Z.2.2 175))] [] M17 (fun r M' => (∃ x : Int32, r = some (.int x)) ∧ li_fs (fun i k => i = 176 ∨ i = 181 ∨ i = 185 ∨ i = 186 ∨ i = 187 ∨ i = 188 ∨ i = 1000 ∨ (i = 175 ∧ k = 10) ∨ (i = 175 ∧ k = 12) ∨ (i = 175 ∧ k = 13) ∨ (i = 175 ∧ k = 14) ∨ (i = 175 ∧ k = 15) ∨ (i = 175 ∧ k = 20) ∨ (i = 175 ∧ k = 23) ∨ (i = 175 ∧ k = 25) ∨ (i = 175 ∧ k = 26) ∨ (i = 175 ∧ k = 28) ∨ (i = 175 ∧ k = 7) ∨ (i = 175 ∧ k = 9)) M0 M' ∧ li_J M' ∧ (M'.1 175 7).toInt = 0) := by
        intro  M17 hf hJ hi
        have rM17_7 := J_sl7 (M := M17) hJ
        have rM17_9 := J_sl9 (M := M17) hJ
        have rM17_12 := J_sl12 (M := M17) hJ
        have rM17_13 := J_sl13 (M := M17) hJ
        have rM17_14 := J_sl14 (M := M17) hJ
        have rM17_15 := J_sl15 (M := M17) hJ
        refine li_aload_n 2 dX12_talk_89 rfl ?_
        refine li_callV (n := 0) (As := []) dX12_talk_90 (k_X12_fine (d - 1) (by omega)  M17 hJ ) (by omega) (Nat.le_of_ble_eq_true rfl) w_1581 w_1583 w_43 w_112 w_1584 (by decide +kernel) rfl (by decide) sh_175 rfl rfl (Nat.le_of_ble_eq_true rfl) (fun r M19 h20 => ?_)
        obtain ⟨qx18, h20, jM19⟩ := h20
        have hf := li_fs_trans hf h20 (fun i k h => False.elim h)
        have hJ := jM19
        have rM19_7 := J_sl7 (M := M19) hJ
        have rM19_9 := J_sl9 (M := M19) hJ
        have rM19_12 := J_sl12 (M := M19) hJ
        have rM19_13 := J_sl13 (M := M19) hJ
        have rM19_14 := J_sl14 (M := M19) hJ
        have rM19_15 := J_sl15 (M := M19) hJ
        have mM19_7 : (M19.1 175 7).toInt = (M17.1 175 7).toInt := tl_slot (h20.1 175 7 id)
        have mM19_9 : (M19.1 175 9).toInt = (M17.1 175 9).toInt := tl_slot (h20.1 175 9 id)
        have mM19_12 : (M19.1 175 12).toInt = (M17.1 175 12).toInt := tl_slot (h20.1 175 12 id)
        have mM19_13 : (M19.1 175 13).toInt = (M17.1 175 13).toInt := tl_slot (h20.1 175 13 id)
        have mM19_14 : (M19.1 175 14).toInt = (M17.1 175 14).toInt := tl_slot (h20.1 175 14 id)
        have mM19_15 : (M19.1 175 15).toInt = (M17.1 175 15).toInt := tl_slot (h20.1 175 15 id)
        rcases qx18 with ⟨rfl, qx18⟩ | ⟨rfl, qx18⟩
        · skip
          refine li_if_ne 103 dX12_talk_93 (by decide) (fun c => ?_) (fun c => absurd c (by decide))
          refine li_aload_n 2 dX12_talk_103 rfl ?_
          refine li_getr (k := 0) (N := 52) (T := TX12) (C0 := RX12) dX12_talk_104 (by decide) sh_175 rfl rfl (by decide) (by decide) li_in12 w_1404 ?_
          refine li_aload_n 2 dX12_talk_107 rfl ?_
          refine li_getr (k := 24) (N := 52) (T := TX12) (C0 := RX12) dX12_talk_108 (by decide) sh_175 rfl rfl (by decide) (by decide) li_in12 w_1428 ?_
          refine li_iconst 0 dX12_talk_111 (by decide) ?_
          have z0 : (0 : Int32).toInt = 0 := rfl
          refine li_callS (n := 3) (As := [.ref (Z.2.2 176), .ref (Z.2.2 187), .int 0]) dX12_talk_112 (k_X12_lay_na (d - 1) (by omega) 0 M19 hJ (by omega)) (by omega) (Nat.le_of_ble_eq_true rfl) w_1745 w_1746 w_112 w_1747 (by decide +kernel) rfl rfl (Nat.le_of_ble_eq_true rfl) (fun r M23 h24 => ?_)
          obtain ⟨rfl, h24, jM23⟩ := h24
          have hf := li_fs_trans hf h24 (fun i k => fun h => Or.inr (Or.inr (Or.inr (Or.inr (Or.inl h)))))
          have hJ := jM23
          have rM23_7 := J_sl7 (M := M23) hJ
          have rM23_9 := J_sl9 (M := M23) hJ
          have rM23_12 := J_sl12 (M := M23) hJ
          have rM23_13 := J_sl13 (M := M23) hJ
          have rM23_14 := J_sl14 (M := M23) hJ
          have rM23_15 := J_sl15 (M := M23) hJ
          have mM23_7 : (M23.1 175 7).toInt = (M19.1 175 7).toInt := tl_slot (h24.1 175 7 (show ¬ (175 = 187) by decide))
          have mM23_9 : (M23.1 175 9).toInt = (M19.1 175 9).toInt := tl_slot (h24.1 175 9 (show ¬ (175 = 187) by decide))
          have mM23_12 : (M23.1 175 12).toInt = (M19.1 175 12).toInt := tl_slot (h24.1 175 12 (show ¬ (175 = 187) by decide))
          have mM23_13 : (M23.1 175 13).toInt = (M19.1 175 13).toInt := tl_slot (h24.1 175 13 (show ¬ (175 = 187) by decide))
          have mM23_14 : (M23.1 175 14).toInt = (M19.1 175 14).toInt := tl_slot (h24.1 175 14 (show ¬ (175 = 187) by decide))
          have mM23_15 : (M23.1 175 15).toInt = (M19.1 175 15).toInt := tl_slot (h24.1 175 15 (show ¬ (175 = 187) by decide))
          refine li_aload_n 2 dX12_talk_115 rfl ?_
          refine li_iconst 0 dX12_talk_116 (by decide) ?_
          refine li_puti (k := 28) (N := 52) (T := TX12) (C0 := RX12) dX12_talk_117 (by decide) sh_175 rfl rfl (by decide) li_in12 tyX12_ok nmX12 rfl rfl rfl rfl w_1432 ?_
          refine li_nm (fun M25 eM25 => ?_)
          have hf := li_fs_ui hf (Or.inr (Or.inr (Or.inr (Or.inr (Or.inr (Or.inr (Or.inr (Or.inr (Or.inr (Or.inr (Or.inr (Or.inr (Or.inr (Or.inr (Or.inr (Or.inr (Or.inl ⟨rfl, rfl⟩))))))))))))))))) eM25
          have z0 : (0 : Int32).toInt = 0 := rfl
          have hJ := hJ.put (k := 28) (by decide) (rg_free rfl) eM25
          have rM25_7 := J_sl7 (M := M25) hJ
          have rM25_9 := J_sl9 (M := M25) hJ
          have rM25_12 := J_sl12 (M := M25) hJ
          have rM25_13 := J_sl13 (M := M25) hJ
          have rM25_14 := J_sl14 (M := M25) hJ
          have rM25_15 := J_sl15 (M := M25) hJ
          have mM25_7 : (M25.1 175 7).toInt = (M23.1 175 7).toInt := by rw [eM25, li_ui_at, if_pos rfl, if_neg (by decide)]
          have mM25_9 : (M25.1 175 9).toInt = (M23.1 175 9).toInt := by rw [eM25, li_ui_at, if_pos rfl, if_neg (by decide)]
          have mM25_12 : (M25.1 175 12).toInt = (M23.1 175 12).toInt := by rw [eM25, li_ui_at, if_pos rfl, if_neg (by decide)]
          have mM25_13 : (M25.1 175 13).toInt = (M23.1 175 13).toInt := by rw [eM25, li_ui_at, if_pos rfl, if_neg (by decide)]
          have mM25_14 : (M25.1 175 14).toInt = (M23.1 175 14).toInt := by rw [eM25, li_ui_at, if_pos rfl, if_neg (by decide)]
          have mM25_15 : (M25.1 175 15).toInt = (M23.1 175 15).toInt := by rw [eM25, li_ui_at, if_pos rfl, if_neg (by decide)]
          refine li_iconst 0 dX12_talk_120 (by decide) ?_
          refine li_istore_n [(3, .int 0), (2, .int x11), (1, .int x12), (0, .ref (Z.2.2 175))] dX12_talk_121 (by decide) rfl ?_
          have L122 : ∀ (n : Nat) (x26 : Int32) (M27 : li_M), (42 - (x26 : Int32).toInt).toNat < n → li_fs (fun i k => i = 176 ∨ i = 181 ∨ i = 185 ∨ i = 186 ∨ i = 187 ∨ i = 188 ∨ i = 1000 ∨ (i = 175 ∧ k = 10) ∨ (i = 175 ∧ k = 12) ∨ (i = 175 ∧ k = 13) ∨ (i = 175 ∧ k = 14) ∨ (i = 175 ∧ k = 15) ∨ (i = 175 ∧ k = 20) ∨ (i = 175 ∧ k = 23) ∨ (i = 175 ∧ k = 25) ∨ (i = 175 ∧ k = 26) ∨ (i = 175 ∧ k = 28) ∨ (i = 175 ∧ k = 7) ∨ (i = 175 ∧ k = 9)) M0 M27 → li_J M27 → 0 ≤ (x26 : Int32).toInt ∧ (M27.1 175 7).toInt = 0 → li_T l Z YX12_talk d 122 [(3, .int x26), (2, .int x11), (1, .int x12), (0, .ref (Z.2.2 175))] [] M27 (fun r M' => (∃ x : Int32, r = some (.int x)) ∧ li_fs (fun i k => i = 176 ∨ i = 181 ∨ i = 185 ∨ i = 186 ∨ i = 187 ∨ i = 188 ∨ i = 1000 ∨ (i = 175 ∧ k = 10) ∨ (i = 175 ∧ k = 12) ∨ (i = 175 ∧ k = 13) ∨ (i = 175 ∧ k = 14) ∨ (i = 175 ∧ k = 15) ∨ (i = 175 ∧ k = 20) ∨ (i = 175 ∧ k = 23) ∨ (i = 175 ∧ k = 25) ∨ (i = 175 ∧ k = 26) ∨ (i = 175 ∧ k = 28) ∨ (i = 175 ∧ k = 7) ∨ (i = 175 ∧ k = 9)) M0 M' ∧ li_J M' ∧ (M'.1 175 7).toInt = 0) := by
            intro n
            induction n with
            | zero => intro x26 M27 hn; exact absurd hn (Nat.not_lt_zero _)
            | succ n ih122 =>
              intro x26 M27 hn hf hJ hi
              have gx26 := tl_rg x26
              have rM27_7 := J_sl7 (M := M27) hJ
              have rM27_9 := J_sl9 (M := M27) hJ
              have rM27_12 := J_sl12 (M := M27) hJ
              have rM27_13 := J_sl13 (M := M27) hJ
              have rM27_14 := J_sl14 (M := M27) hJ
              have rM27_15 := J_sl15 (M := M27) hJ
              refine li_iload_n 0 dX12_talk_122 rfl ?_
              refine li_iload_n 2 dX12_talk_123 rfl ?_
              refine li_icmp_ge 178 dX12_talk_124 (by decide) (fun c28 => ?_) (fun c28 => ?_)
              · have tc28 : x12.toInt ≤ x26.toInt := tl_le c28
                refine li_iload_n 0 dX12_talk_178 rfl ?_
                have J190 : ∀  (M30 : li_M), li_fs (fun i k => i = 176 ∨ i = 181 ∨ i = 185 ∨ i = 186 ∨ i = 187 ∨ i = 188 ∨ i = 1000 ∨ (i = 175 ∧ k = 10) ∨ (i = 175 ∧ k = 12) ∨ (i = 175 ∧ k = 13) ∨ (i = 175 ∧ k = 14) ∨ (i = 175 ∧ k = 15) ∨ (i = 175 ∧ k = 20) ∨ (i = 175 ∧ k = 23) ∨ (i = 175 ∧ k = 25) ∨ (i = 175 ∧ k = 26) ∨ (i = 175 ∧ k = 28) ∨ (i = 175 ∧ k = 7) ∨ (i = 175 ∧ k = 9)) M0 M30 → li_J M30 → (M30.1 175 7).toInt = 0 → li_T l Z YX12_talk d 190 [(3, .int x26), (2, .int x11), (1, .int x12), (0, .ref (Z.2.2 175))] [] M30 (fun r M' => (∃ x : Int32, r = some (.int x)) ∧ li_fs (fun i k => i = 176 ∨ i = 181 ∨ i = 185 ∨ i = 186 ∨ i = 187 ∨ i = 188 ∨ i = 1000 ∨ (i = 175 ∧ k = 10) ∨ (i = 175 ∧ k = 12) ∨ (i = 175 ∧ k = 13) ∨ (i = 175 ∧ k = 14) ∨ (i = 175 ∧ k = 15) ∨ (i = 175 ∧ k = 20) ∨ (i = 175 ∧ k = 23) ∨ (i = 175 ∧ k = 25) ∨ (i = 175 ∧ k = 26) ∨ (i = 175 ∧ k = 28) ∨ (i = 175 ∧ k = 7) ∨ (i = 175 ∧ k = 9)) M0 M' ∧ li_J M' ∧ (M'.1 175 7).toInt = 0) := by
                  intro  M30 hf hJ hi
                  have rM30_7 := J_sl7 (M := M30) hJ
                  have rM30_9 := J_sl9 (M := M30) hJ
                  have rM30_12 := J_sl12 (M := M30) hJ
                  have rM30_13 := J_sl13 (M := M30) hJ
                  have rM30_14 := J_sl14 (M := M30) hJ
                  have rM30_15 := J_sl15 (M := M30) hJ
                  refine li_aload_n 3 dX12_talk_190 rfl ?_
                  refine li_iconst 0 dX12_talk_191 (by decide) ?_
                  refine li_puti (k := 9) (N := 52) (T := TX12) (C0 := RX12) dX12_talk_192 (by decide) sh_175 rfl rfl (by decide) li_in12 tyX12_ok nmX12 rfl rfl rfl rfl w_1413 ?_
                  refine li_nm (fun M31 eM31 => ?_)
                  have hf := li_fs_ui hf (Or.inr (Or.inr (Or.inr (Or.inr (Or.inr (Or.inr (Or.inr (Or.inr (Or.inr (Or.inr (Or.inr (Or.inr (Or.inr (Or.inr (Or.inr (Or.inr (Or.inr (Or.inr (⟨rfl, rfl⟩))))))))))))))))))) eM31
                  have z0 : (0 : Int32).toInt = 0 := rfl
                  have hJ := J_pt9 hJ (show 0 ≤ (0 : Int32).toInt ∧ (0 : Int32).toInt ≤ 20 by omega) eM31
                  have rM31_7 := J_sl7 (M := M31) hJ
                  have rM31_9 := J_sl9 (M := M31) hJ
                  have rM31_12 := J_sl12 (M := M31) hJ
                  have rM31_13 := J_sl13 (M := M31) hJ
                  have rM31_14 := J_sl14 (M := M31) hJ
                  have rM31_15 := J_sl15 (M := M31) hJ
                  have mM31_7 : (M31.1 175 7).toInt = (M30.1 175 7).toInt := by rw [eM31, li_ui_at, if_pos rfl, if_neg (by decide)]
                  have mM31_9 : (M31.1 175 9).toInt = 0 := by rw [eM31, li_ui_at, if_pos rfl, if_pos rfl]; rfl
                  have mM31_12 : (M31.1 175 12).toInt = (M30.1 175 12).toInt := by rw [eM31, li_ui_at, if_pos rfl, if_neg (by decide)]
                  have mM31_13 : (M31.1 175 13).toInt = (M30.1 175 13).toInt := by rw [eM31, li_ui_at, if_pos rfl, if_neg (by decide)]
                  have mM31_14 : (M31.1 175 14).toInt = (M30.1 175 14).toInt := by rw [eM31, li_ui_at, if_pos rfl, if_neg (by decide)]
                  have mM31_15 : (M31.1 175 15).toInt = (M30.1 175 15).toInt := by rw [eM31, li_ui_at, if_pos rfl, if_neg (by decide)]
                  refine li_aload_n 3 dX12_talk_195 rfl ?_
                  refine li_iload_n 0 dX12_talk_196 rfl ?_
                  refine li_iload_n 2 dX12_talk_197 rfl ?_
                  have J206 : ∀ (x33 : Int32) (M34 : li_M), li_fs (fun i k => i = 176 ∨ i = 181 ∨ i = 185 ∨ i = 186 ∨ i = 187 ∨ i = 188 ∨ i = 1000 ∨ (i = 175 ∧ k = 10) ∨ (i = 175 ∧ k = 12) ∨ (i = 175 ∧ k = 13) ∨ (i = 175 ∧ k = 14) ∨ (i = 175 ∧ k = 15) ∨ (i = 175 ∧ k = 20) ∨ (i = 175 ∧ k = 23) ∨ (i = 175 ∧ k = 25) ∨ (i = 175 ∧ k = 26) ∨ (i = 175 ∧ k = 28) ∨ (i = 175 ∧ k = 7) ∨ (i = 175 ∧ k = 9)) M0 M34 → li_J M34 → (M34.1 175 9).toInt = 0 ∧ (M34.1 175 7).toInt = 0 → li_T l Z YX12_talk d 206 [(3, .int x26), (2, .int x11), (1, .int x12), (0, .ref (Z.2.2 175))] [.int x33, .ref (Z.2.2 175)] M34 (fun r M' => (∃ x : Int32, r = some (.int x)) ∧ li_fs (fun i k => i = 176 ∨ i = 181 ∨ i = 185 ∨ i = 186 ∨ i = 187 ∨ i = 188 ∨ i = 1000 ∨ (i = 175 ∧ k = 10) ∨ (i = 175 ∧ k = 12) ∨ (i = 175 ∧ k = 13) ∨ (i = 175 ∧ k = 14) ∨ (i = 175 ∧ k = 15) ∨ (i = 175 ∧ k = 20) ∨ (i = 175 ∧ k = 23) ∨ (i = 175 ∧ k = 25) ∨ (i = 175 ∧ k = 26) ∨ (i = 175 ∧ k = 28) ∨ (i = 175 ∧ k = 7) ∨ (i = 175 ∧ k = 9)) M0 M' ∧ li_J M' ∧ (M'.1 175 7).toInt = 0) := by
                    intro x33 M34 hf hJ hi
                    have gx33 := tl_rg x33
                    have rM34_7 := J_sl7 (M := M34) hJ
                    have rM34_9 := J_sl9 (M := M34) hJ
                    have rM34_12 := J_sl12 (M := M34) hJ
                    have rM34_13 := J_sl13 (M := M34) hJ
                    have rM34_14 := J_sl14 (M := M34) hJ
                    have rM34_15 := J_sl15 (M := M34) hJ
                    refine li_callV (n := 1) (As := [.int x33]) dX12_talk_206 (k_X12_tell (d - 1) (by omega) x33 M34 hJ (by omega)) (by omega) (Nat.le_of_ble_eq_true rfl) w_1783 w_1785 w_77 w_112 w_1786 (by decide +kernel) rfl (by decide) sh_175 rfl rfl (Nat.le_of_ble_eq_true rfl) (fun r M36 h37 => ?_)
                    obtain ⟨rfl, h37, jM36, nM36⟩ := h37
                    have hf := li_fs_trans hf h37 (fun i k => fun h => Or.elim h (fun h => Or.inr (Or.inl h)) (fun h => Or.inr (Or.inr (Or.inr (Or.inr (Or.inr (Or.inr (Or.inr (Or.inr (Or.inr (Or.inr (Or.inr (Or.inr (Or.inr (Or.inr (Or.inr (Or.inr (Or.inr (Or.inr h)))))))))))))))))))
                    have hJ := jM36
                    have rM36_7 := J_sl7 (M := M36) hJ
                    have rM36_9 := J_sl9 (M := M36) hJ
                    have rM36_12 := J_sl12 (M := M36) hJ
                    have rM36_13 := J_sl13 (M := M36) hJ
                    have rM36_14 := J_sl14 (M := M36) hJ
                    have rM36_15 := J_sl15 (M := M36) hJ
                    have mM36_7 : (M36.1 175 7).toInt = (M34.1 175 7).toInt := tl_slot (h37.1 175 7 (show ¬ (175 = 181 ∨ (175 = 175 ∧ 7 = 9)) by decide))
                    have mM36_12 : (M36.1 175 12).toInt = (M34.1 175 12).toInt := tl_slot (h37.1 175 12 (show ¬ (175 = 181 ∨ (175 = 175 ∧ 12 = 9)) by decide))
                    have mM36_13 : (M36.1 175 13).toInt = (M34.1 175 13).toInt := tl_slot (h37.1 175 13 (show ¬ (175 = 181 ∨ (175 = 175 ∧ 13 = 9)) by decide))
                    have mM36_14 : (M36.1 175 14).toInt = (M34.1 175 14).toInt := tl_slot (h37.1 175 14 (show ¬ (175 = 181 ∨ (175 = 175 ∧ 14 = 9)) by decide))
                    have mM36_15 : (M36.1 175 15).toInt = (M34.1 175 15).toInt := tl_slot (h37.1 175 15 (show ¬ (175 = 181 ∨ (175 = 175 ∧ 15 = 9)) by decide))
                    refine li_aload_n 3 dX12_talk_209 rfl ?_
                    refine li_aload_n 3 dX12_talk_210 rfl ?_
                    refine li_geti (k := 28) (N := 52) (T := TX12) (C0 := RX12) dX12_talk_211 (by decide) sh_175 rfl rfl (by decide) li_in12 w_1432 ?_
                    refine li_top (fun x38 ex38 => ?_)
                    have gx38 := tl_rg x38
                    have mx38 : x38.toInt = (M36.1 175 28).toInt := tl_slot ex38
                    refine li_callV (n := 1) (As := [.int x38]) dX12_talk_214 (k_X12_tell (d - 1) (by omega) x38 M36 hJ (by omega)) (by omega) (Nat.le_of_ble_eq_true rfl) w_1783 w_1785 w_77 w_112 w_1786 (by decide +kernel) rfl (by decide) sh_175 rfl rfl (Nat.le_of_ble_eq_true rfl) (fun r M40 h41 => ?_)
                    obtain ⟨rfl, h41, jM40, nM40⟩ := h41
                    have hf := li_fs_trans hf h41 (fun i k => fun h => Or.elim h (fun h => Or.inr (Or.inl h)) (fun h => Or.inr (Or.inr (Or.inr (Or.inr (Or.inr (Or.inr (Or.inr (Or.inr (Or.inr (Or.inr (Or.inr (Or.inr (Or.inr (Or.inr (Or.inr (Or.inr (Or.inr (Or.inr h)))))))))))))))))))
                    have hJ := jM40
                    have rM40_7 := J_sl7 (M := M40) hJ
                    have rM40_9 := J_sl9 (M := M40) hJ
                    have rM40_12 := J_sl12 (M := M40) hJ
                    have rM40_13 := J_sl13 (M := M40) hJ
                    have rM40_14 := J_sl14 (M := M40) hJ
                    have rM40_15 := J_sl15 (M := M40) hJ
                    have mM40_7 : (M40.1 175 7).toInt = (M36.1 175 7).toInt := tl_slot (h41.1 175 7 (show ¬ (175 = 181 ∨ (175 = 175 ∧ 7 = 9)) by decide))
                    have mM40_12 : (M40.1 175 12).toInt = (M36.1 175 12).toInt := tl_slot (h41.1 175 12 (show ¬ (175 = 181 ∨ (175 = 175 ∧ 12 = 9)) by decide))
                    have mM40_13 : (M40.1 175 13).toInt = (M36.1 175 13).toInt := tl_slot (h41.1 175 13 (show ¬ (175 = 181 ∨ (175 = 175 ∧ 13 = 9)) by decide))
                    have mM40_14 : (M40.1 175 14).toInt = (M36.1 175 14).toInt := tl_slot (h41.1 175 14 (show ¬ (175 = 181 ∨ (175 = 175 ∧ 14 = 9)) by decide))
                    have mM40_15 : (M40.1 175 15).toInt = (M36.1 175 15).toInt := tl_slot (h41.1 175 15 (show ¬ (175 = 181 ∨ (175 = 175 ∧ 15 = 9)) by decide))
                    refine li_iload_n 0 dX12_talk_217 rfl ?_
                    exact li_iret dX12_talk_218 rfl rfl ⟨⟨_, rfl⟩, hf, hJ, (by omega)⟩
                  refine li_icmp_ge 205 dX12_talk_198 (by decide) (fun c32 => ?_) (fun c32 => ?_)
                  · have tc32 : x12.toInt ≤ x26.toInt := tl_le c32
                    refine li_iconst 0 dX12_talk_205 (by decide) ?_
                    refine li_pick [0, 1, 2, 3] [(3, .int x26), (2, .int x11), (1, .int x12), (0, .ref (Z.2.2 175))] rfl ?_
                    have z0 : (0 : Int32).toInt = 0 := rfl
                    exact J206 0 M31 hf hJ (by omega)
                  · have tc32 : x26.toInt < x12.toInt := tl_nle c32
                    refine li_iconst 1 dX12_talk_201 (by decide) ?_
                    refine li_goto 206 dX12_talk_202 (by decide) ?_
                    refine li_pick [0, 1, 2, 3] [(3, .int x26), (2, .int x11), (1, .int x12), (0, .ref (Z.2.2 175))] rfl ?_
                    have z1 : (1 : Int32).toInt = 1 := rfl
                    exact J206 1 M31 hf hJ (by omega)
                refine li_if_le 190 dX12_talk_179 (by decide) (fun c29 => ?_) (fun c29 => ?_)
                · have tc29 : x26.toInt ≤ 0 := tl_le c29
                  refine li_pick [0, 1, 2, 3] [(3, .int x26), (2, .int x11), (1, .int x12), (0, .ref (Z.2.2 175))] rfl ?_
                  exact J190  M27 hf hJ (by omega)
                · have tc29 : 0 < x26.toInt := tl_nle c29
                  refine li_aload_n 3 dX12_talk_182 rfl ?_
                  refine li_aload_n 3 dX12_talk_183 rfl ?_
                  refine li_getr (k := 24) (N := 52) (T := TX12) (C0 := RX12) dX12_talk_184 (by decide) sh_175 rfl rfl (by decide) (by decide) li_in12 w_1428 ?_
                  refine li_callV (n := 1) (As := [.ref (Z.2.2 187)]) dX12_talk_187 (k_X12_remember_a (d - 1) (by omega)  M27 hJ ) (by omega) (Nat.le_of_ble_eq_true rfl) w_1741 w_1743 w_71 w_112 w_1744 (by decide +kernel) rfl (by decide) sh_175 rfl rfl (Nat.le_of_ble_eq_true rfl) (fun r M43 h44 => ?_)
                  obtain ⟨rfl, h44, jM43⟩ := h44
                  have hf := li_fs_trans hf h44 (fun i k => fun h => Or.elim h (fun h => Or.inr (Or.inr (Or.inr (Or.inl h)))) (fun h => Or.inr (Or.inr (Or.inr (Or.inr (Or.inr (Or.inr (Or.inr (Or.inr (Or.inr (Or.inr (Or.inr (Or.inr (Or.inr (Or.inl h)))))))))))))))
                  have hJ := jM43
                  have rM43_7 := J_sl7 (M := M43) hJ
                  have rM43_9 := J_sl9 (M := M43) hJ
                  have rM43_12 := J_sl12 (M := M43) hJ
                  have rM43_13 := J_sl13 (M := M43) hJ
                  have rM43_14 := J_sl14 (M := M43) hJ
                  have rM43_15 := J_sl15 (M := M43) hJ
                  have mM43_7 : (M43.1 175 7).toInt = (M27.1 175 7).toInt := tl_slot (h44.1 175 7 (show ¬ (175 = 186 ∨ (175 = 175 ∧ 7 = 23)) by decide))
                  have mM43_9 : (M43.1 175 9).toInt = (M27.1 175 9).toInt := tl_slot (h44.1 175 9 (show ¬ (175 = 186 ∨ (175 = 175 ∧ 9 = 23)) by decide))
                  have mM43_12 : (M43.1 175 12).toInt = (M27.1 175 12).toInt := tl_slot (h44.1 175 12 (show ¬ (175 = 186 ∨ (175 = 175 ∧ 12 = 23)) by decide))
                  have mM43_13 : (M43.1 175 13).toInt = (M27.1 175 13).toInt := tl_slot (h44.1 175 13 (show ¬ (175 = 186 ∨ (175 = 175 ∧ 13 = 23)) by decide))
                  have mM43_14 : (M43.1 175 14).toInt = (M27.1 175 14).toInt := tl_slot (h44.1 175 14 (show ¬ (175 = 186 ∨ (175 = 175 ∧ 14 = 23)) by decide))
                  have mM43_15 : (M43.1 175 15).toInt = (M27.1 175 15).toInt := tl_slot (h44.1 175 15 (show ¬ (175 = 186 ∨ (175 = 175 ∧ 15 = 23)) by decide))
                  refine li_pick [0, 1, 2, 3] [(3, .int x26), (2, .int x11), (1, .int x12), (0, .ref (Z.2.2 175))] rfl ?_
                  exact J190  M43 hf hJ (by omega)
              · have tc28 : x26.toInt < x12.toInt := tl_nle c28
                refine li_aload_n 3 dX12_talk_127 rfl ?_
                refine li_aload_n 3 dX12_talk_128 rfl ?_
                refine li_getr (k := 27) (N := 52) (T := TX12) (C0 := RX12) dX12_talk_129 (by decide) sh_175 rfl rfl (by decide) (by decide) li_in12 w_1431 ?_
                refine li_iconst 4 dX12_talk_132 (by decide) ?_
                refine li_iload_n 0 dX12_talk_133 rfl ?_
                refine li_imul dX12_talk_134 ?_
                refine li_top (fun x45 ex45 => ?_)
                have z4 : (4 : Int32).toInt = 4 := rfl
                try (have tx45 : x45.toInt = 4 * (x26 : Int32).toInt := tl_mul ex45 (show -2147483648 ≤ 4 * (x26 : Int32).toInt ∧ 4 * (x26 : Int32).toInt ≤ 2147483647 by omega))
                refine li_iald dX12_talk_135 (by decide) sh_188 (tl_in (by omega)) ?_
                refine li_top (fun x46 ex46 => ?_)
                have gx46 := tl_rg x46
                refine li_aload_n 3 dX12_talk_136 rfl ?_
                refine li_getr (k := 27) (N := 52) (T := TX12) (C0 := RX12) dX12_talk_137 (by decide) sh_175 rfl rfl (by decide) (by decide) li_in12 w_1431 ?_
                refine li_iconst 4 dX12_talk_140 (by decide) ?_
                refine li_iload_n 0 dX12_talk_141 rfl ?_
                refine li_imul dX12_talk_142 ?_
                refine li_top (fun x47 ex47 => ?_)
                have z4 : (4 : Int32).toInt = 4 := rfl
                try (have tx47 : x47.toInt = 4 * (x26 : Int32).toInt := tl_mul ex47 (show -2147483648 ≤ 4 * (x26 : Int32).toInt ∧ 4 * (x26 : Int32).toInt ≤ 2147483647 by omega))
                refine li_iconst 1 dX12_talk_143 (by decide) ?_
                refine li_iadd dX12_talk_144 ?_
                refine li_top (fun x48 ex48 => ?_)
                have z1 : (1 : Int32).toInt = 1 := rfl
                try (have tx48 : x48.toInt = (x47 : Int32).toInt + (1 : Int32).toInt := tl_add ex48 (by omega))
                refine li_iald dX12_talk_145 (by decide) sh_188 (tl_in (by omega)) ?_
                refine li_top (fun x49 ex49 => ?_)
                have gx49 := tl_rg x49
                refine li_aload_n 3 dX12_talk_146 rfl ?_
                refine li_getr (k := 27) (N := 52) (T := TX12) (C0 := RX12) dX12_talk_147 (by decide) sh_175 rfl rfl (by decide) (by decide) li_in12 w_1431 ?_
                refine li_iconst 4 dX12_talk_150 (by decide) ?_
                refine li_iload_n 0 dX12_talk_151 rfl ?_
                refine li_imul dX12_talk_152 ?_
                refine li_top (fun x50 ex50 => ?_)
                have z4 : (4 : Int32).toInt = 4 := rfl
                try (have tx50 : x50.toInt = 4 * (x26 : Int32).toInt := tl_mul ex50 (show -2147483648 ≤ 4 * (x26 : Int32).toInt ∧ 4 * (x26 : Int32).toInt ≤ 2147483647 by omega))
                refine li_iconst 2 dX12_talk_153 (by decide) ?_
                refine li_iadd dX12_talk_154 ?_
                refine li_top (fun x51 ex51 => ?_)
                have z2 : (2 : Int32).toInt = 2 := rfl
                try (have tx51 : x51.toInt = (x50 : Int32).toInt + (2 : Int32).toInt := tl_add ex51 (by omega))
                refine li_iald dX12_talk_155 (by decide) sh_188 (tl_in (by omega)) ?_
                refine li_top (fun x52 ex52 => ?_)
                have gx52 := tl_rg x52
                refine li_aload_n 3 dX12_talk_156 rfl ?_
                refine li_getr (k := 27) (N := 52) (T := TX12) (C0 := RX12) dX12_talk_157 (by decide) sh_175 rfl rfl (by decide) (by decide) li_in12 w_1431 ?_
                refine li_iconst 4 dX12_talk_160 (by decide) ?_
                refine li_iload_n 0 dX12_talk_161 rfl ?_
                refine li_imul dX12_talk_162 ?_
                refine li_top (fun x53 ex53 => ?_)
                have z4 : (4 : Int32).toInt = 4 := rfl
                try (have tx53 : x53.toInt = 4 * (x26 : Int32).toInt := tl_mul ex53 (show -2147483648 ≤ 4 * (x26 : Int32).toInt ∧ 4 * (x26 : Int32).toInt ≤ 2147483647 by omega))
                refine li_iconst 3 dX12_talk_163 (by decide) ?_
                refine li_iadd dX12_talk_164 ?_
                refine li_top (fun x54 ex54 => ?_)
                have z3 : (3 : Int32).toInt = 3 := rfl
                try (have tx54 : x54.toInt = (x53 : Int32).toInt + (3 : Int32).toInt := tl_add ex54 (by omega))
                refine li_iald dX12_talk_165 (by decide) sh_188 (tl_in (by omega)) ?_
                refine li_top (fun x55 ex55 => ?_)
                have gx55 := tl_rg x55
                refine li_callV (n := 4) (As := [.int x46, .int x49, .int x52, .int x55]) dX12_talk_166 (k_X12_act (d - 1) (by omega) x46 x49 x52 x55 M27 hJ ) (by omega) (Nat.le_of_ble_eq_true rfl) w_1795 w_1797 w_79 w_112 w_1798 (by decide +kernel) rfl (by decide) sh_175 rfl rfl (Nat.le_of_ble_eq_true rfl) (fun r M57 h58 => ?_)
                obtain ⟨qx56, h58, jM57⟩ := h58
                have hf := li_fs_trans hf h58 (fun i k => fun h => Or.elim h (fun h => Or.inl h) (fun h => Or.elim h (fun h => Or.inr (Or.inr (Or.inl h))) (fun h => Or.elim h (fun h => Or.inr (Or.inr (Or.inr (Or.inr (Or.inr (Or.inr (Or.inl h))))))) (fun h => Or.elim h (fun h => Or.inr (Or.inr (Or.inr (Or.inr (Or.inr (Or.inr (Or.inr (Or.inr (Or.inl h))))))))) (fun h => Or.elim h (fun h => Or.inr (Or.inr (Or.inr (Or.inr (Or.inr (Or.inr (Or.inr (Or.inr (Or.inr (Or.inl h)))))))))) (fun h => Or.elim h (fun h => Or.inr (Or.inr (Or.inr (Or.inr (Or.inr (Or.inr (Or.inr (Or.inr (Or.inr (Or.inr (Or.inl h))))))))))) (fun h => Or.elim h (fun h => Or.inr (Or.inr (Or.inr (Or.inr (Or.inr (Or.inr (Or.inr (Or.inr (Or.inr (Or.inr (Or.inr (Or.inl h)))))))))))) (fun h => Or.elim h (fun h => Or.inr (Or.inr (Or.inr (Or.inr (Or.inr (Or.inr (Or.inr (Or.inr (Or.inr (Or.inr (Or.inr (Or.inr (Or.inl h))))))))))))) (fun h => Or.elim h (fun h => Or.inr (Or.inr (Or.inr (Or.inr (Or.inr (Or.inr (Or.inr (Or.inr (Or.inr (Or.inr (Or.inr (Or.inr (Or.inr (Or.inr (Or.inl h))))))))))))))) (fun h => Or.elim h (fun h => Or.inr (Or.inr (Or.inr (Or.inr (Or.inr (Or.inr (Or.inr (Or.inr (Or.inr (Or.inr (Or.inr (Or.inr (Or.inr (Or.inr (Or.inr (Or.inl h)))))))))))))))) (fun h => Or.inr (Or.inr (Or.inr (Or.inr (Or.inr (Or.inr (Or.inr (Or.inr (Or.inr (Or.inr (Or.inr (Or.inr (Or.inr (Or.inr (Or.inr (Or.inr (Or.inl h)))))))))))))))))))))))))))
                have hJ := jM57
                have rM57_7 := J_sl7 (M := M57) hJ
                have rM57_9 := J_sl9 (M := M57) hJ
                have rM57_12 := J_sl12 (M := M57) hJ
                have rM57_13 := J_sl13 (M := M57) hJ
                have rM57_14 := J_sl14 (M := M57) hJ
                have rM57_15 := J_sl15 (M := M57) hJ
                have mM57_7 : (M57.1 175 7).toInt = (M27.1 175 7).toInt := tl_slot (h58.1 175 7 (show ¬ (175 = 176 ∨ 175 = 185 ∨ 175 = 1000 ∨ (175 = 175 ∧ 7 = 12) ∨ (175 = 175 ∧ 7 = 13) ∨ (175 = 175 ∧ 7 = 14) ∨ (175 = 175 ∧ 7 = 15) ∨ (175 = 175 ∧ 7 = 20) ∨ (175 = 175 ∧ 7 = 25) ∨ (175 = 175 ∧ 7 = 26) ∨ (175 = 175 ∧ 7 = 28)) by decide))
                have mM57_9 : (M57.1 175 9).toInt = (M27.1 175 9).toInt := tl_slot (h58.1 175 9 (show ¬ (175 = 176 ∨ 175 = 185 ∨ 175 = 1000 ∨ (175 = 175 ∧ 9 = 12) ∨ (175 = 175 ∧ 9 = 13) ∨ (175 = 175 ∧ 9 = 14) ∨ (175 = 175 ∧ 9 = 15) ∨ (175 = 175 ∧ 9 = 20) ∨ (175 = 175 ∧ 9 = 25) ∨ (175 = 175 ∧ 9 = 26) ∨ (175 = 175 ∧ 9 = 28)) by decide))
                rcases qx56 with ⟨rfl, qx56⟩ | ⟨rfl, qx56⟩
                · skip
                  refine li_if_eq 178 dX12_talk_169 (by decide) (fun c => absurd c (by decide)) (fun c => ?_)
                  obtain ⟨x60, ex60⟩ : ∃ y : Int32, y = x26 + 1 := ⟨_, rfl⟩
                  have z1 : (1 : Int32).toInt = 1 := rfl
                  try (have tx60 : x60.toInt = (x26 : Int32).toInt + (1 : Int32).toInt := tl_add ex60 (by omega))
                  refine li_iinc 0 [(3, .int x60), (2, .int x11), (1, .int x12), (0, .ref (Z.2.2 175))] x60 dX12_talk_172 rfl (by rw [ex60]; rfl) (by decide) rfl ?_
                  refine li_goto 122 dX12_talk_175 (by decide) ?_
                  refine li_pick [0, 1, 2, 3] [(3, .int x60), (2, .int x11), (1, .int x12), (0, .ref (Z.2.2 175))] rfl ?_
                  exact ih122 x60 M57 (by omega) hf hJ (by omega)
                · skip
                  refine li_if_eq 178 dX12_talk_169 (by decide) (fun c => ?_) (fun c => absurd rfl c)
                  refine li_iload_n 0 dX12_talk_178 rfl ?_
                  have J190 : ∀  (M63 : li_M), li_fs (fun i k => i = 176 ∨ i = 181 ∨ i = 185 ∨ i = 186 ∨ i = 187 ∨ i = 188 ∨ i = 1000 ∨ (i = 175 ∧ k = 10) ∨ (i = 175 ∧ k = 12) ∨ (i = 175 ∧ k = 13) ∨ (i = 175 ∧ k = 14) ∨ (i = 175 ∧ k = 15) ∨ (i = 175 ∧ k = 20) ∨ (i = 175 ∧ k = 23) ∨ (i = 175 ∧ k = 25) ∨ (i = 175 ∧ k = 26) ∨ (i = 175 ∧ k = 28) ∨ (i = 175 ∧ k = 7) ∨ (i = 175 ∧ k = 9)) M0 M63 → li_J M63 → (M63.1 175 7).toInt = 0 → li_T l Z YX12_talk d 190 [(3, .int x26), (2, .int x11), (1, .int x12), (0, .ref (Z.2.2 175))] [] M63 (fun r M' => (∃ x : Int32, r = some (.int x)) ∧ li_fs (fun i k => i = 176 ∨ i = 181 ∨ i = 185 ∨ i = 186 ∨ i = 187 ∨ i = 188 ∨ i = 1000 ∨ (i = 175 ∧ k = 10) ∨ (i = 175 ∧ k = 12) ∨ (i = 175 ∧ k = 13) ∨ (i = 175 ∧ k = 14) ∨ (i = 175 ∧ k = 15) ∨ (i = 175 ∧ k = 20) ∨ (i = 175 ∧ k = 23) ∨ (i = 175 ∧ k = 25) ∨ (i = 175 ∧ k = 26) ∨ (i = 175 ∧ k = 28) ∨ (i = 175 ∧ k = 7) ∨ (i = 175 ∧ k = 9)) M0 M' ∧ li_J M' ∧ (M'.1 175 7).toInt = 0) := by
                    intro  M63 hf hJ hi
                    have rM63_7 := J_sl7 (M := M63) hJ
                    have rM63_9 := J_sl9 (M := M63) hJ
                    have rM63_12 := J_sl12 (M := M63) hJ
                    have rM63_13 := J_sl13 (M := M63) hJ
                    have rM63_14 := J_sl14 (M := M63) hJ
                    have rM63_15 := J_sl15 (M := M63) hJ
                    refine li_aload_n 3 dX12_talk_190 rfl ?_
                    refine li_iconst 0 dX12_talk_191 (by decide) ?_
                    refine li_puti (k := 9) (N := 52) (T := TX12) (C0 := RX12) dX12_talk_192 (by decide) sh_175 rfl rfl (by decide) li_in12 tyX12_ok nmX12 rfl rfl rfl rfl w_1413 ?_
                    refine li_nm (fun M64 eM64 => ?_)
                    have hf := li_fs_ui hf (Or.inr (Or.inr (Or.inr (Or.inr (Or.inr (Or.inr (Or.inr (Or.inr (Or.inr (Or.inr (Or.inr (Or.inr (Or.inr (Or.inr (Or.inr (Or.inr (Or.inr (Or.inr (⟨rfl, rfl⟩))))))))))))))))))) eM64
                    have z0 : (0 : Int32).toInt = 0 := rfl
                    have hJ := J_pt9 hJ (show 0 ≤ (0 : Int32).toInt ∧ (0 : Int32).toInt ≤ 20 by omega) eM64
                    have rM64_7 := J_sl7 (M := M64) hJ
                    have rM64_9 := J_sl9 (M := M64) hJ
                    have rM64_12 := J_sl12 (M := M64) hJ
                    have rM64_13 := J_sl13 (M := M64) hJ
                    have rM64_14 := J_sl14 (M := M64) hJ
                    have rM64_15 := J_sl15 (M := M64) hJ
                    have mM64_7 : (M64.1 175 7).toInt = (M63.1 175 7).toInt := by rw [eM64, li_ui_at, if_pos rfl, if_neg (by decide)]
                    have mM64_9 : (M64.1 175 9).toInt = 0 := by rw [eM64, li_ui_at, if_pos rfl, if_pos rfl]; rfl
                    have mM64_12 : (M64.1 175 12).toInt = (M63.1 175 12).toInt := by rw [eM64, li_ui_at, if_pos rfl, if_neg (by decide)]
                    have mM64_13 : (M64.1 175 13).toInt = (M63.1 175 13).toInt := by rw [eM64, li_ui_at, if_pos rfl, if_neg (by decide)]
                    have mM64_14 : (M64.1 175 14).toInt = (M63.1 175 14).toInt := by rw [eM64, li_ui_at, if_pos rfl, if_neg (by decide)]
                    have mM64_15 : (M64.1 175 15).toInt = (M63.1 175 15).toInt := by rw [eM64, li_ui_at, if_pos rfl, if_neg (by decide)]
                    refine li_aload_n 3 dX12_talk_195 rfl ?_
                    refine li_iload_n 0 dX12_talk_196 rfl ?_
                    refine li_iload_n 2 dX12_talk_197 rfl ?_
                    have J206 : ∀ (x66 : Int32) (M67 : li_M), li_fs (fun i k => i = 176 ∨ i = 181 ∨ i = 185 ∨ i = 186 ∨ i = 187 ∨ i = 188 ∨ i = 1000 ∨ (i = 175 ∧ k = 10) ∨ (i = 175 ∧ k = 12) ∨ (i = 175 ∧ k = 13) ∨ (i = 175 ∧ k = 14) ∨ (i = 175 ∧ k = 15) ∨ (i = 175 ∧ k = 20) ∨ (i = 175 ∧ k = 23) ∨ (i = 175 ∧ k = 25) ∨ (i = 175 ∧ k = 26) ∨ (i = 175 ∧ k = 28) ∨ (i = 175 ∧ k = 7) ∨ (i = 175 ∧ k = 9)) M0 M67 → li_J M67 → (M67.1 175 9).toInt = 0 ∧ (M67.1 175 7).toInt = 0 → li_T l Z YX12_talk d 206 [(3, .int x26), (2, .int x11), (1, .int x12), (0, .ref (Z.2.2 175))] [.int x66, .ref (Z.2.2 175)] M67 (fun r M' => (∃ x : Int32, r = some (.int x)) ∧ li_fs (fun i k => i = 176 ∨ i = 181 ∨ i = 185 ∨ i = 186 ∨ i = 187 ∨ i = 188 ∨ i = 1000 ∨ (i = 175 ∧ k = 10) ∨ (i = 175 ∧ k = 12) ∨ (i = 175 ∧ k = 13) ∨ (i = 175 ∧ k = 14) ∨ (i = 175 ∧ k = 15) ∨ (i = 175 ∧ k = 20) ∨ (i = 175 ∧ k = 23) ∨ (i = 175 ∧ k = 25) ∨ (i = 175 ∧ k = 26) ∨ (i = 175 ∧ k = 28) ∨ (i = 175 ∧ k = 7) ∨ (i = 175 ∧ k = 9)) M0 M' ∧ li_J M' ∧ (M'.1 175 7).toInt = 0) := by
                      intro x66 M67 hf hJ hi
                      have gx66 := tl_rg x66
                      have rM67_7 := J_sl7 (M := M67) hJ
                      have rM67_9 := J_sl9 (M := M67) hJ
                      have rM67_12 := J_sl12 (M := M67) hJ
                      have rM67_13 := J_sl13 (M := M67) hJ
                      have rM67_14 := J_sl14 (M := M67) hJ
                      have rM67_15 := J_sl15 (M := M67) hJ
                      refine li_callV (n := 1) (As := [.int x66]) dX12_talk_206 (k_X12_tell (d - 1) (by omega) x66 M67 hJ (by omega)) (by omega) (Nat.le_of_ble_eq_true rfl) w_1783 w_1785 w_77 w_112 w_1786 (by decide +kernel) rfl (by decide) sh_175 rfl rfl (Nat.le_of_ble_eq_true rfl) (fun r M69 h70 => ?_)
                      obtain ⟨rfl, h70, jM69, nM69⟩ := h70
                      have hf := li_fs_trans hf h70 (fun i k => fun h => Or.elim h (fun h => Or.inr (Or.inl h)) (fun h => Or.inr (Or.inr (Or.inr (Or.inr (Or.inr (Or.inr (Or.inr (Or.inr (Or.inr (Or.inr (Or.inr (Or.inr (Or.inr (Or.inr (Or.inr (Or.inr (Or.inr (Or.inr h)))))))))))))))))))
                      have hJ := jM69
                      have rM69_7 := J_sl7 (M := M69) hJ
                      have rM69_9 := J_sl9 (M := M69) hJ
                      have rM69_12 := J_sl12 (M := M69) hJ
                      have rM69_13 := J_sl13 (M := M69) hJ
                      have rM69_14 := J_sl14 (M := M69) hJ
                      have rM69_15 := J_sl15 (M := M69) hJ
                      have mM69_7 : (M69.1 175 7).toInt = (M67.1 175 7).toInt := tl_slot (h70.1 175 7 (show ¬ (175 = 181 ∨ (175 = 175 ∧ 7 = 9)) by decide))
                      have mM69_12 : (M69.1 175 12).toInt = (M67.1 175 12).toInt := tl_slot (h70.1 175 12 (show ¬ (175 = 181 ∨ (175 = 175 ∧ 12 = 9)) by decide))
                      have mM69_13 : (M69.1 175 13).toInt = (M67.1 175 13).toInt := tl_slot (h70.1 175 13 (show ¬ (175 = 181 ∨ (175 = 175 ∧ 13 = 9)) by decide))
                      have mM69_14 : (M69.1 175 14).toInt = (M67.1 175 14).toInt := tl_slot (h70.1 175 14 (show ¬ (175 = 181 ∨ (175 = 175 ∧ 14 = 9)) by decide))
                      have mM69_15 : (M69.1 175 15).toInt = (M67.1 175 15).toInt := tl_slot (h70.1 175 15 (show ¬ (175 = 181 ∨ (175 = 175 ∧ 15 = 9)) by decide))
                      refine li_aload_n 3 dX12_talk_209 rfl ?_
                      refine li_aload_n 3 dX12_talk_210 rfl ?_
                      refine li_geti (k := 28) (N := 52) (T := TX12) (C0 := RX12) dX12_talk_211 (by decide) sh_175 rfl rfl (by decide) li_in12 w_1432 ?_
                      refine li_top (fun x71 ex71 => ?_)
                      have gx71 := tl_rg x71
                      have mx71 : x71.toInt = (M69.1 175 28).toInt := tl_slot ex71
                      refine li_callV (n := 1) (As := [.int x71]) dX12_talk_214 (k_X12_tell (d - 1) (by omega) x71 M69 hJ (by omega)) (by omega) (Nat.le_of_ble_eq_true rfl) w_1783 w_1785 w_77 w_112 w_1786 (by decide +kernel) rfl (by decide) sh_175 rfl rfl (Nat.le_of_ble_eq_true rfl) (fun r M73 h74 => ?_)
                      obtain ⟨rfl, h74, jM73, nM73⟩ := h74
                      have hf := li_fs_trans hf h74 (fun i k => fun h => Or.elim h (fun h => Or.inr (Or.inl h)) (fun h => Or.inr (Or.inr (Or.inr (Or.inr (Or.inr (Or.inr (Or.inr (Or.inr (Or.inr (Or.inr (Or.inr (Or.inr (Or.inr (Or.inr (Or.inr (Or.inr (Or.inr (Or.inr h)))))))))))))))))))
                      have hJ := jM73
                      have rM73_7 := J_sl7 (M := M73) hJ
                      have rM73_9 := J_sl9 (M := M73) hJ
                      have rM73_12 := J_sl12 (M := M73) hJ
                      have rM73_13 := J_sl13 (M := M73) hJ
                      have rM73_14 := J_sl14 (M := M73) hJ
                      have rM73_15 := J_sl15 (M := M73) hJ
                      have mM73_7 : (M73.1 175 7).toInt = (M69.1 175 7).toInt := tl_slot (h74.1 175 7 (show ¬ (175 = 181 ∨ (175 = 175 ∧ 7 = 9)) by decide))
                      have mM73_12 : (M73.1 175 12).toInt = (M69.1 175 12).toInt := tl_slot (h74.1 175 12 (show ¬ (175 = 181 ∨ (175 = 175 ∧ 12 = 9)) by decide))
                      have mM73_13 : (M73.1 175 13).toInt = (M69.1 175 13).toInt := tl_slot (h74.1 175 13 (show ¬ (175 = 181 ∨ (175 = 175 ∧ 13 = 9)) by decide))
                      have mM73_14 : (M73.1 175 14).toInt = (M69.1 175 14).toInt := tl_slot (h74.1 175 14 (show ¬ (175 = 181 ∨ (175 = 175 ∧ 14 = 9)) by decide))
                      have mM73_15 : (M73.1 175 15).toInt = (M69.1 175 15).toInt := tl_slot (h74.1 175 15 (show ¬ (175 = 181 ∨ (175 = 175 ∧ 15 = 9)) by decide))
                      refine li_iload_n 0 dX12_talk_217 rfl ?_
                      exact li_iret dX12_talk_218 rfl rfl ⟨⟨_, rfl⟩, hf, hJ, (by omega)⟩
                    refine li_icmp_ge 205 dX12_talk_198 (by decide) (fun c65 => ?_) (fun c65 => ?_)
                    · have tc65 : x12.toInt ≤ x26.toInt := tl_le c65
                      refine li_iconst 0 dX12_talk_205 (by decide) ?_
                      refine li_pick [0, 1, 2, 3] [(3, .int x26), (2, .int x11), (1, .int x12), (0, .ref (Z.2.2 175))] rfl ?_
                      have z0 : (0 : Int32).toInt = 0 := rfl
                      exact J206 0 M64 hf hJ (by omega)
                    · have tc65 : x26.toInt < x12.toInt := tl_nle c65
                      refine li_iconst 1 dX12_talk_201 (by decide) ?_
                      refine li_goto 206 dX12_talk_202 (by decide) ?_
                      refine li_pick [0, 1, 2, 3] [(3, .int x26), (2, .int x11), (1, .int x12), (0, .ref (Z.2.2 175))] rfl ?_
                      have z1 : (1 : Int32).toInt = 1 := rfl
                      exact J206 1 M64 hf hJ (by omega)
                  refine li_if_le 190 dX12_talk_179 (by decide) (fun c62 => ?_) (fun c62 => ?_)
                  · have tc62 : x26.toInt ≤ 0 := tl_le c62
                    refine li_pick [0, 1, 2, 3] [(3, .int x26), (2, .int x11), (1, .int x12), (0, .ref (Z.2.2 175))] rfl ?_
                    exact J190  M57 hf hJ (by omega)
                  · have tc62 : 0 < x26.toInt := tl_nle c62
                    refine li_aload_n 3 dX12_talk_182 rfl ?_
                    refine li_aload_n 3 dX12_talk_183 rfl ?_
                    refine li_getr (k := 24) (N := 52) (T := TX12) (C0 := RX12) dX12_talk_184 (by decide) sh_175 rfl rfl (by decide) (by decide) li_in12 w_1428 ?_
                    refine li_callV (n := 1) (As := [.ref (Z.2.2 187)]) dX12_talk_187 (k_X12_remember_a (d - 1) (by omega)  M57 hJ ) (by omega) (Nat.le_of_ble_eq_true rfl) w_1741 w_1743 w_71 w_112 w_1744 (by decide +kernel) rfl (by decide) sh_175 rfl rfl (Nat.le_of_ble_eq_true rfl) (fun r M76 h77 => ?_)
                    obtain ⟨rfl, h77, jM76⟩ := h77
                    have hf := li_fs_trans hf h77 (fun i k => fun h => Or.elim h (fun h => Or.inr (Or.inr (Or.inr (Or.inl h)))) (fun h => Or.inr (Or.inr (Or.inr (Or.inr (Or.inr (Or.inr (Or.inr (Or.inr (Or.inr (Or.inr (Or.inr (Or.inr (Or.inr (Or.inl h)))))))))))))))
                    have hJ := jM76
                    have rM76_7 := J_sl7 (M := M76) hJ
                    have rM76_9 := J_sl9 (M := M76) hJ
                    have rM76_12 := J_sl12 (M := M76) hJ
                    have rM76_13 := J_sl13 (M := M76) hJ
                    have rM76_14 := J_sl14 (M := M76) hJ
                    have rM76_15 := J_sl15 (M := M76) hJ
                    have mM76_7 : (M76.1 175 7).toInt = (M57.1 175 7).toInt := tl_slot (h77.1 175 7 (show ¬ (175 = 186 ∨ (175 = 175 ∧ 7 = 23)) by decide))
                    have mM76_9 : (M76.1 175 9).toInt = (M57.1 175 9).toInt := tl_slot (h77.1 175 9 (show ¬ (175 = 186 ∨ (175 = 175 ∧ 9 = 23)) by decide))
                    have mM76_12 : (M76.1 175 12).toInt = (M57.1 175 12).toInt := tl_slot (h77.1 175 12 (show ¬ (175 = 186 ∨ (175 = 175 ∧ 12 = 23)) by decide))
                    have mM76_13 : (M76.1 175 13).toInt = (M57.1 175 13).toInt := tl_slot (h77.1 175 13 (show ¬ (175 = 186 ∨ (175 = 175 ∧ 13 = 23)) by decide))
                    have mM76_14 : (M76.1 175 14).toInt = (M57.1 175 14).toInt := tl_slot (h77.1 175 14 (show ¬ (175 = 186 ∨ (175 = 175 ∧ 14 = 23)) by decide))
                    have mM76_15 : (M76.1 175 15).toInt = (M57.1 175 15).toInt := tl_slot (h77.1 175 15 (show ¬ (175 = 186 ∨ (175 = 175 ∧ 15 = 23)) by decide))
                    refine li_pick [0, 1, 2, 3] [(3, .int x26), (2, .int x11), (1, .int x12), (0, .ref (Z.2.2 175))] rfl ?_
                    exact J190  M76 hf hJ (by omega)
          have z0 : (0 : Int32).toInt = 0 := rfl
          exact L122 _ 0 M25 (Nat.lt_succ_self _) hf hJ (by omega)
        · skip
          refine li_if_ne 103 dX12_talk_93 (by decide) (fun c => absurd rfl c) (fun c => ?_)
          refine li_iconst (-1) dX12_talk_96 (by decide) ?_
          refine li_aload_n 2 dX12_talk_97 rfl ?_
          refine li_geti (k := 15) (N := 52) (T := TX12) (C0 := RX12) dX12_talk_98 (by decide) sh_175 rfl rfl (by decide) li_in12 w_1419 ?_
          refine li_top (fun x79 ex79 => ?_)
          have gx79 : -1 ≤ x79.toInt ∧ x79.toInt ≤ 81 := by rw [ex79]; exact J_sl15 hJ
          have mx79 : x79.toInt = (M19.1 175 15).toInt := tl_slot ex79
          refine li_isub dX12_talk_101 ?_
          refine li_top (fun x80 ex80 => ?_)
          have zm1 : ((-1) : Int32).toInt = -1 := rfl
          try (have tx80 : x80.toInt = ((-1) : Int32).toInt - (x79 : Int32).toInt := tl_sub ex80 (by omega))
          exact li_iret dX12_talk_102 rfl rfl ⟨⟨_, rfl⟩, hf, hJ, (by omega)⟩
      refine li_icmp_ge 89 dX12_talk_78 (by decide) (fun c16 => ?_) (fun c16 => ?_)
      · have tc16 : x15.toInt ≤ x14.toInt := tl_le c16
        refine li_pick [0, 1, 2] [(2, .int x11), (1, .int x12), (0, .ref (Z.2.2 175))] rfl ?_
        exact J89  M13 hf hJ (by omega)
      · have tc16 : x14.toInt < x15.toInt := tl_nle c16
        refine li_aload_n 2 dX12_talk_81 rfl ?_
        refine li_aload_n 2 dX12_talk_82 rfl ?_
        refine li_geti (k := 14) (N := 52) (T := TX12) (C0 := RX12) dX12_talk_83 (by decide) sh_175 rfl rfl (by decide) li_in12 w_1418 ?_
        refine li_top (fun x81 ex81 => ?_)
        have gx81 : 0 ≤ x81.toInt ∧ x81.toInt ≤ 81 := by rw [ex81]; exact J_sl14 hJ
        have mx81 : x81.toInt = (M13.1 175 14).toInt := tl_slot ex81
        refine li_callV (n := 1) (As := [.int x81]) dX12_talk_86 (k_X12_fault (d - 1) (by omega) x81 M13 hJ (by omega)) (by omega) (Nat.le_of_ble_eq_true rfl) w_1585 w_1587 w_44 w_112 w_1588 (by decide +kernel) rfl (by decide) sh_175 rfl rfl (Nat.le_of_ble_eq_true rfl) (fun r M83 h84 => ?_)
        obtain ⟨rfl, h84, jM83, nM83⟩ := h84
        have hf := li_fs_trans hf h84 (fun i k => fun h => Or.inr (Or.inr (Or.inr (Or.inr (Or.inr (Or.inr (Or.inr (Or.inr (Or.inr (Or.inr (Or.inr (Or.inl h))))))))))))
        have hJ := jM83
        have rM83_7 := J_sl7 (M := M83) hJ
        have rM83_9 := J_sl9 (M := M83) hJ
        have rM83_12 := J_sl12 (M := M83) hJ
        have rM83_13 := J_sl13 (M := M83) hJ
        have rM83_14 := J_sl14 (M := M83) hJ
        have rM83_15 := J_sl15 (M := M83) hJ
        have mM83_7 : (M83.1 175 7).toInt = (M13.1 175 7).toInt := tl_slot (h84.1 175 7 (show ¬ ((175 = 175 ∧ 7 = 15)) by decide))
        have mM83_9 : (M83.1 175 9).toInt = (M13.1 175 9).toInt := tl_slot (h84.1 175 9 (show ¬ ((175 = 175 ∧ 9 = 15)) by decide))
        have mM83_12 : (M83.1 175 12).toInt = (M13.1 175 12).toInt := tl_slot (h84.1 175 12 (show ¬ ((175 = 175 ∧ 12 = 15)) by decide))
        have mM83_13 : (M83.1 175 13).toInt = (M13.1 175 13).toInt := tl_slot (h84.1 175 13 (show ¬ ((175 = 175 ∧ 13 = 15)) by decide))
        have mM83_14 : (M83.1 175 14).toInt = (M13.1 175 14).toInt := tl_slot (h84.1 175 14 (show ¬ ((175 = 175 ∧ 14 = 15)) by decide))
        refine li_pick [0, 1, 2] [(2, .int x11), (1, .int x12), (0, .ref (Z.2.2 175))] rfl ?_
        exact J89  M83 hf hJ (by omega)
    have L39 : ∀ (n : Nat) (x85 : Int32) (x86 : Int32) (M87 : li_M), (42 - (x86 : Int32).toInt).toNat < n → li_fs (fun i k => i = 176 ∨ i = 181 ∨ i = 185 ∨ i = 186 ∨ i = 187 ∨ i = 188 ∨ i = 1000 ∨ (i = 175 ∧ k = 10) ∨ (i = 175 ∧ k = 12) ∨ (i = 175 ∧ k = 13) ∨ (i = 175 ∧ k = 14) ∨ (i = 175 ∧ k = 15) ∨ (i = 175 ∧ k = 20) ∨ (i = 175 ∧ k = 23) ∨ (i = 175 ∧ k = 25) ∨ (i = 175 ∧ k = 26) ∨ (i = 175 ∧ k = 28) ∨ (i = 175 ∧ k = 7) ∨ (i = 175 ∧ k = 9)) M0 M87 → li_J M87 → 0 ≤ (x86 : Int32).toInt ∧ (x86 : Int32).toInt ≤ 41 ∧ ((x85 : Int32).toInt = 0 ∨ ((M87.1 175 14).toInt ≤ (M87.1 175 12).toInt ∧ 2 * (x86 : Int32).toInt ≤ (M87.1 175 14).toInt)) ∧ (M87.1 175 7).toInt = 0 → li_T l Z YX12_talk d 39 [(2, .int x85), (1, .int x86), (0, .ref (Z.2.2 175))] [] M87 (fun r M' => (∃ x : Int32, r = some (.int x)) ∧ li_fs (fun i k => i = 176 ∨ i = 181 ∨ i = 185 ∨ i = 186 ∨ i = 187 ∨ i = 188 ∨ i = 1000 ∨ (i = 175 ∧ k = 10) ∨ (i = 175 ∧ k = 12) ∨ (i = 175 ∧ k = 13) ∨ (i = 175 ∧ k = 14) ∨ (i = 175 ∧ k = 15) ∨ (i = 175 ∧ k = 20) ∨ (i = 175 ∧ k = 23) ∨ (i = 175 ∧ k = 25) ∨ (i = 175 ∧ k = 26) ∨ (i = 175 ∧ k = 28) ∨ (i = 175 ∧ k = 7) ∨ (i = 175 ∧ k = 9)) M0 M' ∧ li_J M' ∧ (M'.1 175 7).toInt = 0) := by
      intro n
      induction n with
      | zero => intro x85 x86 M87 hn; exact absurd hn (Nat.not_lt_zero _)
      | succ n ih39 =>
        intro x85 x86 M87 hn hf hJ hi
        have gx85 := tl_rg x85
        have gx86 := tl_rg x86
        have rM87_7 := J_sl7 (M := M87) hJ
        have rM87_9 := J_sl9 (M := M87) hJ
        have rM87_12 := J_sl12 (M := M87) hJ
        have rM87_13 := J_sl13 (M := M87) hJ
        have rM87_14 := J_sl14 (M := M87) hJ
        have rM87_15 := J_sl15 (M := M87) hJ
        refine li_iload_n 0 dX12_talk_39 rfl ?_
        refine li_if_eq 70 dX12_talk_40 (by decide) (fun c88 => ?_) (fun c88 => ?_)
        · have tc88 : x85.toInt = 0 := tl_eq c88
          refine li_pick [0, 1, 2] [(2, .int x85), (1, .int x86), (0, .ref (Z.2.2 175))] rfl ?_
          exact J70 x85 x86 M87 hf hJ (by omega)
        · have tc88 : ¬ x85.toInt = 0 := tl_ne c88
          refine li_aload_n 2 dX12_talk_43 rfl ?_
          refine li_callV (n := 0) (As := []) dX12_talk_44 (k_X12_fine (d - 1) (by omega)  M87 hJ ) (by omega) (Nat.le_of_ble_eq_true rfl) w_1581 w_1583 w_43 w_112 w_1584 (by decide +kernel) rfl (by decide) sh_175 rfl rfl (Nat.le_of_ble_eq_true rfl) (fun r M90 h91 => ?_)
          obtain ⟨qx89, h91, jM90⟩ := h91
          have hf := li_fs_trans hf h91 (fun i k h => False.elim h)
          have hJ := jM90
          have rM90_7 := J_sl7 (M := M90) hJ
          have rM90_9 := J_sl9 (M := M90) hJ
          have rM90_12 := J_sl12 (M := M90) hJ
          have rM90_13 := J_sl13 (M := M90) hJ
          have rM90_14 := J_sl14 (M := M90) hJ
          have rM90_15 := J_sl15 (M := M90) hJ
          have mM90_7 : (M90.1 175 7).toInt = (M87.1 175 7).toInt := tl_slot (h91.1 175 7 id)
          have mM90_9 : (M90.1 175 9).toInt = (M87.1 175 9).toInt := tl_slot (h91.1 175 9 id)
          have mM90_12 : (M90.1 175 12).toInt = (M87.1 175 12).toInt := tl_slot (h91.1 175 12 id)
          have mM90_13 : (M90.1 175 13).toInt = (M87.1 175 13).toInt := tl_slot (h91.1 175 13 id)
          have mM90_14 : (M90.1 175 14).toInt = (M87.1 175 14).toInt := tl_slot (h91.1 175 14 id)
          have mM90_15 : (M90.1 175 15).toInt = (M87.1 175 15).toInt := tl_slot (h91.1 175 15 id)
          rcases qx89 with ⟨rfl, qx89⟩ | ⟨rfl, qx89⟩
          · skip
            refine li_if_eq 70 dX12_talk_47 (by decide) (fun c => absurd c (by decide)) (fun c => ?_)
            refine li_aload_n 2 dX12_talk_50 rfl ?_
            refine li_iconst 4 dX12_talk_51 (by decide) ?_
            refine li_iload_n 1 dX12_talk_52 rfl ?_
            refine li_imul dX12_talk_53 ?_
            refine li_top (fun x93 ex93 => ?_)
            have z4 : (4 : Int32).toInt = 4 := rfl
            try (have tx93 : x93.toInt = 4 * (x86 : Int32).toInt := tl_mul ex93 (show -2147483648 ≤ 4 * (x86 : Int32).toInt ∧ 4 * (x86 : Int32).toInt ≤ 2147483647 by omega))
            refine li_callV (n := 1) (As := [.int x93]) dX12_talk_54 (k_X12_readAct (d - 1) (by omega) x93 M90 hJ (by omega) (by omega)) (by omega) (Nat.le_of_ble_eq_true rfl) w_1791 w_1793 w_78 w_112 w_1794 (by decide +kernel) rfl (by decide) sh_175 rfl rfl (Nat.le_of_ble_eq_true rfl) (fun r M95 h96 => ?_)
            obtain ⟨rfl, h96, jM95, nM95⟩ := h96
            have hf := li_fs_trans hf h96 (fun i k => fun h => Or.elim h (fun h => Or.inr (Or.inr (Or.inr (Or.inr (Or.inr (Or.inl h)))))) (fun h => Or.elim h (fun h => Or.inr (Or.inr (Or.inr (Or.inr (Or.inr (Or.inr (Or.inr (Or.inr (Or.inr (Or.inr (Or.inl h))))))))))) (fun h => Or.inr (Or.inr (Or.inr (Or.inr (Or.inr (Or.inr (Or.inr (Or.inr (Or.inr (Or.inr (Or.inr (Or.inl h))))))))))))))
            have hJ := jM95
            have rM95_7 := J_sl7 (M := M95) hJ
            have rM95_9 := J_sl9 (M := M95) hJ
            have rM95_12 := J_sl12 (M := M95) hJ
            have rM95_13 := J_sl13 (M := M95) hJ
            have rM95_14 := J_sl14 (M := M95) hJ
            have rM95_15 := J_sl15 (M := M95) hJ
            have mM95_7 : (M95.1 175 7).toInt = (M90.1 175 7).toInt := tl_slot (h96.1 175 7 (show ¬ (175 = 188 ∨ (175 = 175 ∧ 7 = 14) ∨ (175 = 175 ∧ 7 = 15)) by decide))
            have mM95_9 : (M95.1 175 9).toInt = (M90.1 175 9).toInt := tl_slot (h96.1 175 9 (show ¬ (175 = 188 ∨ (175 = 175 ∧ 9 = 14) ∨ (175 = 175 ∧ 9 = 15)) by decide))
            have mM95_12 : (M95.1 175 12).toInt = (M90.1 175 12).toInt := tl_slot (h96.1 175 12 (show ¬ (175 = 188 ∨ (175 = 175 ∧ 12 = 14) ∨ (175 = 175 ∧ 12 = 15)) by decide))
            have mM95_13 : (M95.1 175 13).toInt = (M90.1 175 13).toInt := tl_slot (h96.1 175 13 (show ¬ (175 = 188 ∨ (175 = 175 ∧ 13 = 14) ∨ (175 = 175 ∧ 13 = 15)) by decide))
            obtain ⟨x97, ex97⟩ : ∃ y : Int32, y = x86 + 1 := ⟨_, rfl⟩
            have z1 : (1 : Int32).toInt = 1 := rfl
            try (have tx97 : x97.toInt = (x86 : Int32).toInt + (1 : Int32).toInt := tl_add ex97 (by omega))
            refine li_iinc 1 [(1, .int x97), (2, .int x85), (0, .ref (Z.2.2 175))] x97 dX12_talk_57 rfl (by rw [ex97]; rfl) (by decide) rfl ?_
            refine li_aload_n 2 dX12_talk_60 rfl ?_
            refine li_bipush 59 dX12_talk_61 (by decide) ?_
            have z59 : (59 : Int32).toInt = 59 := rfl
            refine li_callV (n := 1) (As := [.int 59]) dX12_talk_63 (k_X12_passes (d - 1) (by omega) 59 M95 hJ (by omega)) (by omega) (Nat.le_of_ble_eq_true rfl) w_1605 w_1607 w_49 w_112 w_1608 (by decide +kernel) rfl (by decide) sh_175 rfl rfl (Nat.le_of_ble_eq_true rfl) (fun r M99 h100 => ?_)
            obtain ⟨qx98, h100, jM99⟩ := h100
            have hf := li_fs_trans hf h100 (fun i k => fun h => Or.inr (Or.inr (Or.inr (Or.inr (Or.inr (Or.inr (Or.inr (Or.inr (Or.inr (Or.inr (Or.inl h)))))))))))
            have hJ := jM99
            have rM99_7 := J_sl7 (M := M99) hJ
            have rM99_9 := J_sl9 (M := M99) hJ
            have rM99_12 := J_sl12 (M := M99) hJ
            have rM99_13 := J_sl13 (M := M99) hJ
            have rM99_14 := J_sl14 (M := M99) hJ
            have rM99_15 := J_sl15 (M := M99) hJ
            have mM99_7 : (M99.1 175 7).toInt = (M95.1 175 7).toInt := tl_slot (h100.1 175 7 (show ¬ ((175 = 175 ∧ 7 = 14)) by decide))
            have mM99_9 : (M99.1 175 9).toInt = (M95.1 175 9).toInt := tl_slot (h100.1 175 9 (show ¬ ((175 = 175 ∧ 9 = 14)) by decide))
            have mM99_12 : (M99.1 175 12).toInt = (M95.1 175 12).toInt := tl_slot (h100.1 175 12 (show ¬ ((175 = 175 ∧ 12 = 14)) by decide))
            have mM99_13 : (M99.1 175 13).toInt = (M95.1 175 13).toInt := tl_slot (h100.1 175 13 (show ¬ ((175 = 175 ∧ 13 = 14)) by decide))
            have mM99_15 : (M99.1 175 15).toInt = (M95.1 175 15).toInt := tl_slot (h100.1 175 15 (show ¬ ((175 = 175 ∧ 15 = 14)) by decide))
            rcases qx98 with ⟨rfl, qx98⟩ | ⟨rfl, qx98⟩
            · skip
              refine li_istore_n [(2, .int 1), (1, .int x97), (0, .ref (Z.2.2 175))] dX12_talk_66 (by decide) rfl ?_
              refine li_goto 39 dX12_talk_67 (by decide) ?_
              refine li_pick [0, 1, 2] [(2, .int 1), (1, .int x97), (0, .ref (Z.2.2 175))] rfl ?_
              have z1 : (1 : Int32).toInt = 1 := rfl
              exact ih39 1 x97 M99 (by omega) hf hJ (by omega)
            · skip
              refine li_istore_n [(2, .int 0), (1, .int x97), (0, .ref (Z.2.2 175))] dX12_talk_66 (by decide) rfl ?_
              refine li_goto 39 dX12_talk_67 (by decide) ?_
              refine li_pick [0, 1, 2] [(2, .int 0), (1, .int x97), (0, .ref (Z.2.2 175))] rfl ?_
              have z0 : (0 : Int32).toInt = 0 := rfl
              exact ih39 0 x97 M99 (by omega) hf hJ (by omega)
          · skip
            refine li_if_eq 70 dX12_talk_47 (by decide) (fun c => ?_) (fun c => absurd rfl c)
            refine li_pick [0, 1, 2] [(2, .int x85), (1, .int x86), (0, .ref (Z.2.2 175))] rfl ?_
            exact J70 x85 x86 M90 hf hJ (by omega)
    have z0 : (0 : Int32).toInt = 0 := rfl
    exact L39 _ x9 0 M10 (Nat.lt_succ_self _) hf hJ (by omega)
  refine li_if_le 37 dX12_talk_30 (by decide) (fun c8 => ?_) (fun c8 => ?_)
  · have tc8 : x7.toInt ≤ 0 := tl_le c8
    refine li_iconst 0 dX12_talk_37 (by decide) ?_
    refine li_pick [0, 1] [(1, .int 0), (0, .ref (Z.2.2 175))] rfl ?_
    have z0 : (0 : Int32).toInt = 0 := rfl
    exact J38 0 M6 hf hJ (by omega)
  · have tc8 : 0 < x7.toInt := tl_nle c8
    refine li_iconst 1 dX12_talk_33 (by decide) ?_
    refine li_goto 38 dX12_talk_34 (by decide) ?_
    refine li_pick [0, 1] [(1, .int 0), (0, .ref (Z.2.2 175))] rfl ?_
    have z1 : (1 : Int32).toInt = 1 := rfl
    exact J38 1 M6 hf hJ (by omega)
set_option maxRecDepth 100000 in
set_option maxHeartbeats 4000000 in
theorem k3_X12_rate {l : Launch} {Z : li_Z} (d : Nat) (hd : 345 ≤ d) (M0 : li_M) (hJ : li_J M0) : li_Met l Z YX12_rate d [.ref (Z.2.2 175)] M0 (fun r M' => (∃ x : Int32, r = some (.int x)) ∧ li_fs (fun i k => i = 181 ∨ i = 183 ∨ i = 184 ∨ i = 185 ∨ i = 189 ∨ i = 1000 ∨ i = 1001 ∨ (i = 175 ∧ k = 10) ∨ (i = 175 ∧ k = 12) ∨ (i = 175 ∧ k = 13) ∨ (i = 175 ∧ k = 14) ∨ (i = 175 ∧ k = 15) ∨ (i = 175 ∧ k = 18) ∨ (i = 175 ∧ k = 20) ∨ (i = 175 ∧ k = 7) ∨ (i = 175 ∧ k = 9)) M0 M' ∧ li_J M' ∧ (M'.1 175 7).toInt = 0) := by
  refine li_enter (by decide +kernel) (Nat.le_of_ble_eq_true rfl) ?_
  show li_T l Z YX12_rate d 0 [(0, .ref (Z.2.2 175))] [] M0 _
  have hf : li_fs (fun i k => i = 181 ∨ i = 183 ∨ i = 184 ∨ i = 185 ∨ i = 189 ∨ i = 1000 ∨ i = 1001 ∨ (i = 175 ∧ k = 10) ∨ (i = 175 ∧ k = 12) ∨ (i = 175 ∧ k = 13) ∨ (i = 175 ∧ k = 14) ∨ (i = 175 ∧ k = 15) ∨ (i = 175 ∧ k = 18) ∨ (i = 175 ∧ k = 20) ∨ (i = 175 ∧ k = 7) ∨ (i = 175 ∧ k = 9)) M0 M0 := li_fs_refl
  have rM0_7 := J_sl7 (M := M0) hJ
  have rM0_9 := J_sl9 (M := M0) hJ
  have rM0_18 := J_sl18 (M := M0) hJ
  refine li_aload_n 0 dX12_rate_0 rfl ?_
  refine li_iconst 0 dX12_rate_1 (by decide) ?_
  refine li_puti (k := 10) (N := 52) (T := TX12) (C0 := RX12) dX12_rate_2 (by decide) sh_175 rfl rfl (by decide) li_in12 tyX12_ok nmX12 rfl rfl rfl rfl w_1414 ?_
  refine li_nm (fun M1 eM1 => ?_)
  have hf := li_fs_ui hf (Or.inr (Or.inr (Or.inr (Or.inr (Or.inr (Or.inr (Or.inr (Or.inl ⟨rfl, rfl⟩)))))))) eM1
  have z0 : (0 : Int32).toInt = 0 := rfl
  have hJ := hJ.put (k := 10) (by decide) (rg_free rfl) eM1
  have rM1_7 := J_sl7 (M := M1) hJ
  have rM1_9 := J_sl9 (M := M1) hJ
  have rM1_18 := J_sl18 (M := M1) hJ
  have mM1_7 : (M1.1 175 7).toInt = (M0.1 175 7).toInt := by rw [eM1, li_ui_at, if_pos rfl, if_neg (by decide)]
  have mM1_9 : (M1.1 175 9).toInt = (M0.1 175 9).toInt := by rw [eM1, li_ui_at, if_pos rfl, if_neg (by decide)]
  have mM1_18 : (M1.1 175 18).toInt = (M0.1 175 18).toInt := by rw [eM1, li_ui_at, if_pos rfl, if_neg (by decide)]
  refine li_aload_n 0 dX12_rate_5 rfl ?_
  refine li_geti (k := 7) (N := 52) (T := TX12) (C0 := RX12) dX12_rate_6 (by decide) sh_175 rfl rfl (by decide) li_in12 w_1411 ?_
  refine li_top (fun x2 ex2 => ?_)
  have gx2 : 0 ≤ x2.toInt ∧ x2.toInt ≤ 80 := by rw [ex2]; exact J_sl7 hJ
  have mx2 : x2.toInt = (M1.1 175 7).toInt := tl_slot ex2
  refine li_istore_n [(1, .int x2), (0, .ref (Z.2.2 175))] dX12_rate_9 (by decide) rfl ?_
  refine li_aload_n 1 dX12_rate_10 rfl ?_
  refine li_callV (n := 0) (As := []) dX12_rate_11 (k3_X12_readRule (d - 1) (by omega)  M1 hJ ) (by omega) (Nat.le_of_ble_eq_true rfl) w_1621 w_1623 w_51 w_112 w_1624 (by decide +kernel) rfl (by decide) sh_175 rfl rfl (Nat.le_of_ble_eq_true rfl) (fun r M4 h5 => ?_)
  obtain ⟨qx3, h5, jM4, nM4⟩ := h5
  have hf := li_fs_trans hf h5 (fun i k => fun h => Or.elim h (fun h => Or.inr (Or.inr (Or.inr (Or.inr (Or.inr (Or.inl h)))))) (fun h => Or.elim h (fun h => Or.inr (Or.inr (Or.inr (Or.inr (Or.inr (Or.inr (Or.inr (Or.inr (Or.inl h))))))))) (fun h => Or.elim h (fun h => Or.inr (Or.inr (Or.inr (Or.inr (Or.inr (Or.inr (Or.inr (Or.inr (Or.inr (Or.inl h)))))))))) (fun h => Or.elim h (fun h => Or.inr (Or.inr (Or.inr (Or.inr (Or.inr (Or.inr (Or.inr (Or.inr (Or.inr (Or.inr (Or.inl h))))))))))) (fun h => Or.elim h (fun h => Or.inr (Or.inr (Or.inr (Or.inr (Or.inr (Or.inr (Or.inr (Or.inr (Or.inr (Or.inr (Or.inr (Or.inl h)))))))))))) (fun h => Or.elim h (fun h => Or.inr (Or.inr (Or.inr (Or.inr (Or.inr (Or.inr (Or.inr (Or.inr (Or.inr (Or.inr (Or.inr (Or.inr (Or.inr (Or.inl h)))))))))))))) (fun h => Or.inr (Or.inr (Or.inr (Or.inr (Or.inr (Or.inr (Or.inr (Or.inr (Or.inr (Or.inr (Or.inr (Or.inr (Or.inr (Or.inr (Or.inl h)))))))))))))))))))))
  have hJ := jM4
  have rM4_7 := J_sl7 (M := M4) hJ
  have rM4_9 := J_sl9 (M := M4) hJ
  have rM4_18 := J_sl18 (M := M4) hJ
  have mM4_9 : (M4.1 175 9).toInt = (M1.1 175 9).toInt := tl_slot (h5.1 175 9 (show ¬ (175 = 1000 ∨ (175 = 175 ∧ 9 = 12) ∨ (175 = 175 ∧ 9 = 13) ∨ (175 = 175 ∧ 9 = 14) ∨ (175 = 175 ∧ 9 = 15) ∨ (175 = 175 ∧ 9 = 20) ∨ (175 = 175 ∧ 9 = 7)) by decide))
  have mM4_18 : (M4.1 175 18).toInt = (M1.1 175 18).toInt := tl_slot (h5.1 175 18 (show ¬ (175 = 1000 ∨ (175 = 175 ∧ 18 = 12) ∨ (175 = 175 ∧ 18 = 13) ∨ (175 = 175 ∧ 18 = 14) ∨ (175 = 175 ∧ 18 = 15) ∨ (175 = 175 ∧ 18 = 20) ∨ (175 = 175 ∧ 18 = 7)) by decide))
  rcases qx3 with ⟨rfl, qx3⟩ | ⟨rfl, qx3⟩
  · skip
    refine li_if_ne 26 dX12_rate_14 (by decide) (fun c => ?_) (fun c => absurd c (by decide))
    refine li_aload_n 1 dX12_rate_26 rfl ?_
    refine li_callV (n := 0) (As := []) dX12_rate_27 (k_X12_bestAll (d - 1) (by omega)  M4 hJ ) (by omega) (Nat.le_of_ble_eq_true rfl) w_1951 w_1953 w_98 w_112 w_1954 (by decide +kernel) rfl (by decide) sh_175 rfl rfl (Nat.le_of_ble_eq_true rfl) (fun r M8 h9 => ?_)
    obtain ⟨⟨x7, rfl⟩, h9, jM8⟩ := h9
    have gx7 := tl_rg x7
    have hf := li_fs_trans hf h9 (fun i k => fun h => Or.elim h (fun h => Or.inr (Or.inr (Or.inr (Or.inl h)))) (fun h => Or.elim h (fun h => Or.inr (Or.inr (Or.inr (Or.inr (Or.inl h))))) (fun h => Or.elim h (fun h => Or.inr (Or.inr (Or.inr (Or.inr (Or.inr (Or.inl h)))))) (fun h => Or.elim h (fun h => Or.inr (Or.inr (Or.inr (Or.inr (Or.inr (Or.inr (Or.inr (Or.inr (Or.inl h))))))))) (fun h => Or.elim h (fun h => Or.inr (Or.inr (Or.inr (Or.inr (Or.inr (Or.inr (Or.inr (Or.inr (Or.inr (Or.inl h)))))))))) (fun h => Or.elim h (fun h => Or.inr (Or.inr (Or.inr (Or.inr (Or.inr (Or.inr (Or.inr (Or.inr (Or.inr (Or.inr (Or.inl h))))))))))) (fun h => Or.elim h (fun h => Or.inr (Or.inr (Or.inr (Or.inr (Or.inr (Or.inr (Or.inr (Or.inr (Or.inr (Or.inr (Or.inr (Or.inl h)))))))))))) (fun h => Or.inr (Or.inr (Or.inr (Or.inr (Or.inr (Or.inr (Or.inr (Or.inr (Or.inr (Or.inr (Or.inr (Or.inr (Or.inr (Or.inl h)))))))))))))))))))))
    have hJ := jM8
    have rM8_7 := J_sl7 (M := M8) hJ
    have rM8_9 := J_sl9 (M := M8) hJ
    have rM8_18 := J_sl18 (M := M8) hJ
    have mM8_7 : (M8.1 175 7).toInt = (M4.1 175 7).toInt := tl_slot (h9.1 175 7 (show ¬ (175 = 185 ∨ 175 = 189 ∨ 175 = 1000 ∨ (175 = 175 ∧ 7 = 12) ∨ (175 = 175 ∧ 7 = 13) ∨ (175 = 175 ∧ 7 = 14) ∨ (175 = 175 ∧ 7 = 15) ∨ (175 = 175 ∧ 7 = 20)) by decide))
    have mM8_9 : (M8.1 175 9).toInt = (M4.1 175 9).toInt := tl_slot (h9.1 175 9 (show ¬ (175 = 185 ∨ 175 = 189 ∨ 175 = 1000 ∨ (175 = 175 ∧ 9 = 12) ∨ (175 = 175 ∧ 9 = 13) ∨ (175 = 175 ∧ 9 = 14) ∨ (175 = 175 ∧ 9 = 15) ∨ (175 = 175 ∧ 9 = 20)) by decide))
    have mM8_18 : (M8.1 175 18).toInt = (M4.1 175 18).toInt := tl_slot (h9.1 175 18 (show ¬ (175 = 185 ∨ 175 = 189 ∨ 175 = 1000 ∨ (175 = 175 ∧ 18 = 12) ∨ (175 = 175 ∧ 18 = 13) ∨ (175 = 175 ∧ 18 = 14) ∨ (175 = 175 ∧ 18 = 15) ∨ (175 = 175 ∧ 18 = 20)) by decide))
    refine li_istore_n [(2, .int x7), (1, .int x2), (0, .ref (Z.2.2 175))] dX12_rate_30 (by decide) rfl ?_
    refine li_aload_n 2 dX12_rate_31 rfl ?_
    refine li_geti (k := 18) (N := 52) (T := TX12) (C0 := RX12) dX12_rate_32 (by decide) sh_175 rfl rfl (by decide) li_in12 w_1422 ?_
    refine li_top (fun x10 ex10 => ?_)
    have gx10 : 0 ≤ x10.toInt ∧ x10.toInt ≤ 40 := by rw [ex10]; exact J_sl18 hJ
    have mx10 : x10.toInt = (M8.1 175 18).toInt := tl_slot ex10
    refine li_istore_n [(3, .int x10), (2, .int x7), (1, .int x2), (0, .ref (Z.2.2 175))] dX12_rate_35 (by decide) rfl ?_
    refine li_aload_n 3 dX12_rate_36 rfl ?_
    obtain ⟨q11, hq11, rq11⟩ := hJ.2.2.1
    refine li_getm (r := 1) (k := 17) (N := 52) (T := TX12) (C0 := RX12) dX12_rate_37 (by decide) sh_175 rfl rfl hq11 (by decide) li_in12 w_1421 ?_
    refine li_astore [(4, .ref (Z.2.2 q11)), (3, .int x10), (2, .int x7), (1, .int x2), (0, .ref (Z.2.2 175))] dX12_rate_40 (by decide) rfl ?_
    refine li_aload_n 4 dX12_rate_42 rfl ?_
    refine li_aload_n 4 dX12_rate_43 rfl ?_
    refine li_getr (k := 19) (N := 52) (T := TX12) (C0 := RX12) dX12_rate_44 (by decide) sh_175 rfl rfl (by decide) (by decide) li_in12 w_1423 ?_
    refine li_putr (k := 17) (r := 1) (q := 184) (N := 52) (T := TX12) (C0 := RX12) dX12_rate_47 sh_175 rfl rfl (fun k2 hk2 => li_only1 k2 hk2) (by decide) li_in12 tyX12_ok nmX12 rfl rfl rfl rfl w_1421 ?_
    refine li_nm (fun M12 eM12 => ?_)
    have hf := li_fs_ur hf (Or.inr (Or.inr (Or.inr (Or.inr (Or.inr (Or.inr (Or.inl rfl))))))) eM12
    have hJ := hJ.ur1 (by unfold li_rl; omega) eM12
    have rM12_7 := J_sl7 (M := M12) hJ
    have rM12_9 := J_sl9 (M := M12) hJ
    have rM12_18 := J_sl18 (M := M12) hJ
    have mM12_7 : (M12.1 175 7).toInt = (M8.1 175 7).toInt := by rw [eM12]; rfl
    have mM12_9 : (M12.1 175 9).toInt = (M8.1 175 9).toInt := by rw [eM12]; rfl
    have mM12_18 : (M12.1 175 18).toInt = (M8.1 175 18).toInt := by rw [eM12]; rfl
    refine li_iconst 0 dX12_rate_50 (by decide) ?_
    refine li_istore [(5, .int 0), (4, .ref (Z.2.2 q11)), (3, .int x10), (2, .int x7), (1, .int x2), (0, .ref (Z.2.2 175))] dX12_rate_51 (by decide) rfl ?_
    have L53 : ∀ (n : Nat) (x13 : Int32) (M14 : li_M), ((x2 : Int32).toInt - (x13 : Int32).toInt).toNat < n → li_fs (fun i k => i = 181 ∨ i = 183 ∨ i = 184 ∨ i = 185 ∨ i = 189 ∨ i = 1000 ∨ i = 1001 ∨ (i = 175 ∧ k = 10) ∨ (i = 175 ∧ k = 12) ∨ (i = 175 ∧ k = 13) ∨ (i = 175 ∧ k = 14) ∨ (i = 175 ∧ k = 15) ∨ (i = 175 ∧ k = 18) ∨ (i = 175 ∧ k = 20) ∨ (i = 175 ∧ k = 7) ∨ (i = 175 ∧ k = 9)) M0 M14 → li_J M14 → 0 ≤ (x13 : Int32).toInt ∧ (M14.1 175 7).toInt = 0 → li_T l Z YX12_rate d 53 [(5, .int x13), (4, .ref (Z.2.2 q11)), (3, .int x10), (2, .int x7), (1, .int x2), (0, .ref (Z.2.2 175))] [] M14 (fun r M' => (∃ x : Int32, r = some (.int x)) ∧ li_fs (fun i k => i = 181 ∨ i = 183 ∨ i = 184 ∨ i = 185 ∨ i = 189 ∨ i = 1000 ∨ i = 1001 ∨ (i = 175 ∧ k = 10) ∨ (i = 175 ∧ k = 12) ∨ (i = 175 ∧ k = 13) ∨ (i = 175 ∧ k = 14) ∨ (i = 175 ∧ k = 15) ∨ (i = 175 ∧ k = 18) ∨ (i = 175 ∧ k = 20) ∨ (i = 175 ∧ k = 7) ∨ (i = 175 ∧ k = 9)) M0 M' ∧ li_J M' ∧ (M'.1 175 7).toInt = 0) := by
      intro n
      induction n with
      | zero => intro x13 M14 hn; exact absurd hn (Nat.not_lt_zero _)
      | succ n ih53 =>
        intro x13 M14 hn hf hJ hi
        have gx13 := tl_rg x13
        have rM14_7 := J_sl7 (M := M14) hJ
        have rM14_9 := J_sl9 (M := M14) hJ
        have rM14_18 := J_sl18 (M := M14) hJ
        refine li_iload 0 dX12_rate_53 rfl ?_
        refine li_iload_n 4 dX12_rate_55 rfl ?_
        refine li_icmp_ge 79 dX12_rate_56 (by decide) (fun c15 => ?_) (fun c15 => ?_)
        · have tc15 : x2.toInt ≤ x13.toInt := tl_le c15
          refine li_aload_n 5 dX12_rate_79 rfl ?_
          refine li_iload_n 4 dX12_rate_80 rfl ?_
          refine li_puti (k := 18) (N := 52) (T := TX12) (C0 := RX12) dX12_rate_81 (by decide) sh_175 rfl rfl (by decide) li_in12 tyX12_ok nmX12 rfl rfl rfl rfl w_1422 ?_
          refine li_nm (fun M16 eM16 => ?_)
          have hf := li_fs_ui hf (Or.inr (Or.inr (Or.inr (Or.inr (Or.inr (Or.inr (Or.inr (Or.inr (Or.inr (Or.inr (Or.inr (Or.inr (Or.inl ⟨rfl, rfl⟩))))))))))))) eM16
          have hJ := J_pt18 hJ (show 0 ≤ (x2 : Int32).toInt ∧ (x2 : Int32).toInt ≤ 40 by omega) eM16
          have rM16_7 := J_sl7 (M := M16) hJ
          have rM16_9 := J_sl9 (M := M16) hJ
          have rM16_18 := J_sl18 (M := M16) hJ
          have mM16_7 : (M16.1 175 7).toInt = (M14.1 175 7).toInt := by rw [eM16, li_ui_at, if_pos rfl, if_neg (by decide)]
          have mM16_9 : (M16.1 175 9).toInt = (M14.1 175 9).toInt := by rw [eM16, li_ui_at, if_pos rfl, if_neg (by decide)]
          have mM16_18 : (M16.1 175 18).toInt = x2.toInt := by rw [eM16, li_ui_at, if_pos rfl, if_pos rfl]
          refine li_aload_n 5 dX12_rate_84 rfl ?_
          refine li_callV (n := 0) (As := []) dX12_rate_85 (k_X12_bestAll (d - 1) (by omega)  M16 hJ ) (by omega) (Nat.le_of_ble_eq_true rfl) w_1951 w_1953 w_98 w_112 w_1954 (by decide +kernel) rfl (by decide) sh_175 rfl rfl (Nat.le_of_ble_eq_true rfl) (fun r M18 h19 => ?_)
          obtain ⟨⟨x17, rfl⟩, h19, jM18⟩ := h19
          have gx17 := tl_rg x17
          have hf := li_fs_trans hf h19 (fun i k => fun h => Or.elim h (fun h => Or.inr (Or.inr (Or.inr (Or.inl h)))) (fun h => Or.elim h (fun h => Or.inr (Or.inr (Or.inr (Or.inr (Or.inl h))))) (fun h => Or.elim h (fun h => Or.inr (Or.inr (Or.inr (Or.inr (Or.inr (Or.inl h)))))) (fun h => Or.elim h (fun h => Or.inr (Or.inr (Or.inr (Or.inr (Or.inr (Or.inr (Or.inr (Or.inr (Or.inl h))))))))) (fun h => Or.elim h (fun h => Or.inr (Or.inr (Or.inr (Or.inr (Or.inr (Or.inr (Or.inr (Or.inr (Or.inr (Or.inl h)))))))))) (fun h => Or.elim h (fun h => Or.inr (Or.inr (Or.inr (Or.inr (Or.inr (Or.inr (Or.inr (Or.inr (Or.inr (Or.inr (Or.inl h))))))))))) (fun h => Or.elim h (fun h => Or.inr (Or.inr (Or.inr (Or.inr (Or.inr (Or.inr (Or.inr (Or.inr (Or.inr (Or.inr (Or.inr (Or.inl h)))))))))))) (fun h => Or.inr (Or.inr (Or.inr (Or.inr (Or.inr (Or.inr (Or.inr (Or.inr (Or.inr (Or.inr (Or.inr (Or.inr (Or.inr (Or.inl h)))))))))))))))))))))
          have hJ := jM18
          have rM18_7 := J_sl7 (M := M18) hJ
          have rM18_9 := J_sl9 (M := M18) hJ
          have rM18_18 := J_sl18 (M := M18) hJ
          have mM18_7 : (M18.1 175 7).toInt = (M16.1 175 7).toInt := tl_slot (h19.1 175 7 (show ¬ (175 = 185 ∨ 175 = 189 ∨ 175 = 1000 ∨ (175 = 175 ∧ 7 = 12) ∨ (175 = 175 ∧ 7 = 13) ∨ (175 = 175 ∧ 7 = 14) ∨ (175 = 175 ∧ 7 = 15) ∨ (175 = 175 ∧ 7 = 20)) by decide))
          have mM18_9 : (M18.1 175 9).toInt = (M16.1 175 9).toInt := tl_slot (h19.1 175 9 (show ¬ (175 = 185 ∨ 175 = 189 ∨ 175 = 1000 ∨ (175 = 175 ∧ 9 = 12) ∨ (175 = 175 ∧ 9 = 13) ∨ (175 = 175 ∧ 9 = 14) ∨ (175 = 175 ∧ 9 = 15) ∨ (175 = 175 ∧ 9 = 20)) by decide))
          have mM18_18 : (M18.1 175 18).toInt = (M16.1 175 18).toInt := tl_slot (h19.1 175 18 (show ¬ (175 = 185 ∨ 175 = 189 ∨ 175 = 1000 ∨ (175 = 175 ∧ 18 = 12) ∨ (175 = 175 ∧ 18 = 13) ∨ (175 = 175 ∧ 18 = 14) ∨ (175 = 175 ∧ 18 = 15) ∨ (175 = 175 ∧ 18 = 20)) by decide))
          refine li_istore [(5, .int x17), (4, .ref (Z.2.2 q11)), (3, .int x10), (2, .int x7), (1, .int x2), (0, .ref (Z.2.2 175))] dX12_rate_88 (by decide) rfl ?_
          refine li_aload_n 5 dX12_rate_90 rfl ?_
          refine li_aload 1 dX12_rate_91 rfl ?_
          refine li_putr (k := 17) (r := 1) (q := q11) (N := 52) (T := TX12) (C0 := RX12) dX12_rate_93 sh_175 rfl rfl (fun k2 hk2 => li_only1 k2 hk2) (by decide) li_in12 tyX12_ok nmX12 rfl rfl rfl rfl w_1421 ?_
          refine li_nm (fun M20 eM20 => ?_)
          have hf := li_fs_ur hf (Or.inr (Or.inr (Or.inr (Or.inr (Or.inr (Or.inr (Or.inl rfl))))))) eM20
          have hJ := hJ.ur1 rq11 eM20
          have rM20_7 := J_sl7 (M := M20) hJ
          have rM20_9 := J_sl9 (M := M20) hJ
          have rM20_18 := J_sl18 (M := M20) hJ
          have mM20_7 : (M20.1 175 7).toInt = (M18.1 175 7).toInt := by rw [eM20]; rfl
          have mM20_9 : (M20.1 175 9).toInt = (M18.1 175 9).toInt := by rw [eM20]; rfl
          have mM20_18 : (M20.1 175 18).toInt = (M18.1 175 18).toInt := by rw [eM20]; rfl
          refine li_aload_n 5 dX12_rate_96 rfl ?_
          refine li_iload_n 2 dX12_rate_97 rfl ?_
          refine li_puti (k := 18) (N := 52) (T := TX12) (C0 := RX12) dX12_rate_98 (by decide) sh_175 rfl rfl (by decide) li_in12 tyX12_ok nmX12 rfl rfl rfl rfl w_1422 ?_
          refine li_nm (fun M21 eM21 => ?_)
          have hf := li_fs_ui hf (Or.inr (Or.inr (Or.inr (Or.inr (Or.inr (Or.inr (Or.inr (Or.inr (Or.inr (Or.inr (Or.inr (Or.inr (Or.inl ⟨rfl, rfl⟩))))))))))))) eM21
          have hJ := J_pt18 hJ (show 0 ≤ (x10 : Int32).toInt ∧ (x10 : Int32).toInt ≤ 40 by omega) eM21
          have rM21_7 := J_sl7 (M := M21) hJ
          have rM21_9 := J_sl9 (M := M21) hJ
          have rM21_18 := J_sl18 (M := M21) hJ
          have mM21_7 : (M21.1 175 7).toInt = (M20.1 175 7).toInt := by rw [eM21, li_ui_at, if_pos rfl, if_neg (by decide)]
          have mM21_9 : (M21.1 175 9).toInt = (M20.1 175 9).toInt := by rw [eM21, li_ui_at, if_pos rfl, if_neg (by decide)]
          have mM21_18 : (M21.1 175 18).toInt = x10.toInt := by rw [eM21, li_ui_at, if_pos rfl, if_pos rfl]
          refine li_aload_n 5 dX12_rate_101 rfl ?_
          refine li_iconst 0 dX12_rate_102 (by decide) ?_
          refine li_puti (k := 9) (N := 52) (T := TX12) (C0 := RX12) dX12_rate_103 (by decide) sh_175 rfl rfl (by decide) li_in12 tyX12_ok nmX12 rfl rfl rfl rfl w_1413 ?_
          refine li_nm (fun M22 eM22 => ?_)
          have hf := li_fs_ui hf (Or.inr (Or.inr (Or.inr (Or.inr (Or.inr (Or.inr (Or.inr (Or.inr (Or.inr (Or.inr (Or.inr (Or.inr (Or.inr (Or.inr (Or.inr (⟨rfl, rfl⟩)))))))))))))))) eM22
          have z0 : (0 : Int32).toInt = 0 := rfl
          have hJ := J_pt9 hJ (show 0 ≤ (0 : Int32).toInt ∧ (0 : Int32).toInt ≤ 20 by omega) eM22
          have rM22_7 := J_sl7 (M := M22) hJ
          have rM22_9 := J_sl9 (M := M22) hJ
          have rM22_18 := J_sl18 (M := M22) hJ
          have mM22_7 : (M22.1 175 7).toInt = (M21.1 175 7).toInt := by rw [eM22, li_ui_at, if_pos rfl, if_neg (by decide)]
          have mM22_9 : (M22.1 175 9).toInt = 0 := by rw [eM22, li_ui_at, if_pos rfl, if_pos rfl]; rfl
          have mM22_18 : (M22.1 175 18).toInt = (M21.1 175 18).toInt := by rw [eM22, li_ui_at, if_pos rfl, if_neg (by decide)]
          refine li_aload_n 5 dX12_rate_106 rfl ?_
          refine li_iload 0 dX12_rate_107 rfl ?_
          refine li_callV (n := 1) (As := [.int x17]) dX12_rate_109 (k_X12_tell (d - 1) (by omega) x17 M22 hJ (by omega)) (by omega) (Nat.le_of_ble_eq_true rfl) w_1783 w_1785 w_77 w_112 w_1786 (by decide +kernel) rfl (by decide) sh_175 rfl rfl (Nat.le_of_ble_eq_true rfl) (fun r M24 h25 => ?_)
          obtain ⟨rfl, h25, jM24, nM24⟩ := h25
          have hf := li_fs_trans hf h25 (fun i k => fun h => Or.elim h (fun h => Or.inl h) (fun h => Or.inr (Or.inr (Or.inr (Or.inr (Or.inr (Or.inr (Or.inr (Or.inr (Or.inr (Or.inr (Or.inr (Or.inr (Or.inr (Or.inr (Or.inr h))))))))))))))))
          have hJ := jM24
          have rM24_7 := J_sl7 (M := M24) hJ
          have rM24_9 := J_sl9 (M := M24) hJ
          have rM24_18 := J_sl18 (M := M24) hJ
          have mM24_7 : (M24.1 175 7).toInt = (M22.1 175 7).toInt := tl_slot (h25.1 175 7 (show ¬ (175 = 181 ∨ (175 = 175 ∧ 7 = 9)) by decide))
          have mM24_18 : (M24.1 175 18).toInt = (M22.1 175 18).toInt := tl_slot (h25.1 175 18 (show ¬ (175 = 181 ∨ (175 = 175 ∧ 18 = 9)) by decide))
          refine li_aload_n 5 dX12_rate_112 rfl ?_
          refine li_iload_n 3 dX12_rate_113 rfl ?_
          refine li_callV (n := 1) (As := [.int x7]) dX12_rate_114 (k_X12_tell (d - 1) (by omega) x7 M24 hJ (by omega)) (by omega) (Nat.le_of_ble_eq_true rfl) w_1783 w_1785 w_77 w_112 w_1786 (by decide +kernel) rfl (by decide) sh_175 rfl rfl (Nat.le_of_ble_eq_true rfl) (fun r M27 h28 => ?_)
          obtain ⟨rfl, h28, jM27, nM27⟩ := h28
          have hf := li_fs_trans hf h28 (fun i k => fun h => Or.elim h (fun h => Or.inl h) (fun h => Or.inr (Or.inr (Or.inr (Or.inr (Or.inr (Or.inr (Or.inr (Or.inr (Or.inr (Or.inr (Or.inr (Or.inr (Or.inr (Or.inr (Or.inr h))))))))))))))))
          have hJ := jM27
          have rM27_7 := J_sl7 (M := M27) hJ
          have rM27_9 := J_sl9 (M := M27) hJ
          have rM27_18 := J_sl18 (M := M27) hJ
          have mM27_7 : (M27.1 175 7).toInt = (M24.1 175 7).toInt := tl_slot (h28.1 175 7 (show ¬ (175 = 181 ∨ (175 = 175 ∧ 7 = 9)) by decide))
          have mM27_18 : (M27.1 175 18).toInt = (M24.1 175 18).toInt := tl_slot (h28.1 175 18 (show ¬ (175 = 181 ∨ (175 = 175 ∧ 18 = 9)) by decide))
          refine li_iload 0 dX12_rate_117 rfl ?_
          refine li_iload_n 3 dX12_rate_119 rfl ?_
          refine li_isub dX12_rate_120 ?_
          refine li_top (fun x29 ex29 => ?_)
          try (have tx29 : x29.toInt = (x17 : Int32).toInt - (x7 : Int32).toInt := tl_sub ex29 (by omega))
          exact li_iret dX12_rate_121 rfl rfl ⟨⟨_, rfl⟩, hf, hJ, (by omega)⟩
        · have tc15 : x13.toInt < x2.toInt := tl_nle c15
          refine li_aload_n 5 dX12_rate_59 rfl ?_
          obtain ⟨q30, hq30, rq30⟩ := hJ.2.2.1
          refine li_getm (r := 1) (k := 17) (N := 52) (T := TX12) (C0 := RX12) dX12_rate_60 (by decide) sh_175 rfl rfl hq30 (by decide) li_in12 w_1421 ?_
          refine li_iload 0 dX12_rate_63 rfl ?_
          refine li_aload_n 5 dX12_rate_65 rfl ?_
          refine li_getr (k := 6) (N := 52) (T := TX12) (C0 := RX12) dX12_rate_66 (by decide) sh_175 rfl rfl (by decide) (by decide) li_in12 w_1410 ?_
          refine li_iload 0 dX12_rate_69 rfl ?_
          refine li_bald dX12_rate_71 (by decide) sh_180 (tl_in (by omega)) ?_
          refine li_top (fun x31 ex31 => ?_)
          have gx31 := tl_rg x31
          refine li_bast dX12_rate_72 (snU rq30) (shU rq30) (tl_in (by omega)) ?_
          have uM32 : q30 = 183 ∨ q30 = 184 := rq30
          refine li_nm (fun M32 eM32 => ?_)
          have hf := li_fs_ui hf (Or.elim uM32 (fun h => Or.inr (Or.inl h)) (fun h => Or.inr (Or.inr (Or.inl h)))) eM32
          have hJ := hJ.st (by unfold li_rl at rq30; omega) (li_el_byte (rl_rq rq30)) eM32
          have rM32_7 := J_sl7 (M := M32) hJ
          have rM32_9 := J_sl9 (M := M32) hJ
          have rM32_18 := J_sl18 (M := M32) hJ
          have mM32_7 : (M32.1 175 7).toInt = (M14.1 175 7).toInt := by rw [eM32, li_ui_at, if_neg (by unfold li_rl at rq30; omega)]
          have mM32_9 : (M32.1 175 9).toInt = (M14.1 175 9).toInt := by rw [eM32, li_ui_at, if_neg (by unfold li_rl at rq30; omega)]
          have mM32_18 : (M32.1 175 18).toInt = (M14.1 175 18).toInt := by rw [eM32, li_ui_at, if_neg (by unfold li_rl at rq30; omega)]
          obtain ⟨x33, ex33⟩ : ∃ y : Int32, y = x13 + 1 := ⟨_, rfl⟩
          have z1 : (1 : Int32).toInt = 1 := rfl
          try (have tx33 : x33.toInt = (x13 : Int32).toInt + (1 : Int32).toInt := tl_add ex33 (by omega))
          refine li_iinc 0 [(5, .int x33), (4, .ref (Z.2.2 q11)), (3, .int x10), (2, .int x7), (1, .int x2), (0, .ref (Z.2.2 175))] x33 dX12_rate_73 rfl (by rw [ex33]; rfl) (by decide) rfl ?_
          refine li_goto 53 dX12_rate_76 (by decide) ?_
          refine li_pick [0, 1, 2, 3, 4, 5] [(5, .int x33), (4, .ref (Z.2.2 q11)), (3, .int x10), (2, .int x7), (1, .int x2), (0, .ref (Z.2.2 175))] rfl ?_
          exact ih53 x33 M32 (by omega) hf hJ (by omega)
    have z0 : (0 : Int32).toInt = 0 := rfl
    exact L53 _ 0 M12 (Nat.lt_succ_self _) hf hJ (by omega)
  · skip
    refine li_if_ne 26 dX12_rate_14 (by decide) (fun c => absurd rfl c) (fun c => ?_)
    refine li_sipush (-10000) dX12_rate_17 (by decide) ?_
    refine li_aload_n 1 dX12_rate_20 rfl ?_
    refine li_geti (k := 15) (N := 52) (T := TX12) (C0 := RX12) dX12_rate_21 (by decide) sh_175 rfl rfl (by decide) li_in12 w_1419 ?_
    refine li_top (fun x35 ex35 => ?_)
    have gx35 : -1 ≤ x35.toInt ∧ x35.toInt ≤ 81 := by rw [ex35]; exact J_sl15 hJ
    have mx35 : x35.toInt = (M4.1 175 15).toInt := tl_slot ex35
    refine li_isub dX12_rate_24 ?_
    refine li_top (fun x36 ex36 => ?_)
    have zm10000 : ((-10000) : Int32).toInt = -10000 := rfl
    try (have tx36 : x36.toInt = ((-10000) : Int32).toInt - (x35 : Int32).toInt := tl_sub ex36 (by omega))
    exact li_iret dX12_rate_25 rfl rfl ⟨⟨_, rfl⟩, hf, hJ, (by omega)⟩
set_option maxRecDepth 100000 in
set_option maxHeartbeats 4000000 in
theorem k3_X12_things {l : Launch} {Z : li_Z} (d : Nat) (hd : 6 ≤ d) (M0 : li_M) (hJ : li_J M0) : li_Met l Z YX12_things d [.ref (Z.2.2 175)] M0 (fun r M' => (∃ x : Int32, r = some (.int x)) ∧ li_fs (fun i k => i = 179 ∨ i = 182 ∨ i = 1000 ∨ (i = 175 ∧ k = 10) ∨ (i = 175 ∧ k = 12) ∨ (i = 175 ∧ k = 13) ∨ (i = 175 ∧ k = 14) ∨ (i = 175 ∧ k = 15) ∨ (i = 175 ∧ k = 23) ∨ (i = 175 ∧ k = 4) ∨ (i = 175 ∧ k = 48) ∨ (i = 175 ∧ k = 7)) M0 M' ∧ li_J M' ∧ (M'.1 175 7).toInt = 0) := by
  refine li_enter (by decide +kernel) (Nat.le_of_ble_eq_true rfl) ?_
  show li_T l Z YX12_things d 0 [(0, .ref (Z.2.2 175))] [] M0 _
  have hf : li_fs (fun i k => i = 179 ∨ i = 182 ∨ i = 1000 ∨ (i = 175 ∧ k = 10) ∨ (i = 175 ∧ k = 12) ∨ (i = 175 ∧ k = 13) ∨ (i = 175 ∧ k = 14) ∨ (i = 175 ∧ k = 15) ∨ (i = 175 ∧ k = 23) ∨ (i = 175 ∧ k = 4) ∨ (i = 175 ∧ k = 48) ∨ (i = 175 ∧ k = 7)) M0 M0 := li_fs_refl
  have rM0_4 := J_sl4 (M := M0) hJ
  have rM0_7 := J_sl7 (M := M0) hJ
  have rM0_15 := J_sl15 (M := M0) hJ
  refine li_aload_n 0 dX12_things_0 rfl ?_
  refine li_iconst 0 dX12_things_1 (by decide) ?_
  refine li_puti (k := 10) (N := 52) (T := TX12) (C0 := RX12) dX12_things_2 (by decide) sh_175 rfl rfl (by decide) li_in12 tyX12_ok nmX12 rfl rfl rfl rfl w_1414 ?_
  refine li_nm (fun M1 eM1 => ?_)
  have hf := li_fs_ui hf (Or.inr (Or.inr (Or.inr (Or.inl ⟨rfl, rfl⟩)))) eM1
  have z0 : (0 : Int32).toInt = 0 := rfl
  have hJ := hJ.put (k := 10) (by decide) (rg_free rfl) eM1
  have rM1_4 := J_sl4 (M := M1) hJ
  have rM1_7 := J_sl7 (M := M1) hJ
  have rM1_15 := J_sl15 (M := M1) hJ
  have mM1_4 : (M1.1 175 4).toInt = (M0.1 175 4).toInt := by rw [eM1, li_ui_at, if_pos rfl, if_neg (by decide)]
  have mM1_7 : (M1.1 175 7).toInt = (M0.1 175 7).toInt := by rw [eM1, li_ui_at, if_pos rfl, if_neg (by decide)]
  have mM1_15 : (M1.1 175 15).toInt = (M0.1 175 15).toInt := by rw [eM1, li_ui_at, if_pos rfl, if_neg (by decide)]
  refine li_aload_n 0 dX12_things_5 rfl ?_
  refine li_aload_n 0 dX12_things_6 rfl ?_
  refine li_getr (k := 6) (N := 52) (T := TX12) (C0 := RX12) dX12_things_7 (by decide) sh_175 rfl rfl (by decide) (by decide) li_in12 w_1410 ?_
  refine li_aload_n 0 dX12_things_10 rfl ?_
  refine li_geti (k := 7) (N := 52) (T := TX12) (C0 := RX12) dX12_things_11 (by decide) sh_175 rfl rfl (by decide) li_in12 w_1411 ?_
  refine li_top (fun x2 ex2 => ?_)
  have gx2 : 0 ≤ x2.toInt ∧ x2.toInt ≤ 80 := by rw [ex2]; exact J_sl7 hJ
  have mx2 : x2.toInt = (M1.1 175 7).toInt := tl_slot ex2
  refine li_bipush 76 dX12_things_14 (by decide) ?_
  have z76 : (76 : Int32).toInt = 76 := rfl
  refine li_callV (n := 3) (As := [.ref (Z.2.2 180), .int x2, .int 76]) dX12_things_16 (k_X12_begin (d - 1) (by unfold li_rq; omega) x2 76 M1 hJ (show 0 ≤ (x2 : Int32).toInt ∧ (x2 : Int32).toInt ≤ (li_qn 180 : Int) by have := li_qn_fix; omega) (by omega)) (by omega) (Nat.le_of_ble_eq_true rfl) w_1577 w_1579 w_42 w_112 w_1580 (by decide +kernel) rfl (by decide) sh_175 rfl rfl (Nat.le_of_ble_eq_true rfl) (fun r M4 h5 => ?_)
  obtain ⟨rfl, h5, jM4, nM4⟩ := h5
  have hf := li_fs_trans hf h5 (fun i k => fun h => Or.elim h (fun h => Or.inr (Or.inr (Or.inr (Or.inr (Or.inl h))))) (fun h => Or.elim h (fun h => Or.inr (Or.inr (Or.inr (Or.inr (Or.inr (Or.inl h)))))) (fun h => Or.elim h (fun h => Or.inr (Or.inr (Or.inr (Or.inr (Or.inr (Or.inr (Or.inl h))))))) (fun h => Or.elim h (fun h => Or.inr (Or.inr (Or.inr (Or.inr (Or.inr (Or.inr (Or.inr (Or.inl h)))))))) (fun h => Or.inr (Or.inr (Or.inl h)))))))
  have hJ := jM4
  have rM4_4 := J_sl4 (M := M4) hJ
  have rM4_7 := J_sl7 (M := M4) hJ
  have rM4_15 := J_sl15 (M := M4) hJ
  have mM4_4 : (M4.1 175 4).toInt = (M1.1 175 4).toInt := tl_slot (h5.1 175 4 (show ¬ ((175 = 175 ∧ 4 = 12) ∨ (175 = 175 ∧ 4 = 13) ∨ (175 = 175 ∧ 4 = 14) ∨ (175 = 175 ∧ 4 = 15) ∨ 175 = 1000) by decide))
  have mM4_7 : (M4.1 175 7).toInt = (M1.1 175 7).toInt := tl_slot (h5.1 175 7 (show ¬ ((175 = 175 ∧ 7 = 12) ∨ (175 = 175 ∧ 7 = 13) ∨ (175 = 175 ∧ 7 = 14) ∨ (175 = 175 ∧ 7 = 15) ∨ 175 = 1000) by decide))
  refine li_aload_n 0 dX12_things_19 rfl ?_
  refine li_iconst 0 dX12_things_20 (by decide) ?_
  refine li_puti (k := 7) (N := 52) (T := TX12) (C0 := RX12) dX12_things_21 (by decide) sh_175 rfl rfl (by decide) li_in12 tyX12_ok nmX12 rfl rfl rfl rfl w_1411 ?_
  refine li_nm (fun M6 eM6 => ?_)
  have hf := li_fs_ui hf (Or.inr (Or.inr (Or.inr (Or.inr (Or.inr (Or.inr (Or.inr (Or.inr (Or.inr (Or.inr (Or.inr (⟨rfl, rfl⟩)))))))))))) eM6
  have z0 : (0 : Int32).toInt = 0 := rfl
  have hJ := J_pt7 hJ (show 0 ≤ (0 : Int32).toInt ∧ (0 : Int32).toInt ≤ 80 by omega) eM6
  have rM6_4 := J_sl4 (M := M6) hJ
  have rM6_7 := J_sl7 (M := M6) hJ
  have rM6_15 := J_sl15 (M := M6) hJ
  have mM6_4 : (M6.1 175 4).toInt = (M4.1 175 4).toInt := by rw [eM6, li_ui_at, if_pos rfl, if_neg (by decide)]
  have mM6_7 : (M6.1 175 7).toInt = 0 := by rw [eM6, li_ui_at, if_pos rfl, if_pos rfl]; rfl
  have mM6_15 : (M6.1 175 15).toInt = (M4.1 175 15).toInt := by rw [eM6, li_ui_at, if_pos rfl, if_neg (by decide)]
  refine li_aload_n 0 dX12_things_24 rfl ?_
  refine li_geti (k := 12) (N := 52) (T := TX12) (C0 := RX12) dX12_things_25 (by decide) sh_175 rfl rfl (by decide) li_in12 w_1416 ?_
  refine li_top (fun x7 ex7 => ?_)
  have gx7 : 0 ≤ x7.toInt ∧ x7.toInt ≤ 80 := by rw [ex7]; exact J_sl12 hJ
  have mx7 : x7.toInt = (M6.1 175 12).toInt := tl_slot ex7
  refine li_if_ne 33 dX12_things_28 (by decide) (fun c8 => ?_) (fun c8 => ?_)
  · have tc8 : ¬ x7.toInt = 0 := tl_ne c8
    refine li_iconst 0 dX12_things_33 (by decide) ?_
    refine li_istore_n [(1, .int 0), (0, .ref (Z.2.2 175))] dX12_things_34 (by decide) rfl ?_
    refine li_iconst 1 dX12_things_35 (by decide) ?_
    refine li_istore_n [(2, .int 1), (1, .int 0), (0, .ref (Z.2.2 175))] dX12_things_36 (by decide) rfl ?_
    have J90 : ∀ (x9 : Int32) (x10 : Int32) (M11 : li_M), li_fs (fun i k => i = 179 ∨ i = 182 ∨ i = 1000 ∨ (i = 175 ∧ k = 10) ∨ (i = 175 ∧ k = 12) ∨ (i = 175 ∧ k = 13) ∨ (i = 175 ∧ k = 14) ∨ (i = 175 ∧ k = 15) ∨ (i = 175 ∧ k = 23) ∨ (i = 175 ∧ k = 4) ∨ (i = 175 ∧ k = 48) ∨ (i = 175 ∧ k = 7)) M0 M11 → li_J M11 → 0 ≤ (x10 : Int32).toInt ∧ (M11.1 175 4).toInt + (x10 : Int32).toInt ≤ 9 ∧ (M11.1 175 4).toInt + (x10 : Int32).toInt ≤ 9 + (M11.1 175 15).toInt ∧ (M11.1 175 7).toInt = 0 → li_cq (M11.1 182) ((M11.1 175 15).toInt) ((x10 : Int32).toInt) → li_T l Z YX12_things d 90 [(2, .int x9), (1, .int x10), (0, .ref (Z.2.2 175))] [] M11 (fun r M' => (∃ x : Int32, r = some (.int x)) ∧ li_fs (fun i k => i = 179 ∨ i = 182 ∨ i = 1000 ∨ (i = 175 ∧ k = 10) ∨ (i = 175 ∧ k = 12) ∨ (i = 175 ∧ k = 13) ∨ (i = 175 ∧ k = 14) ∨ (i = 175 ∧ k = 15) ∨ (i = 175 ∧ k = 23) ∨ (i = 175 ∧ k = 4) ∨ (i = 175 ∧ k = 48) ∨ (i = 175 ∧ k = 7)) M0 M' ∧ li_J M' ∧ (M'.1 175 7).toInt = 0) := by
      intro x9 x10 M11 hf hJ hi Pcq_M11
      have gx9 := tl_rg x9
      have gx10 := tl_rg x10
      have rM11_4 := J_sl4 (M := M11) hJ
      have rM11_7 := J_sl7 (M := M11) hJ
      have rM11_15 := J_sl15 (M := M11) hJ
      refine li_aload_n 2 dX12_things_90 rfl ?_
      refine li_geti (k := 14) (N := 52) (T := TX12) (C0 := RX12) dX12_things_91 (by decide) sh_175 rfl rfl (by decide) li_in12 w_1418 ?_
      refine li_top (fun x12 ex12 => ?_)
      have gx12 : 0 ≤ x12.toInt ∧ x12.toInt ≤ 81 := by rw [ex12]; exact J_sl14 hJ
      have mx12 : x12.toInt = (M11.1 175 14).toInt := tl_slot ex12
      refine li_aload_n 2 dX12_things_94 rfl ?_
      refine li_geti (k := 12) (N := 52) (T := TX12) (C0 := RX12) dX12_things_95 (by decide) sh_175 rfl rfl (by decide) li_in12 w_1416 ?_
      refine li_top (fun x13 ex13 => ?_)
      have gx13 : 0 ≤ x13.toInt ∧ x13.toInt ≤ 80 := by rw [ex13]; exact J_sl12 hJ
      have mx13 : x13.toInt = (M11.1 175 12).toInt := tl_slot ex13
      have J109 : ∀  (M15 : li_M), li_fs (fun i k => i = 179 ∨ i = 182 ∨ i = 1000 ∨ (i = 175 ∧ k = 10) ∨ (i = 175 ∧ k = 12) ∨ (i = 175 ∧ k = 13) ∨ (i = 175 ∧ k = 14) ∨ (i = 175 ∧ k = 15) ∨ (i = 175 ∧ k = 23) ∨ (i = 175 ∧ k = 4) ∨ (i = 175 ∧ k = 48) ∨ (i = 175 ∧ k = 7)) M0 M15 → li_J M15 → (M15.1 175 4).toInt + (x10 : Int32).toInt ≤ 9 ∧ (M15.1 175 4).toInt + (x10 : Int32).toInt ≤ 9 + (M15.1 175 15).toInt ∧ (M15.1 175 7).toInt = 0 → li_cq (M15.1 182) ((M15.1 175 15).toInt) ((x10 : Int32).toInt) → li_T l Z YX12_things d 109 [(2, .int x9), (1, .int x10), (0, .ref (Z.2.2 175))] [] M15 (fun r M' => (∃ x : Int32, r = some (.int x)) ∧ li_fs (fun i k => i = 179 ∨ i = 182 ∨ i = 1000 ∨ (i = 175 ∧ k = 10) ∨ (i = 175 ∧ k = 12) ∨ (i = 175 ∧ k = 13) ∨ (i = 175 ∧ k = 14) ∨ (i = 175 ∧ k = 15) ∨ (i = 175 ∧ k = 23) ∨ (i = 175 ∧ k = 4) ∨ (i = 175 ∧ k = 48) ∨ (i = 175 ∧ k = 7)) M0 M' ∧ li_J M' ∧ (M'.1 175 7).toInt = 0) := by
        intro  M15 hf hJ hi Pcq_M15
        have rM15_4 := J_sl4 (M := M15) hJ
        have rM15_7 := J_sl7 (M := M15) hJ
        have rM15_15 := J_sl15 (M := M15) hJ
        refine li_aload_n 2 dX12_things_109 rfl ?_
        refine li_callV (n := 0) (As := []) dX12_things_110 (k_X12_fineW (d - 1) (by omega)  M15 hJ ) (by omega) (Nat.le_of_ble_eq_true rfl) w_1581 w_1583 w_43 w_112 w_1584 (by decide +kernel) rfl (by decide) sh_175 rfl rfl (Nat.le_of_ble_eq_true rfl) (fun r M17 h18 => ?_)
        obtain ⟨qx16, h18, jM17⟩ := h18
        have hf := li_fs_trans hf h18 (fun i k h => False.elim h)
        have hJ := jM17
        have rM17_4 := J_sl4 (M := M17) hJ
        have rM17_7 := J_sl7 (M := M17) hJ
        have rM17_15 := J_sl15 (M := M17) hJ
        have mM17_4 : (M17.1 175 4).toInt = (M15.1 175 4).toInt := tl_slot (h18.1 175 4 id)
        have mM17_7 : (M17.1 175 7).toInt = (M15.1 175 7).toInt := tl_slot (h18.1 175 7 id)
        have mM17_15 : (M17.1 175 15).toInt = (M15.1 175 15).toInt := tl_slot (h18.1 175 15 id)
        have Pcq_M17 : li_cq (M17.1 182) ((M17.1 175 15).toInt) ((x10 : Int32).toInt) := li_cq_tr (funext fun i => h18.1 182 i id) (fun h9 => by omega) (by omega) Pcq_M15
        rcases qx16 with ⟨rfl, qx16⟩ | ⟨rfl, qx16⟩
        · skip
          refine li_if_ne 123 dX12_things_113 (by decide) (fun c => ?_) (fun c => absurd c (by decide))
          refine li_iconst 0 dX12_things_123 (by decide) ?_
          refine li_istore_n [(3, .int 0), (2, .int x9), (1, .int x10), (0, .ref (Z.2.2 175))] dX12_things_124 (by decide) rfl ?_
          have L125 : ∀ (n : Nat) (x20 : Int32) (M21 : li_M), (40 - (x20 : Int32).toInt).toNat < n → li_fs (fun i k => i = 179 ∨ i = 182 ∨ i = 1000 ∨ (i = 175 ∧ k = 10) ∨ (i = 175 ∧ k = 12) ∨ (i = 175 ∧ k = 13) ∨ (i = 175 ∧ k = 14) ∨ (i = 175 ∧ k = 15) ∨ (i = 175 ∧ k = 23) ∨ (i = 175 ∧ k = 4) ∨ (i = 175 ∧ k = 48) ∨ (i = 175 ∧ k = 7)) M0 M21 → li_J M21 → 0 ≤ (x20 : Int32).toInt ∧ (M21.1 175 15).toInt = -1 ∧ (M21.1 175 4).toInt + (x10 : Int32).toInt ≤ 8 ∧ (M21.1 175 7).toInt = 0 → li_cq (M21.1 182) ((M21.1 175 15).toInt) ((x10 : Int32).toInt) → li_T l Z YX12_things d 125 [(3, .int x20), (2, .int x9), (1, .int x10), (0, .ref (Z.2.2 175))] [] M21 (fun r M' => (∃ x : Int32, r = some (.int x)) ∧ li_fs (fun i k => i = 179 ∨ i = 182 ∨ i = 1000 ∨ (i = 175 ∧ k = 10) ∨ (i = 175 ∧ k = 12) ∨ (i = 175 ∧ k = 13) ∨ (i = 175 ∧ k = 14) ∨ (i = 175 ∧ k = 15) ∨ (i = 175 ∧ k = 23) ∨ (i = 175 ∧ k = 4) ∨ (i = 175 ∧ k = 48) ∨ (i = 175 ∧ k = 7)) M0 M' ∧ li_J M' ∧ (M'.1 175 7).toInt = 0) := by
            intro n
            induction n with
            | zero => intro x20 M21 hn; exact absurd hn (Nat.not_lt_zero _)
            | succ n ih125 =>
              intro x20 M21 hn hf hJ hi Pcq_M21
              have gx20 := tl_rg x20
              have rM21_4 := J_sl4 (M := M21) hJ
              have rM21_7 := J_sl7 (M := M21) hJ
              have rM21_15 := J_sl15 (M := M21) hJ
              refine li_iload_n 0 dX12_things_125 rfl ?_
              refine li_iconst 5 dX12_things_126 (by decide) ?_
              refine li_iload_n 2 dX12_things_127 rfl ?_
              refine li_imul dX12_things_128 ?_
              refine li_top (fun x22 ex22 => ?_)
              have z5 : (5 : Int32).toInt = 5 := rfl
              try (have tx22 : x22.toInt = 5 * (x10 : Int32).toInt := tl_mul ex22 (show -2147483648 ≤ 5 * (x10 : Int32).toInt ∧ 5 * (x10 : Int32).toInt ≤ 2147483647 by omega))
              refine li_icmp_ge 157 dX12_things_129 (by decide) (fun c23 => ?_) (fun c23 => ?_)
              · have tc23 : x22.toInt ≤ x20.toInt := tl_le c23
                refine li_aload_n 3 dX12_things_157 rfl ?_
                refine li_dup dX12_things_158 rfl ?_
                refine li_geti (k := 4) (N := 52) (T := TX12) (C0 := RX12) dX12_things_159 (by decide) sh_175 rfl rfl (by decide) li_in12 w_1408 ?_
                refine li_top (fun x24 ex24 => ?_)
                have gx24 : 0 ≤ x24.toInt ∧ x24.toInt ≤ 8 := by rw [ex24]; exact J_sl4 hJ
                have mx24 : x24.toInt = (M21.1 175 4).toInt := tl_slot ex24
                refine li_iload_n 2 dX12_things_162 rfl ?_
                refine li_iadd dX12_things_163 ?_
                refine li_top (fun x25 ex25 => ?_)
                try (have tx25 : x25.toInt = (x24 : Int32).toInt + (x10 : Int32).toInt := tl_add ex25 (by omega))
                refine li_puti (k := 4) (N := 52) (T := TX12) (C0 := RX12) dX12_things_164 (by decide) sh_175 rfl rfl (by decide) li_in12 tyX12_ok nmX12 rfl rfl rfl rfl w_1408 ?_
                refine li_nm (fun M26 eM26 => ?_)
                have hf := li_fs_ui hf (Or.inr (Or.inr (Or.inr (Or.inr (Or.inr (Or.inr (Or.inr (Or.inr (Or.inr (Or.inl ⟨rfl, rfl⟩)))))))))) eM26
                have hJ := J_pt4 hJ (show 0 ≤ (x25 : Int32).toInt ∧ (x25 : Int32).toInt ≤ 8 by omega) eM26
                have rM26_4 := J_sl4 (M := M26) hJ
                have rM26_7 := J_sl7 (M := M26) hJ
                have rM26_15 := J_sl15 (M := M26) hJ
                have mM26_4 : (M26.1 175 4).toInt = x25.toInt := by rw [eM26, li_ui_at, if_pos rfl, if_pos rfl]
                have mM26_7 : (M26.1 175 7).toInt = (M21.1 175 7).toInt := by rw [eM26, li_ui_at, if_pos rfl, if_neg (by decide)]
                have mM26_15 : (M26.1 175 15).toInt = (M21.1 175 15).toInt := by rw [eM26, li_ui_at, if_pos rfl, if_neg (by decide)]
                have Pcq_M26 : li_cq (M26.1 182) ((M26.1 175 15).toInt) ((x10 : Int32).toInt) := li_cq_tr (li_cell_ui eM26 (by decide)) (fun h9 => by omega) (by omega) Pcq_M21
                refine li_aload_n 3 dX12_things_167 rfl ?_
                refine li_iconst 0 dX12_things_168 (by decide) ?_
                refine li_puti (k := 23) (N := 52) (T := TX12) (C0 := RX12) dX12_things_169 (by decide) sh_175 rfl rfl (by decide) li_in12 tyX12_ok nmX12 rfl rfl rfl rfl w_1427 ?_
                refine li_nm (fun M27 eM27 => ?_)
                have hf := li_fs_ui hf (Or.inr (Or.inr (Or.inr (Or.inr (Or.inr (Or.inr (Or.inr (Or.inr (Or.inl ⟨rfl, rfl⟩))))))))) eM27
                have z0 : (0 : Int32).toInt = 0 := rfl
                have hJ := J_pt23 hJ (show 0 ≤ (0 : Int32).toInt ∧ (0 : Int32).toInt ≤ 12 by omega) eM27
                have rM27_4 := J_sl4 (M := M27) hJ
                have rM27_7 := J_sl7 (M := M27) hJ
                have rM27_15 := J_sl15 (M := M27) hJ
                have mM27_4 : (M27.1 175 4).toInt = (M26.1 175 4).toInt := by rw [eM27, li_ui_at, if_pos rfl, if_neg (by decide)]
                have mM27_7 : (M27.1 175 7).toInt = (M26.1 175 7).toInt := by rw [eM27, li_ui_at, if_pos rfl, if_neg (by decide)]
                have mM27_15 : (M27.1 175 15).toInt = (M26.1 175 15).toInt := by rw [eM27, li_ui_at, if_pos rfl, if_neg (by decide)]
                have Pcq_M27 : li_cq (M27.1 182) ((M27.1 175 15).toInt) ((x10 : Int32).toInt) := li_cq_tr (li_cell_ui eM27 (by decide)) (fun h9 => by omega) (by omega) Pcq_M26
                refine li_aload_n 3 dX12_things_172 rfl ?_
                refine li_dup dX12_things_173 rfl ?_
                refine li_geti (k := 48) (N := 52) (T := TX12) (C0 := RX12) dX12_things_174 (by decide) sh_175 rfl rfl (by decide) li_in12 w_1452 ?_
                refine li_top (fun x28 ex28 => ?_)
                have gx28 := tl_rg x28
                have mx28 : x28.toInt = (M27.1 175 48).toInt := tl_slot ex28
                refine li_iconst 1 dX12_things_177 (by decide) ?_
                refine li_iadd dX12_things_178 ?_
                refine li_top (fun x29 ex29 => ?_)
                have z1 : (1 : Int32).toInt = 1 := rfl
                try (have tx29 : x29.toInt = (x28 : Int32).toInt + (1 : Int32).toInt := tl_add ex29 (by omega))
                refine li_puti (k := 48) (N := 52) (T := TX12) (C0 := RX12) dX12_things_179 (by decide) sh_175 rfl rfl (by decide) li_in12 tyX12_ok nmX12 rfl rfl rfl rfl w_1452 ?_
                refine li_nm (fun M30 eM30 => ?_)
                have hf := li_fs_ui hf (Or.inr (Or.inr (Or.inr (Or.inr (Or.inr (Or.inr (Or.inr (Or.inr (Or.inr (Or.inr (Or.inl ⟨rfl, rfl⟩))))))))))) eM30
                have hJ := hJ.put (k := 48) (by decide) (rg_free rfl) eM30
                have rM30_4 := J_sl4 (M := M30) hJ
                have rM30_7 := J_sl7 (M := M30) hJ
                have rM30_15 := J_sl15 (M := M30) hJ
                have mM30_4 : (M30.1 175 4).toInt = (M27.1 175 4).toInt := by rw [eM30, li_ui_at, if_pos rfl, if_neg (by decide)]
                have mM30_7 : (M30.1 175 7).toInt = (M27.1 175 7).toInt := by rw [eM30, li_ui_at, if_pos rfl, if_neg (by decide)]
                have mM30_15 : (M30.1 175 15).toInt = (M27.1 175 15).toInt := by rw [eM30, li_ui_at, if_pos rfl, if_neg (by decide)]
                have Pcq_M30 : li_cq (M30.1 182) ((M30.1 175 15).toInt) ((x10 : Int32).toInt) := li_cq_tr (li_cell_ui eM30 (by decide)) (fun h9 => by omega) (by omega) Pcq_M27
                refine li_iload_n 2 dX12_things_182 rfl ?_
                exact li_iret dX12_things_183 rfl rfl ⟨⟨_, rfl⟩, hf, hJ, (by omega)⟩
              · have tc23 : x20.toInt < x22.toInt := tl_nle c23
                refine li_aload_n 3 dX12_things_132 rfl ?_
                refine li_getr (k := 5) (N := 52) (T := TX12) (C0 := RX12) dX12_things_133 (by decide) sh_175 rfl rfl (by decide) (by decide) li_in12 w_1409 ?_
                refine li_iconst 5 dX12_things_136 (by decide) ?_
                refine li_aload_n 3 dX12_things_137 rfl ?_
                refine li_geti (k := 4) (N := 52) (T := TX12) (C0 := RX12) dX12_things_138 (by decide) sh_175 rfl rfl (by decide) li_in12 w_1408 ?_
                refine li_top (fun x31 ex31 => ?_)
                have gx31 : 0 ≤ x31.toInt ∧ x31.toInt ≤ 8 := by rw [ex31]; exact J_sl4 hJ
                have mx31 : x31.toInt = (M21.1 175 4).toInt := tl_slot ex31
                refine li_imul dX12_things_141 ?_
                refine li_top (fun x32 ex32 => ?_)
                have z5 : (5 : Int32).toInt = 5 := rfl
                try (have tx32 : x32.toInt = 5 * (x31 : Int32).toInt := tl_mul ex32 (show -2147483648 ≤ 5 * (x31 : Int32).toInt ∧ 5 * (x31 : Int32).toInt ≤ 2147483647 by omega))
                refine li_iload_n 0 dX12_things_142 rfl ?_
                refine li_iadd dX12_things_143 ?_
                refine li_top (fun x33 ex33 => ?_)
                try (have tx33 : x33.toInt = (x32 : Int32).toInt + (x20 : Int32).toInt := tl_add ex33 (by omega))
                refine li_aload_n 3 dX12_things_144 rfl ?_
                refine li_getr (k := 16) (N := 52) (T := TX12) (C0 := RX12) dX12_things_145 (by decide) sh_175 rfl rfl (by decide) (by decide) li_in12 w_1420 ?_
                refine li_iload_n 0 dX12_things_148 rfl ?_
                refine li_iald dX12_things_149 (by decide) sh_182 (tl_in (by omega)) ?_
                refine li_top (fun x34 ex34 => ?_)
                have gx34 := tl_rg x34
                have lx34 := li_cq_ld Pcq_M21 (by omega) ex34 (by omega) (by omega)
                refine li_iast dX12_things_150 (by decide) sh_179 (tl_in (by omega)) ?_
                refine li_nm (fun M35 eM35 => ?_)
                have hf := li_fs_ui hf (Or.inl rfl) eM35
                have hJ := hJ.st (by decide) (li_el_thing (by omega) (show (x33 : Int32).toInt % 5 < 2 → 0 ≤ (x34 : Int32).toInt ∧ (x34 : Int32).toInt ≤ 5 by omega)) eM35
                have rM35_4 := J_sl4 (M := M35) hJ
                have rM35_7 := J_sl7 (M := M35) hJ
                have rM35_15 := J_sl15 (M := M35) hJ
                have mM35_4 : (M35.1 175 4).toInt = (M21.1 175 4).toInt := by rw [eM35, li_ui_at, if_neg (by decide)]
                have mM35_7 : (M35.1 175 7).toInt = (M21.1 175 7).toInt := by rw [eM35, li_ui_at, if_neg (by decide)]
                have mM35_15 : (M35.1 175 15).toInt = (M21.1 175 15).toInt := by rw [eM35, li_ui_at, if_neg (by decide)]
                have Pcq_M35 : li_cq (M35.1 182) ((M35.1 175 15).toInt) ((x10 : Int32).toInt) := li_cq_tr (li_cell_ui eM35 (by decide)) (fun h9 => by omega) (by omega) Pcq_M21
                obtain ⟨x36, ex36⟩ : ∃ y : Int32, y = x20 + 1 := ⟨_, rfl⟩
                have z1 : (1 : Int32).toInt = 1 := rfl
                try (have tx36 : x36.toInt = (x20 : Int32).toInt + (1 : Int32).toInt := tl_add ex36 (by omega))
                refine li_iinc 0 [(3, .int x36), (2, .int x9), (1, .int x10), (0, .ref (Z.2.2 175))] x36 dX12_things_151 rfl (by rw [ex36]; rfl) (by decide) rfl ?_
                refine li_goto 125 dX12_things_154 (by decide) ?_
                refine li_pick [0, 1, 2, 3] [(3, .int x36), (2, .int x9), (1, .int x10), (0, .ref (Z.2.2 175))] rfl ?_
                exact ih125 x36 M35 (by omega) hf hJ (by omega) (by first | exact li_cq_tr rfl (fun h9 => by omega) (by omega) Pcq_M35 | exact li_cq_bad (by omega) | exact li_cq_0 (by omega))
          have z0 : (0 : Int32).toInt = 0 := rfl
          exact L125 _ 0 M17 (Nat.lt_succ_self _) hf hJ (by omega) (by first | exact li_cq_tr rfl (fun h9 => by omega) (by omega) Pcq_M17 | exact li_cq_bad (by omega) | exact li_cq_0 (by omega))
        · skip
          refine li_if_ne 123 dX12_things_113 (by decide) (fun c => absurd rfl c) (fun c => ?_)
          refine li_iconst (-1) dX12_things_116 (by decide) ?_
          refine li_aload_n 2 dX12_things_117 rfl ?_
          refine li_geti (k := 15) (N := 52) (T := TX12) (C0 := RX12) dX12_things_118 (by decide) sh_175 rfl rfl (by decide) li_in12 w_1419 ?_
          refine li_top (fun x38 ex38 => ?_)
          have gx38 : -1 ≤ x38.toInt ∧ x38.toInt ≤ 81 := by rw [ex38]; exact J_sl15 hJ
          have mx38 : x38.toInt = (M17.1 175 15).toInt := tl_slot ex38
          refine li_isub dX12_things_121 ?_
          refine li_top (fun x39 ex39 => ?_)
          have zm1 : ((-1) : Int32).toInt = -1 := rfl
          try (have tx39 : x39.toInt = ((-1) : Int32).toInt - (x38 : Int32).toInt := tl_sub ex39 (by omega))
          exact li_iret dX12_things_122 rfl rfl ⟨⟨_, rfl⟩, hf, hJ, (by omega)⟩
      refine li_icmp_ge 109 dX12_things_98 (by decide) (fun c14 => ?_) (fun c14 => ?_)
      · have tc14 : x13.toInt ≤ x12.toInt := tl_le c14
        refine li_pick [0, 1, 2] [(2, .int x9), (1, .int x10), (0, .ref (Z.2.2 175))] rfl ?_
        exact J109  M11 hf hJ (by omega) (by first | exact li_cq_tr rfl (fun h9 => by omega) (by omega) Pcq_M11 | exact li_cq_bad (by omega) | exact li_cq_0 (by omega))
      · have tc14 : x12.toInt < x13.toInt := tl_nle c14
        refine li_aload_n 2 dX12_things_101 rfl ?_
        refine li_aload_n 2 dX12_things_102 rfl ?_
        refine li_geti (k := 14) (N := 52) (T := TX12) (C0 := RX12) dX12_things_103 (by decide) sh_175 rfl rfl (by decide) li_in12 w_1418 ?_
        refine li_top (fun x40 ex40 => ?_)
        have gx40 : 0 ≤ x40.toInt ∧ x40.toInt ≤ 81 := by rw [ex40]; exact J_sl14 hJ
        have mx40 : x40.toInt = (M11.1 175 14).toInt := tl_slot ex40
        refine li_callV (n := 1) (As := [.int x40]) dX12_things_106 (k_X12_faultW (d - 1) (by omega) x40 M11 hJ (by omega)) (by omega) (Nat.le_of_ble_eq_true rfl) w_1585 w_1587 w_44 w_112 w_1588 (by decide +kernel) rfl (by decide) sh_175 rfl rfl (Nat.le_of_ble_eq_true rfl) (fun r M42 h43 => ?_)
        obtain ⟨rfl, h43, jM42, nM42⟩ := h43
        have hf := li_fs_trans hf h43 (fun i k => fun h => Or.inr (Or.inr (Or.inr (Or.inr (Or.inr (Or.inr (Or.inr (Or.inl h))))))))
        have hJ := jM42
        have rM42_4 := J_sl4 (M := M42) hJ
        have rM42_7 := J_sl7 (M := M42) hJ
        have rM42_15 := J_sl15 (M := M42) hJ
        have mM42_4 : (M42.1 175 4).toInt = (M11.1 175 4).toInt := tl_slot (h43.1 175 4 (show ¬ ((175 = 175 ∧ 4 = 15)) by decide))
        have mM42_7 : (M42.1 175 7).toInt = (M11.1 175 7).toInt := tl_slot (h43.1 175 7 (show ¬ ((175 = 175 ∧ 7 = 15)) by decide))
        have Pcq_M42 : li_cq (M42.1 182) ((M42.1 175 15).toInt) ((x10 : Int32).toInt) := li_cq_tr (funext fun i => h43.1 182 i (show ¬ ((182 = 175 ∧ i = 15)) by omega)) (fun h9 => by omega) (by omega) Pcq_M11
        refine li_pick [0, 1, 2] [(2, .int x9), (1, .int x10), (0, .ref (Z.2.2 175))] rfl ?_
        exact J109  M42 hf hJ (by omega) (by first | exact li_cq_tr rfl (fun h9 => by omega) (by omega) Pcq_M42 | exact li_cq_bad (by omega) | exact li_cq_0 (by omega))
    have L37 : ∀ (n : Nat) (x44 : Int32) (x45 : Int32) (M46 : li_M), (10 - (x45 : Int32).toInt).toNat < n → li_fs (fun i k => i = 179 ∨ i = 182 ∨ i = 1000 ∨ (i = 175 ∧ k = 10) ∨ (i = 175 ∧ k = 12) ∨ (i = 175 ∧ k = 13) ∨ (i = 175 ∧ k = 14) ∨ (i = 175 ∧ k = 15) ∨ (i = 175 ∧ k = 23) ∨ (i = 175 ∧ k = 4) ∨ (i = 175 ∧ k = 48) ∨ (i = 175 ∧ k = 7)) M0 M46 → li_J M46 → 0 ≤ (x45 : Int32).toInt ∧ (M46.1 175 4).toInt + (x45 : Int32).toInt ≤ 9 ∧ (M46.1 175 4).toInt + (x45 : Int32).toInt ≤ 9 + (M46.1 175 15).toInt ∧ (M46.1 175 7).toInt = 0 → li_cq (M46.1 182) ((M46.1 175 15).toInt) ((x45 : Int32).toInt) → li_T l Z YX12_things d 37 [(2, .int x44), (1, .int x45), (0, .ref (Z.2.2 175))] [] M46 (fun r M' => (∃ x : Int32, r = some (.int x)) ∧ li_fs (fun i k => i = 179 ∨ i = 182 ∨ i = 1000 ∨ (i = 175 ∧ k = 10) ∨ (i = 175 ∧ k = 12) ∨ (i = 175 ∧ k = 13) ∨ (i = 175 ∧ k = 14) ∨ (i = 175 ∧ k = 15) ∨ (i = 175 ∧ k = 23) ∨ (i = 175 ∧ k = 4) ∨ (i = 175 ∧ k = 48) ∨ (i = 175 ∧ k = 7)) M0 M' ∧ li_J M' ∧ (M'.1 175 7).toInt = 0) := by
      intro n
      induction n with
      | zero => intro x44 x45 M46 hn; exact absurd hn (Nat.not_lt_zero _)
      | succ n ih37 =>
        intro x44 x45 M46 hn hf hJ hi Pcq_M46
        have gx44 := tl_rg x44
        have gx45 := tl_rg x45
        have rM46_4 := J_sl4 (M := M46) hJ
        have rM46_7 := J_sl7 (M := M46) hJ
        have rM46_15 := J_sl15 (M := M46) hJ
        refine li_iload_n 0 dX12_things_37 rfl ?_
        refine li_if_eq 90 dX12_things_38 (by decide) (fun c47 => ?_) (fun c47 => ?_)
        · have tc47 : x44.toInt = 0 := tl_eq c47
          refine li_pick [0, 1, 2] [(2, .int x44), (1, .int x45), (0, .ref (Z.2.2 175))] rfl ?_
          exact J90 x44 x45 M46 hf hJ (by omega) (by first | exact li_cq_tr rfl (fun h9 => by omega) (by omega) Pcq_M46 | exact li_cq_bad (by omega) | exact li_cq_0 (by omega))
        · have tc47 : ¬ x44.toInt = 0 := tl_ne c47
          refine li_aload_n 2 dX12_things_41 rfl ?_
          refine li_callV (n := 0) (As := []) dX12_things_42 (k_X12_fineW (d - 1) (by omega)  M46 hJ ) (by omega) (Nat.le_of_ble_eq_true rfl) w_1581 w_1583 w_43 w_112 w_1584 (by decide +kernel) rfl (by decide) sh_175 rfl rfl (Nat.le_of_ble_eq_true rfl) (fun r M49 h50 => ?_)
          obtain ⟨qx48, h50, jM49⟩ := h50
          have hf := li_fs_trans hf h50 (fun i k h => False.elim h)
          have hJ := jM49
          have rM49_4 := J_sl4 (M := M49) hJ
          have rM49_7 := J_sl7 (M := M49) hJ
          have rM49_15 := J_sl15 (M := M49) hJ
          have mM49_4 : (M49.1 175 4).toInt = (M46.1 175 4).toInt := tl_slot (h50.1 175 4 id)
          have mM49_7 : (M49.1 175 7).toInt = (M46.1 175 7).toInt := tl_slot (h50.1 175 7 id)
          have mM49_15 : (M49.1 175 15).toInt = (M46.1 175 15).toInt := tl_slot (h50.1 175 15 id)
          have Pcq_M49 : li_cq (M49.1 182) ((M49.1 175 15).toInt) ((x45 : Int32).toInt) := li_cq_tr (funext fun i => h50.1 182 i id) (fun h9 => by omega) (by omega) Pcq_M46
          rcases qx48 with ⟨rfl, qx48⟩ | ⟨rfl, qx48⟩
          · skip
            refine li_if_eq 90 dX12_things_45 (by decide) (fun c => absurd c (by decide)) (fun c => ?_)
            refine li_aload_n 2 dX12_things_48 rfl ?_
            refine li_geti (k := 4) (N := 52) (T := TX12) (C0 := RX12) dX12_things_49 (by decide) sh_175 rfl rfl (by decide) li_in12 w_1408 ?_
            refine li_top (fun x52 ex52 => ?_)
            have gx52 : 0 ≤ x52.toInt ∧ x52.toInt ≤ 8 := by rw [ex52]; exact J_sl4 hJ
            have mx52 : x52.toInt = (M49.1 175 4).toInt := tl_slot ex52
            refine li_iload_n 1 dX12_things_52 rfl ?_
            refine li_iadd dX12_things_53 ?_
            refine li_top (fun x53 ex53 => ?_)
            try (have tx53 : x53.toInt = (x52 : Int32).toInt + (x45 : Int32).toInt := tl_add ex53 (by omega))
            refine li_bipush 8 dX12_things_54 (by decide) ?_
            have J77 : ∀  (M55 : li_M), li_fs (fun i k => i = 179 ∨ i = 182 ∨ i = 1000 ∨ (i = 175 ∧ k = 10) ∨ (i = 175 ∧ k = 12) ∨ (i = 175 ∧ k = 13) ∨ (i = 175 ∧ k = 14) ∨ (i = 175 ∧ k = 15) ∨ (i = 175 ∧ k = 23) ∨ (i = 175 ∧ k = 4) ∨ (i = 175 ∧ k = 48) ∨ (i = 175 ∧ k = 7)) M0 M55 → li_J M55 → (M55.1 175 4).toInt + (x45 : Int32).toInt ≤ 8 ∧ (M55.1 175 4).toInt + (x45 : Int32).toInt ≤ 8 + (M55.1 175 15).toInt ∧ (M55.1 175 7).toInt = 0 → li_cq (M55.1 182) ((M55.1 175 15).toInt) ((x45 : Int32).toInt + 1) → li_T l Z YX12_things d 77 [(2, .int x44), (1, .int x45), (0, .ref (Z.2.2 175))] [] M55 (fun r M' => (∃ x : Int32, r = some (.int x)) ∧ li_fs (fun i k => i = 179 ∨ i = 182 ∨ i = 1000 ∨ (i = 175 ∧ k = 10) ∨ (i = 175 ∧ k = 12) ∨ (i = 175 ∧ k = 13) ∨ (i = 175 ∧ k = 14) ∨ (i = 175 ∧ k = 15) ∨ (i = 175 ∧ k = 23) ∨ (i = 175 ∧ k = 4) ∨ (i = 175 ∧ k = 48) ∨ (i = 175 ∧ k = 7)) M0 M' ∧ li_J M' ∧ (M'.1 175 7).toInt = 0) := by
              intro  M55 hf hJ hi Pcq_M55
              have rM55_4 := J_sl4 (M := M55) hJ
              have rM55_7 := J_sl7 (M := M55) hJ
              have rM55_15 := J_sl15 (M := M55) hJ
              obtain ⟨x56, ex56⟩ : ∃ y : Int32, y = x45 + 1 := ⟨_, rfl⟩
              have z1 : (1 : Int32).toInt = 1 := rfl
              try (have tx56 : x56.toInt = (x45 : Int32).toInt + (1 : Int32).toInt := tl_add ex56 (by omega))
              refine li_iinc 1 [(1, .int x56), (2, .int x44), (0, .ref (Z.2.2 175))] x56 dX12_things_77 rfl (by rw [ex56]; rfl) (by decide) rfl ?_
              refine li_aload_n 2 dX12_things_80 rfl ?_
              refine li_bipush 59 dX12_things_81 (by decide) ?_
              have z59 : (59 : Int32).toInt = 59 := rfl
              refine li_callV (n := 1) (As := [.int 59]) dX12_things_83 (k_X12_passesW (d - 1) (by omega) 59 M55 hJ (by omega)) (by omega) (Nat.le_of_ble_eq_true rfl) w_1605 w_1607 w_49 w_112 w_1608 (by decide +kernel) rfl (by decide) sh_175 rfl rfl (Nat.le_of_ble_eq_true rfl) (fun r M58 h59 => ?_)
              obtain ⟨qx57, h59, jM58⟩ := h59
              have hf := li_fs_trans hf h59 (fun i k => fun h => Or.inr (Or.inr (Or.inr (Or.inr (Or.inr (Or.inr (Or.inl h)))))))
              have hJ := jM58
              have rM58_4 := J_sl4 (M := M58) hJ
              have rM58_7 := J_sl7 (M := M58) hJ
              have rM58_15 := J_sl15 (M := M58) hJ
              have mM58_4 : (M58.1 175 4).toInt = (M55.1 175 4).toInt := tl_slot (h59.1 175 4 (show ¬ ((175 = 175 ∧ 4 = 14)) by decide))
              have mM58_7 : (M58.1 175 7).toInt = (M55.1 175 7).toInt := tl_slot (h59.1 175 7 (show ¬ ((175 = 175 ∧ 7 = 14)) by decide))
              have mM58_15 : (M58.1 175 15).toInt = (M55.1 175 15).toInt := tl_slot (h59.1 175 15 (show ¬ ((175 = 175 ∧ 15 = 14)) by decide))
              have Pcq_M58 : li_cq (M58.1 182) ((M58.1 175 15).toInt) ((x45 : Int32).toInt + 1) := li_cq_tr (funext fun i => h59.1 182 i (show ¬ ((182 = 175 ∧ i = 14)) by omega)) (fun h9 => by omega) (by omega) Pcq_M55
              rcases qx57 with ⟨rfl, qx57⟩ | ⟨rfl, qx57⟩
              · skip
                refine li_istore_n [(2, .int 1), (1, .int x56), (0, .ref (Z.2.2 175))] dX12_things_86 (by decide) rfl ?_
                refine li_goto 37 dX12_things_87 (by decide) ?_
                refine li_pick [0, 1, 2] [(2, .int 1), (1, .int x56), (0, .ref (Z.2.2 175))] rfl ?_
                have z1 : (1 : Int32).toInt = 1 := rfl
                exact ih37 1 x56 M58 (by omega) hf hJ (by omega) (by first | exact li_cq_tr rfl (fun h9 => by omega) (by omega) Pcq_M58 | exact li_cq_bad (by omega) | exact li_cq_0 (by omega))
              · skip
                refine li_istore_n [(2, .int 0), (1, .int x56), (0, .ref (Z.2.2 175))] dX12_things_86 (by decide) rfl ?_
                refine li_goto 37 dX12_things_87 (by decide) ?_
                refine li_pick [0, 1, 2] [(2, .int 0), (1, .int x56), (0, .ref (Z.2.2 175))] rfl ?_
                have z0 : (0 : Int32).toInt = 0 := rfl
                exact ih37 0 x56 M58 (by omega) hf hJ (by omega) (by first | exact li_cq_tr rfl (fun h9 => by omega) (by omega) Pcq_M58 | exact li_cq_bad (by omega) | exact li_cq_0 (by omega))
            refine li_icmp_ne 70 dX12_things_56 (by decide) (fun c54 => ?_) (fun c54 => ?_)
            · have tc54 : ¬ x53.toInt = 8 := tl_ne c54
              refine li_aload_n 2 dX12_things_70 rfl ?_
              refine li_iconst 5 dX12_things_71 (by decide) ?_
              refine li_iload_n 1 dX12_things_72 rfl ?_
              refine li_imul dX12_things_73 ?_
              refine li_top (fun x60 ex60 => ?_)
              have z5 : (5 : Int32).toInt = 5 := rfl
              try (have tx60 : x60.toInt = 5 * (x45 : Int32).toInt := tl_mul ex60 (show -2147483648 ≤ 5 * (x45 : Int32).toInt ∧ 5 * (x45 : Int32).toInt ≤ 2147483647 by omega))
              refine li_callV (n := 1) (As := [.int x60]) dX12_things_74 (k_X12_readThing (d - 1) (by omega) x60 M49 hJ (by omega)) (by omega) (Nat.le_of_ble_eq_true rfl) w_1613 w_1615 w_50 w_112 w_1616 (by decide +kernel) rfl (by decide) sh_175 rfl rfl (Nat.le_of_ble_eq_true rfl) (fun r M62 h63 => ?_)
              obtain ⟨rfl, h63, jM62, nM62⟩ := h63
              have hf := li_fs_trans hf h63 (fun i k => fun h => Or.elim h (fun h => Or.inr (Or.inl h.1)) (fun h => Or.elim h (fun h => Or.inr (Or.inr (Or.inr (Or.inr (Or.inr (Or.inr (Or.inl h))))))) (fun h => Or.inr (Or.inr (Or.inr (Or.inr (Or.inr (Or.inr (Or.inr (Or.inl h))))))))))
              have hJ := jM62
              have rM62_4 := J_sl4 (M := M62) hJ
              have rM62_7 := J_sl7 (M := M62) hJ
              have rM62_15 := J_sl15 (M := M62) hJ
              have mM62_4 : (M62.1 175 4).toInt = (M49.1 175 4).toInt := tl_slot (h63.1 175 4 (show ¬ ((175 = 182 ∧ (x60 : Int32).toInt ≤ ((4 : Nat) : Int) ∧ ((4 : Nat) : Int) < (x60 : Int32).toInt + 5) ∨ (175 = 175 ∧ 4 = 14) ∨ (175 = 175 ∧ 4 = 15)) by omega))
              have mM62_7 : (M62.1 175 7).toInt = (M49.1 175 7).toInt := tl_slot (h63.1 175 7 (show ¬ ((175 = 182 ∧ (x60 : Int32).toInt ≤ ((7 : Nat) : Int) ∧ ((7 : Nat) : Int) < (x60 : Int32).toInt + 5) ∨ (175 = 175 ∧ 7 = 14) ∨ (175 = 175 ∧ 7 = 15)) by omega))
              have Pcq_M62 : li_cq (M62.1 182) ((M62.1 175 15).toInt) ((x45 : Int32).toInt + 1) := li_cq_step h63 (fun i (h9 : (182 = 182 ∧ (x60 : Int32).toInt ≤ ((i : Nat) : Int) ∧ ((i : Nat) : Int) < (x60 : Int32).toInt + 5) ∨ (182 = 175 ∧ i = 14) ∨ (182 = 175 ∧ i = 15)) => by omega) (by omega) (by omega) nM62.2 (fun h9 => by omega) Pcq_M49
              refine li_pick [0, 1, 2] [(2, .int x44), (1, .int x45), (0, .ref (Z.2.2 175))] rfl ?_
              exact J77  M62 hf hJ (by omega) (by first | exact li_cq_tr rfl (fun h9 => by omega) (by omega) Pcq_M62 | exact li_cq_bad (by omega) | exact li_cq_0 (by omega))
            · have tc54 : x53.toInt = 8 := tl_eq c54
              refine li_aload_n 2 dX12_things_59 rfl ?_
              refine li_aload_n 2 dX12_things_60 rfl ?_
              refine li_geti (k := 14) (N := 52) (T := TX12) (C0 := RX12) dX12_things_61 (by decide) sh_175 rfl rfl (by decide) li_in12 w_1418 ?_
              refine li_top (fun x64 ex64 => ?_)
              have gx64 : 0 ≤ x64.toInt ∧ x64.toInt ≤ 81 := by rw [ex64]; exact J_sl14 hJ
              have mx64 : x64.toInt = (M49.1 175 14).toInt := tl_slot ex64
              refine li_callV (n := 1) (As := [.int x64]) dX12_things_64 (k_X12_faultW (d - 1) (by omega) x64 M49 hJ (by omega)) (by omega) (Nat.le_of_ble_eq_true rfl) w_1585 w_1587 w_44 w_112 w_1588 (by decide +kernel) rfl (by decide) sh_175 rfl rfl (Nat.le_of_ble_eq_true rfl) (fun r M66 h67 => ?_)
              obtain ⟨rfl, h67, jM66, nM66⟩ := h67
              have hf := li_fs_trans hf h67 (fun i k => fun h => Or.inr (Or.inr (Or.inr (Or.inr (Or.inr (Or.inr (Or.inr (Or.inl h))))))))
              have hJ := jM66
              have rM66_4 := J_sl4 (M := M66) hJ
              have rM66_7 := J_sl7 (M := M66) hJ
              have rM66_15 := J_sl15 (M := M66) hJ
              have mM66_4 : (M66.1 175 4).toInt = (M49.1 175 4).toInt := tl_slot (h67.1 175 4 (show ¬ ((175 = 175 ∧ 4 = 15)) by decide))
              have mM66_7 : (M66.1 175 7).toInt = (M49.1 175 7).toInt := tl_slot (h67.1 175 7 (show ¬ ((175 = 175 ∧ 7 = 15)) by decide))
              have Pcq_M66 : li_cq (M66.1 182) ((M66.1 175 15).toInt) ((x45 : Int32).toInt) := li_cq_tr (funext fun i => h67.1 182 i (show ¬ ((182 = 175 ∧ i = 15)) by omega)) (fun h9 => by omega) (by omega) Pcq_M49
              refine li_goto 77 dX12_things_67 (by decide) ?_
              refine li_pick [0, 1, 2] [(2, .int x44), (1, .int x45), (0, .ref (Z.2.2 175))] rfl ?_
              exact J77  M66 hf hJ (by omega) (by first | exact li_cq_tr rfl (fun h9 => by omega) (by omega) Pcq_M66 | exact li_cq_bad (by omega) | exact li_cq_0 (by omega))
          · skip
            refine li_if_eq 90 dX12_things_45 (by decide) (fun c => ?_) (fun c => absurd rfl c)
            refine li_pick [0, 1, 2] [(2, .int x44), (1, .int x45), (0, .ref (Z.2.2 175))] rfl ?_
            exact J90 x44 x45 M49 hf hJ (by omega) (by first | exact li_cq_tr rfl (fun h9 => by omega) (by omega) Pcq_M49 | exact li_cq_bad (by omega) | exact li_cq_0 (by omega))
    have z1 : (1 : Int32).toInt = 1 := rfl
    have z0 : (0 : Int32).toInt = 0 := rfl
    exact L37 _ 1 0 M6 (Nat.lt_succ_self _) hf hJ (by omega) (by first | exact li_cq_bad (by omega) | exact li_cq_0 (by omega))
  · have tc8 : x7.toInt = 0 := tl_eq c8
    refine li_iconst 0 dX12_things_31 (by decide) ?_
    have z0 : (0 : Int32).toInt = 0 := rfl
    exact li_iret dX12_things_32 rfl rfl ⟨⟨_, rfl⟩, hf, hJ, (by omega)⟩
set_option maxRecDepth 100000 in
set_option maxHeartbeats 4000000 in
theorem k3_X12_readWording {l : Launch} {Z : li_Z} (d : Nat) (hd : 3 ≤ d) (M0 : li_M) (hJ : li_J M0) : li_Met l Z YX12_readWording d [.ref (Z.2.2 175)] M0 (fun r M' => (∃ x : Int32, r = some (.int x) ∧ (x.toInt < 0 ∨ (x.toInt = 0 ∧ li_tp (M'.1 195) (M'.1 175 40).toInt ∧ 1 ≤ (M'.1 175 40).toInt ∧ (M'.1 175 40).toInt ≤ 14))) ∧ li_fs (fun i k => i = 195 ∨ (i = 175 ∧ k = 40) ∨ (i = 175 ∧ k = 7)) M0 M' ∧ li_J M' ∧ (M'.1 175 7).toInt = 0) := by
  refine li_enter (by decide +kernel) (Nat.le_of_ble_eq_true rfl) ?_
  show li_T l Z YX12_readWording d 0 [(0, .ref (Z.2.2 175))] [] M0 _
  have hf : li_fs (fun i k => i = 195 ∨ (i = 175 ∧ k = 40) ∨ (i = 175 ∧ k = 7)) M0 M0 := li_fs_refl
  have rM0_7 := J_sl7 (M := M0) hJ
  have rM0_40 := J_sl40 (M := M0) hJ
  refine li_aload_n 0 dX12_readWording_0 rfl ?_
  refine li_geti (k := 7) (N := 52) (T := TX12) (C0 := RX12) dX12_readWording_1 (by decide) sh_175 rfl rfl (by decide) li_in12 w_1411 ?_
  refine li_top (fun x1 ex1 => ?_)
  have gx1 : 0 ≤ x1.toInt ∧ x1.toInt ≤ 80 := by rw [ex1]; exact J_sl7 hJ
  have mx1 : x1.toInt = (M0.1 175 7).toInt := tl_slot ex1
  refine li_istore_n [(1, .int x1), (0, .ref (Z.2.2 175))] dX12_readWording_4 (by decide) rfl ?_
  refine li_aload_n 1 dX12_readWording_5 rfl ?_
  refine li_iconst 0 dX12_readWording_6 (by decide) ?_
  refine li_puti (k := 7) (N := 52) (T := TX12) (C0 := RX12) dX12_readWording_7 (by decide) sh_175 rfl rfl (by decide) li_in12 tyX12_ok nmX12 rfl rfl rfl rfl w_1411 ?_
  refine li_nm (fun M2 eM2 => ?_)
  have hf := li_fs_ui hf (Or.inr (Or.inr (⟨rfl, rfl⟩))) eM2
  have z0 : (0 : Int32).toInt = 0 := rfl
  have hJ := J_pt7 hJ (show 0 ≤ (0 : Int32).toInt ∧ (0 : Int32).toInt ≤ 80 by omega) eM2
  have rM2_7 := J_sl7 (M := M2) hJ
  have rM2_40 := J_sl40 (M := M2) hJ
  have mM2_7 : (M2.1 175 7).toInt = 0 := by rw [eM2, li_ui_at, if_pos rfl, if_pos rfl]; rfl
  have mM2_40 : (M2.1 175 40).toInt = (M0.1 175 40).toInt := by rw [eM2, li_ui_at, if_pos rfl, if_neg (by decide)]
  refine li_iconst 0 dX12_readWording_10 (by decide) ?_
  refine li_istore_n [(2, .int 0), (1, .int x1), (0, .ref (Z.2.2 175))] dX12_readWording_11 (by decide) rfl ?_
  have L12 : ∀ (n : Nat) (x3 : Int32) (M4 : li_M), (15 - (x3 : Int32).toInt).toNat < n → li_fs (fun i k => i = 195 ∨ (i = 175 ∧ k = 40) ∨ (i = 175 ∧ k = 7)) M0 M4 → li_J M4 → 0 ≤ (x3 : Int32).toInt ∧ (x3 : Int32).toInt ≤ 14 ∧ (M4.1 175 7).toInt = 0 → li_T l Z YX12_readWording d 12 [(2, .int x3), (1, .int x1), (0, .ref (Z.2.2 175))] [] M4 (fun r M' => (∃ x : Int32, r = some (.int x) ∧ (x.toInt < 0 ∨ (x.toInt = 0 ∧ li_tp (M'.1 195) (M'.1 175 40).toInt ∧ 1 ≤ (M'.1 175 40).toInt ∧ (M'.1 175 40).toInt ≤ 14))) ∧ li_fs (fun i k => i = 195 ∨ (i = 175 ∧ k = 40) ∨ (i = 175 ∧ k = 7)) M0 M' ∧ li_J M' ∧ (M'.1 175 7).toInt = 0) := by
    intro n
    induction n with
    | zero => intro x3 M4 hn; exact absurd hn (Nat.not_lt_zero _)
    | succ n ih12 =>
      intro x3 M4 hn hf hJ hi
      have gx3 := tl_rg x3
      have rM4_7 := J_sl7 (M := M4) hJ
      have rM4_40 := J_sl40 (M := M4) hJ
      refine li_iload_n 0 dX12_readWording_12 rfl ?_
      refine li_iload_n 1 dX12_readWording_13 rfl ?_
      refine li_icmp_ge 49 dX12_readWording_14 (by decide) (fun c5 => ?_) (fun c5 => ?_)
      · have tc5 : x1.toInt ≤ x3.toInt := tl_le c5
        refine li_iload_n 1 dX12_readWording_49 rfl ?_
        refine li_if_ne 55 dX12_readWording_50 (by decide) (fun c6 => ?_) (fun c6 => ?_)
        · have tc6 : ¬ x1.toInt = 0 := tl_ne c6
          refine li_aload_n 2 dX12_readWording_55 rfl ?_
          refine li_iload_n 1 dX12_readWording_56 rfl ?_
          refine li_puti (k := 40) (N := 52) (T := TX12) (C0 := RX12) dX12_readWording_57 (by decide) sh_175 rfl rfl (by decide) li_in12 tyX12_ok nmX12 rfl rfl rfl rfl w_1444 ?_
          refine li_nm (fun M7 eM7 => ?_)
          have hf := li_fs_ui hf (Or.inr (Or.inl ⟨rfl, rfl⟩)) eM7
          have hJ := J_pt40 hJ (show 0 ≤ (x1 : Int32).toInt ∧ (x1 : Int32).toInt ≤ 14 by omega) eM7
          have rM7_7 := J_sl7 (M := M7) hJ
          have rM7_40 := J_sl40 (M := M7) hJ
          have mM7_7 : (M7.1 175 7).toInt = (M4.1 175 7).toInt := by rw [eM7, li_ui_at, if_pos rfl, if_neg (by decide)]
          have mM7_40 : (M7.1 175 40).toInt = x1.toInt := by rw [eM7, li_ui_at, if_pos rfl, if_pos rfl]
          refine li_bipush 15 dX12_readWording_60 (by decide) ?_
          refine li_istore_n [(2, .int 15), (1, .int x1), (0, .ref (Z.2.2 175))] dX12_readWording_62 (by decide) rfl ?_
          refine li_iconst 1 dX12_readWording_63 (by decide) ?_
          refine li_istore_n [(3, .int 1), (2, .int 15), (1, .int x1), (0, .ref (Z.2.2 175))] dX12_readWording_64 (by decide) rfl ?_
          have L65 : ∀ (n : Nat) (x8 : Int32) (M9 : li_M), (16 - (x8 : Int32).toInt).toNat < n → li_fs (fun i k => i = 195 ∨ (i = 175 ∧ k = 40) ∨ (i = 175 ∧ k = 7)) M0 M9 → li_J M9 → 1 ≤ (x8 : Int32).toInt ∧ (x8 : Int32).toInt ≤ (x1 : Int32).toInt + 1 ∧ (M9.1 175 40).toInt = (x1 : Int32).toInt ∧ (M9.1 175 7).toInt = 0 → li_tq (M9.1 195) ((x8 : Int32).toInt) (0) ((x1 : Int32).toInt) → li_T l Z YX12_readWording d 65 [(3, .int x8), (2, .int 15), (1, .int x1), (0, .ref (Z.2.2 175))] [] M9 (fun r M' => (∃ x : Int32, r = some (.int x) ∧ (x.toInt < 0 ∨ (x.toInt = 0 ∧ li_tp (M'.1 195) (M'.1 175 40).toInt ∧ 1 ≤ (M'.1 175 40).toInt ∧ (M'.1 175 40).toInt ≤ 14))) ∧ li_fs (fun i k => i = 195 ∨ (i = 175 ∧ k = 40) ∨ (i = 175 ∧ k = 7)) M0 M' ∧ li_J M' ∧ (M'.1 175 7).toInt = 0) := by
            intro n
            induction n with
            | zero => intro x8 M9 hn; exact absurd hn (Nat.not_lt_zero _)
            | succ n ih65 =>
              intro x8 M9 hn hf hJ hi Ptq_M9
              have gx8 := tl_rg x8
              have rM9_7 := J_sl7 (M := M9) hJ
              have rM9_40 := J_sl40 (M := M9) hJ
              refine li_iload_n 0 dX12_readWording_65 rfl ?_
              refine li_iload_n 2 dX12_readWording_66 rfl ?_
              refine li_icmp_gt 188 dX12_readWording_67 (by decide) (fun c10 => ?_) (fun c10 => ?_)
              · have tc10 : x1.toInt < x8.toInt := tl_lt c10
                refine li_iconst 0 dX12_readWording_188 (by decide) ?_
                have z0 : (0 : Int32).toInt = 0 := rfl
                exact li_iret dX12_readWording_189 rfl rfl ⟨⟨_, rfl, (by first | exact Or.inl (by omega) | exact Or.inr ⟨by omega, li_tp_tr rfl (by omega) (li_tq_end Ptq_M9 (by omega)), by omega, by omega⟩)⟩, hf, hJ, (by omega)⟩
              · have tc10 : x8.toInt ≤ x1.toInt := tl_nlt c10
                refine li_iconst 0 dX12_readWording_70 (by decide) ?_
                refine li_istore [(4, .int 0), (3, .int x8), (2, .int 15), (1, .int x1), (0, .ref (Z.2.2 175))] dX12_readWording_71 (by decide) rfl ?_
                have L73 : ∀ (n : Nat) (x11 : Int32) (M12 : li_M), (15 - (x11 : Int32).toInt).toNat < n → li_fs (fun i k => i = 195 ∨ (i = 175 ∧ k = 40) ∨ (i = 175 ∧ k = 7)) M0 M12 → li_J M12 → 0 ≤ (x11 : Int32).toInt ∧ (x11 : Int32).toInt ≤ 14 ∧ (M12.1 175 40).toInt = (x1 : Int32).toInt ∧ (M12.1 175 7).toInt = 0 → li_tq (M12.1 195) ((x8 : Int32).toInt) ((x11 : Int32).toInt) ((x1 : Int32).toInt) → li_T l Z YX12_readWording d 73 [(4, .int x11), (3, .int x8), (2, .int 15), (1, .int x1), (0, .ref (Z.2.2 175))] [] M12 (fun r M' => (∃ x : Int32, r = some (.int x) ∧ (x.toInt < 0 ∨ (x.toInt = 0 ∧ li_tp (M'.1 195) (M'.1 175 40).toInt ∧ 1 ≤ (M'.1 175 40).toInt ∧ (M'.1 175 40).toInt ≤ 14))) ∧ li_fs (fun i k => i = 195 ∨ (i = 175 ∧ k = 40) ∨ (i = 175 ∧ k = 7)) M0 M' ∧ li_J M' ∧ (M'.1 175 7).toInt = 0) := by
                  intro n
                  induction n with
                  | zero => intro x11 M12 hn; exact absurd hn (Nat.not_lt_zero _)
                  | succ n ih73 =>
                    intro x11 M12 hn hf hJ hi Ptq_M12
                    have gx11 := tl_rg x11
                    have rM12_7 := J_sl7 (M := M12) hJ
                    have rM12_40 := J_sl40 (M := M12) hJ
                    refine li_iload 0 dX12_readWording_73 rfl ?_
                    refine li_iload_n 1 dX12_readWording_75 rfl ?_
                    refine li_iadd dX12_readWording_76 ?_
                    refine li_top (fun x13 ex13 => ?_)
                    try (have tx13 : x13.toInt = (x11 : Int32).toInt + (x8 : Int32).toInt := tl_add ex13 (by omega))
                    refine li_iload_n 3 dX12_readWording_77 rfl ?_
                    refine li_icmp_gt 182 dX12_readWording_78 (by decide) (fun c14 => ?_) (fun c14 => ?_)
                    · have tc14 : x1.toInt < x13.toInt := tl_lt c14
                      obtain ⟨x15, ex15⟩ : ∃ y : Int32, y = x8 + 1 := ⟨_, rfl⟩
                      have z1 : (1 : Int32).toInt = 1 := rfl
                      try (have tx15 : x15.toInt = (x8 : Int32).toInt + (1 : Int32).toInt := tl_add ex15 (by omega))
                      refine li_iinc 1 [(3, .int x15), (4, .int x11), (2, .int 15), (1, .int x1), (0, .ref (Z.2.2 175))] x15 dX12_readWording_182 rfl (by rw [ex15]; rfl) (by decide) rfl ?_
                      refine li_goto 65 dX12_readWording_185 (by decide) ?_
                      refine li_pick [0, 2, 3, 4] [(3, .int x15), (2, .int 15), (1, .int x1), (0, .ref (Z.2.2 175))] rfl ?_
                      exact ih65 x15 M12 (by omega) hf hJ (by omega) (by first | exact li_tq_tr rfl (by omega) (by omega) (by omega) Ptq_M12 | exact li_tq_next Ptq_M12 (by omega) (by omega) (by omega) (by omega) | exact li_tq_0 (by omega) (by omega))
                    · have tc14 : x13.toInt ≤ x1.toInt := tl_nlt c14
                      refine li_iload_n 1 dX12_readWording_81 rfl ?_
                      refine li_iconst 1 dX12_readWording_82 (by decide) ?_
                      have J102 : ∀ (x17 : Int32) (M18 : li_M), li_fs (fun i k => i = 195 ∨ (i = 175 ∧ k = 40) ∨ (i = 175 ∧ k = 7)) M0 M18 → li_J M18 → ((x8 : Int32).toInt = 1 → ¬ (x17 : Int32).toInt = 0) ∧ (M18.1 175 40).toInt = (x1 : Int32).toInt ∧ (M18.1 175 7).toInt = 0 → li_tq (M18.1 195) ((x8 : Int32).toInt) ((x11 : Int32).toInt) ((x1 : Int32).toInt) → li_T l Z YX12_readWording d 102 [(4, .int x11), (3, .int x8), (2, .int 15), (1, .int x1), (0, .ref (Z.2.2 175))] [.int x17] M18 (fun r M' => (∃ x : Int32, r = some (.int x) ∧ (x.toInt < 0 ∨ (x.toInt = 0 ∧ li_tp (M'.1 195) (M'.1 175 40).toInt ∧ 1 ≤ (M'.1 175 40).toInt ∧ (M'.1 175 40).toInt ≤ 14))) ∧ li_fs (fun i k => i = 195 ∨ (i = 175 ∧ k = 40) ∨ (i = 175 ∧ k = 7)) M0 M' ∧ li_J M' ∧ (M'.1 175 7).toInt = 0) := by
                        intro x17 M18 hf hJ hi Ptq_M18
                        have gx17 := tl_rg x17
                        have rM18_7 := J_sl7 (M := M18) hJ
                        have rM18_40 := J_sl40 (M := M18) hJ
                        refine li_istore [(5, .int x17), (4, .int x11), (3, .int x8), (2, .int 15), (1, .int x1), (0, .ref (Z.2.2 175))] dX12_readWording_102 (by decide) rfl ?_
                        refine li_iconst 1 dX12_readWording_104 (by decide) ?_
                        refine li_istore [(6, .int 1), (5, .int x17), (4, .int x11), (3, .int x8), (2, .int 15), (1, .int x1), (0, .ref (Z.2.2 175))] dX12_readWording_105 (by decide) rfl ?_
                        have L107 : ∀ (n : Nat) (x19 : Int32) (x20 : Int32) (M21 : li_M), (15 - (x19 : Int32).toInt).toNat < n → li_fs (fun i k => i = 195 ∨ (i = 175 ∧ k = 40) ∨ (i = 175 ∧ k = 7)) M0 M21 → li_J M21 → 1 ≤ (x19 : Int32).toInt ∧ ((x8 : Int32).toInt = 1 → ¬ (x20 : Int32).toInt = 0) ∧ (M21.1 175 40).toInt = (x1 : Int32).toInt ∧ (M21.1 175 7).toInt = 0 → li_tq (M21.1 195) ((x8 : Int32).toInt) ((x11 : Int32).toInt) ((x1 : Int32).toInt) → li_T l Z YX12_readWording d 107 [(6, .int x19), (5, .int x20), (4, .int x11), (3, .int x8), (2, .int 15), (1, .int x1), (0, .ref (Z.2.2 175))] [] M21 (fun r M' => (∃ x : Int32, r = some (.int x) ∧ (x.toInt < 0 ∨ (x.toInt = 0 ∧ li_tp (M'.1 195) (M'.1 175 40).toInt ∧ 1 ≤ (M'.1 175 40).toInt ∧ (M'.1 175 40).toInt ≤ 14))) ∧ li_fs (fun i k => i = 195 ∨ (i = 175 ∧ k = 40) ∨ (i = 175 ∧ k = 7)) M0 M' ∧ li_J M' ∧ (M'.1 175 7).toInt = 0) := by
                          intro n
                          induction n with
                          | zero => intro x19 x20 M21 hn; exact absurd hn (Nat.not_lt_zero _)
                          | succ n ih107 =>
                            intro x19 x20 M21 hn hf hJ hi Ptq_M21
                            have gx19 := tl_rg x19
                            have gx20 := tl_rg x20
                            have rM21_7 := J_sl7 (M := M21) hJ
                            have rM21_40 := J_sl40 (M := M21) hJ
                            refine li_iload 0 dX12_readWording_107 rfl ?_
                            refine li_iload_n 3 dX12_readWording_109 rfl ?_
                            refine li_icmp_ge 160 dX12_readWording_110 (by decide) (fun c22 => ?_) (fun c22 => ?_)
                            · have tc22 : x8.toInt ≤ x19.toInt := tl_le c22
                              refine li_aload_n 6 dX12_readWording_160 rfl ?_
                              refine li_getr (k := 39) (N := 52) (T := TX12) (C0 := RX12) dX12_readWording_161 (by decide) sh_175 rfl rfl (by decide) (by decide) li_in12 w_1443 ?_
                              refine li_iload_n 4 dX12_readWording_164 rfl ?_
                              refine li_iload 2 dX12_readWording_165 rfl ?_
                              refine li_imul dX12_readWording_167 ?_
                              refine li_top (fun x23 ex23 => ?_)
                              have z15 : (15 : Int32).toInt = 15 := rfl
                              try (have tx23 : x23.toInt = 15 * (x11 : Int32).toInt := tl_mul ex23 (show -2147483648 ≤ 15 * (x11 : Int32).toInt ∧ 15 * (x11 : Int32).toInt ≤ 2147483647 by omega))
                              refine li_iload 2 dX12_readWording_168 rfl ?_
                              refine li_iadd dX12_readWording_170 ?_
                              refine li_top (fun x24 ex24 => ?_)
                              try (have tx24 : x24.toInt = (x23 : Int32).toInt + (x11 : Int32).toInt := tl_add ex24 (by omega))
                              refine li_iload_n 3 dX12_readWording_171 rfl ?_
                              refine li_iadd dX12_readWording_172 ?_
                              refine li_top (fun x25 ex25 => ?_)
                              try (have tx25 : x25.toInt = (x24 : Int32).toInt + (x8 : Int32).toInt := tl_add ex25 (by omega))
                              refine li_iload 1 dX12_readWording_173 rfl ?_
                              refine li_iast dX12_readWording_175 (by decide) sh_195 (tl_in (by omega)) ?_
                              refine li_nm (fun M26 eM26 => ?_)
                              have hf := li_fs_ui hf (Or.inl rfl) eM26
                              have hJ := hJ.st (by decide) (li_el_free (by unfold li_led; omega) (by decide) (by decide) (by unfold li_rq; omega)) eM26
                              have rM26_7 := J_sl7 (M := M26) hJ
                              have rM26_40 := J_sl40 (M := M26) hJ
                              have mM26_7 : (M26.1 175 7).toInt = (M21.1 175 7).toInt := by rw [eM26, li_ui_at, if_neg (by decide)]
                              have mM26_40 : (M26.1 175 40).toInt = (M21.1 175 40).toInt := by rw [eM26, li_ui_at, if_neg (by decide)]
                              have Ptq_M26 : li_tq (M26.1 195) ((x8 : Int32).toInt) ((x11 : Int32).toInt + 1) ((x1 : Int32).toInt) := li_tq_st eM26 (by omega) (by omega) (by omega) (fun h9 => by omega) Ptq_M21
                              obtain ⟨x27, ex27⟩ : ∃ y : Int32, y = x11 + 1 := ⟨_, rfl⟩
                              have z1 : (1 : Int32).toInt = 1 := rfl
                              try (have tx27 : x27.toInt = (x11 : Int32).toInt + (1 : Int32).toInt := tl_add ex27 (by omega))
                              refine li_iinc 2 [(4, .int x27), (6, .int x19), (5, .int x20), (3, .int x8), (2, .int 15), (1, .int x1), (0, .ref (Z.2.2 175))] x27 dX12_readWording_176 rfl (by rw [ex27]; rfl) (by decide) rfl ?_
                              refine li_goto 73 dX12_readWording_179 (by decide) ?_
                              refine li_pick [0, 3, 4, 5, 6] [(4, .int x27), (3, .int x8), (2, .int 15), (1, .int x1), (0, .ref (Z.2.2 175))] rfl ?_
                              exact ih73 x27 M26 (by omega) hf hJ (by omega) (by first | exact li_tq_tr rfl (by omega) (by omega) (by omega) Ptq_M26 | exact li_tq_next Ptq_M26 (by omega) (by omega) (by omega) (by omega) | exact li_tq_0 (by omega) (by omega))
                            · have tc22 : x19.toInt < x8.toInt := tl_nle c22
                              refine li_iload 1 dX12_readWording_113 rfl ?_
                              refine li_aload_n 6 dX12_readWording_115 rfl ?_
                              refine li_aload_n 6 dX12_readWording_116 rfl ?_
                              refine li_getr (k := 39) (N := 52) (T := TX12) (C0 := RX12) dX12_readWording_117 (by decide) sh_175 rfl rfl (by decide) (by decide) li_in12 w_1443 ?_
                              refine li_iload_n 4 dX12_readWording_120 rfl ?_
                              refine li_iload 2 dX12_readWording_121 rfl ?_
                              refine li_imul dX12_readWording_123 ?_
                              refine li_top (fun x28 ex28 => ?_)
                              have z15 : (15 : Int32).toInt = 15 := rfl
                              try (have tx28 : x28.toInt = 15 * (x11 : Int32).toInt := tl_mul ex28 (show -2147483648 ≤ 15 * (x11 : Int32).toInt ∧ 15 * (x11 : Int32).toInt ≤ 2147483647 by omega))
                              refine li_iload 2 dX12_readWording_124 rfl ?_
                              refine li_iadd dX12_readWording_126 ?_
                              refine li_top (fun x29 ex29 => ?_)
                              try (have tx29 : x29.toInt = (x28 : Int32).toInt + (x11 : Int32).toInt := tl_add ex29 (by omega))
                              refine li_iload 0 dX12_readWording_127 rfl ?_
                              refine li_iadd dX12_readWording_129 ?_
                              refine li_top (fun x30 ex30 => ?_)
                              try (have tx30 : x30.toInt = (x29 : Int32).toInt + (x19 : Int32).toInt := tl_add ex30 (by omega))
                              refine li_iald dX12_readWording_130 (by decide) sh_195 (tl_in (by omega)) ?_
                              refine li_top (fun x31 ex31 => ?_)
                              have gx31 := tl_rg x31
                              refine li_aload_n 6 dX12_readWording_131 rfl ?_
                              refine li_getr (k := 39) (N := 52) (T := TX12) (C0 := RX12) dX12_readWording_132 (by decide) sh_175 rfl rfl (by decide) (by decide) li_in12 w_1443 ?_
                              refine li_iload_n 4 dX12_readWording_135 rfl ?_
                              refine li_iload 2 dX12_readWording_136 rfl ?_
                              refine li_iload 0 dX12_readWording_138 rfl ?_
                              refine li_iadd dX12_readWording_140 ?_
                              refine li_top (fun x32 ex32 => ?_)
                              try (have tx32 : x32.toInt = (x11 : Int32).toInt + (x19 : Int32).toInt := tl_add ex32 (by omega))
                              refine li_imul dX12_readWording_141 ?_
                              refine li_top (fun x33 ex33 => ?_)
                              have z15 : (15 : Int32).toInt = 15 := rfl
                              try (have tx33 : x33.toInt = 15 * (x32 : Int32).toInt := tl_mul ex33 (show -2147483648 ≤ 15 * (x32 : Int32).toInt ∧ 15 * (x32 : Int32).toInt ≤ 2147483647 by omega))
                              refine li_iload 2 dX12_readWording_142 rfl ?_
                              refine li_iadd dX12_readWording_144 ?_
                              refine li_top (fun x34 ex34 => ?_)
                              try (have tx34 : x34.toInt = (x33 : Int32).toInt + (x11 : Int32).toInt := tl_add ex34 (by omega))
                              refine li_iload_n 3 dX12_readWording_145 rfl ?_
                              refine li_iadd dX12_readWording_146 ?_
                              refine li_top (fun x35 ex35 => ?_)
                              try (have tx35 : x35.toInt = (x34 : Int32).toInt + (x8 : Int32).toInt := tl_add ex35 (by omega))
                              refine li_iald dX12_readWording_147 (by decide) sh_195 (tl_in (by omega)) ?_
                              refine li_top (fun x36 ex36 => ?_)
                              have gx36 := tl_rg x36
                              refine li_callV (n := 2) (As := [.int x31, .int x36]) dX12_readWording_148 (k_X12_joined (d - 1) (by omega) x31 x36 M21 hJ ) (by omega) (Nat.le_of_ble_eq_true rfl) w_1910 w_1912 w_94 w_112 w_1913 (by decide +kernel) rfl (by decide) sh_175 rfl rfl (Nat.le_of_ble_eq_true rfl) (fun r M38 h39 => ?_)
                              obtain ⟨⟨x37, rfl⟩, h39, jM38⟩ := h39
                              have gx37 := tl_rg x37
                              have hf := li_fs_trans hf h39 (fun i k h => False.elim h)
                              have hJ := jM38
                              have rM38_7 := J_sl7 (M := M38) hJ
                              have rM38_40 := J_sl40 (M := M38) hJ
                              have mM38_7 : (M38.1 175 7).toInt = (M21.1 175 7).toInt := tl_slot (h39.1 175 7 id)
                              have mM38_40 : (M38.1 175 40).toInt = (M21.1 175 40).toInt := tl_slot (h39.1 175 40 id)
                              have Ptq_M38 : li_tq (M38.1 195) ((x8 : Int32).toInt) ((x11 : Int32).toInt) ((x1 : Int32).toInt) := li_tq_tr (funext fun i => h39.1 195 i id) (by omega) (by omega) (by omega) Ptq_M21
                              refine li_ior dX12_readWording_151 ?_
                              refine li_top (fun x40 ex40 => ?_)
                              try (have tx40 := tl_or255 ex40 (by omega) (by omega))
                              refine li_istore [(5, .int x40), (6, .int x19), (4, .int x11), (3, .int x8), (2, .int 15), (1, .int x1), (0, .ref (Z.2.2 175))] dX12_readWording_152 (by decide) rfl ?_
                              obtain ⟨x41, ex41⟩ : ∃ y : Int32, y = x19 + 1 := ⟨_, rfl⟩
                              have z1 : (1 : Int32).toInt = 1 := rfl
                              try (have tx41 : x41.toInt = (x19 : Int32).toInt + (1 : Int32).toInt := tl_add ex41 (by omega))
                              refine li_iinc 1 [(6, .int x41), (5, .int x40), (4, .int x11), (3, .int x8), (2, .int 15), (1, .int x1), (0, .ref (Z.2.2 175))] x41 dX12_readWording_154 rfl (by rw [ex41]; rfl) (by decide) rfl ?_
                              refine li_goto 107 dX12_readWording_157 (by decide) ?_
                              refine li_pick [0, 1, 2, 3, 4, 5, 6] [(6, .int x41), (5, .int x40), (4, .int x11), (3, .int x8), (2, .int 15), (1, .int x1), (0, .ref (Z.2.2 175))] rfl ?_
                              exact ih107 x41 x40 M38 (by omega) hf hJ (by omega) (by first | exact li_tq_tr rfl (by omega) (by omega) (by omega) Ptq_M38 | exact li_tq_next Ptq_M38 (by omega) (by omega) (by omega) (by omega) | exact li_tq_0 (by omega) (by omega))
                        have z1 : (1 : Int32).toInt = 1 := rfl
                        exact L107 _ 1 x17 M18 (Nat.lt_succ_self _) hf hJ (by omega) (by first | exact li_tq_tr rfl (by omega) (by omega) (by omega) Ptq_M18 | exact li_tq_next Ptq_M18 (by omega) (by omega) (by omega) (by omega) | exact li_tq_0 (by omega) (by omega))
                      refine li_icmp_ne 101 dX12_readWording_83 (by decide) (fun c16 => ?_) (fun c16 => ?_)
                      · have tc16 : ¬ x8.toInt = 1 := tl_ne c16
                        refine li_iconst 0 dX12_readWording_101 (by decide) ?_
                        refine li_pick [0, 1, 2, 3, 4] [(4, .int x11), (3, .int x8), (2, .int 15), (1, .int x1), (0, .ref (Z.2.2 175))] rfl ?_
                        have z0 : (0 : Int32).toInt = 0 := rfl
                        exact J102 0 M12 hf hJ (by omega) (by first | exact li_tq_tr rfl (by omega) (by omega) (by omega) Ptq_M12 | exact li_tq_next Ptq_M12 (by omega) (by omega) (by omega) (by omega) | exact li_tq_0 (by omega) (by omega))
                      · have tc16 : x8.toInt = 1 := tl_eq c16
                        refine li_iconst 1 dX12_readWording_86 (by decide) ?_
                        refine li_aload_n 4 dX12_readWording_87 rfl ?_
                        refine li_getr (k := 6) (N := 52) (T := TX12) (C0 := RX12) dX12_readWording_88 (by decide) sh_175 rfl rfl (by decide) (by decide) li_in12 w_1410 ?_
                        refine li_iload 0 dX12_readWording_91 rfl ?_
                        refine li_bald dX12_readWording_93 (by decide) sh_180 (tl_in (by omega)) ?_
                        refine li_top (fun x42 ex42 => ?_)
                        have gx42 := tl_rg x42
                        refine li_bipush 97 dX12_readWording_94 (by decide) ?_
                        refine li_isub dX12_readWording_96 ?_
                        refine li_top (fun x43 ex43 => ?_)
                        have z97 : (97 : Int32).toInt = 97 := rfl
                        try (have tx43 : x43.toInt = (x42 : Int32).toInt - (97 : Int32).toInt := tl_sub ex43 (by omega))
                        refine li_ishl dX12_readWording_97 ?_
                        refine li_top (fun x44 ex44 => ?_)
                        have z1 : (1 : Int32).toInt = 1 := rfl
                        have nx44 := tl_shlnz ex44
                        try (have tx44 := tl_shl255 ex44 (by omega))
                        refine li_goto 102 dX12_readWording_98 (by decide) ?_
                        refine li_pick [0, 1, 2, 3, 4] [(4, .int x11), (3, .int x8), (2, .int 15), (1, .int x1), (0, .ref (Z.2.2 175))] rfl ?_
                        exact J102 x44 M12 hf hJ (by omega) (by first | exact li_tq_tr rfl (by omega) (by omega) (by omega) Ptq_M12 | exact li_tq_next Ptq_M12 (by omega) (by omega) (by omega) (by omega) | exact li_tq_0 (by omega) (by omega))
                have z0 : (0 : Int32).toInt = 0 := rfl
                exact L73 _ 0 M9 (Nat.lt_succ_self _) hf hJ (by omega) (by first | exact li_tq_tr rfl (by omega) (by omega) (by omega) Ptq_M9 | exact li_tq_next Ptq_M9 (by omega) (by omega) (by omega) (by omega) | exact li_tq_0 (by omega) (by omega))
          have z1 : (1 : Int32).toInt = 1 := rfl
          exact L65 _ 1 M7 (Nat.lt_succ_self _) hf hJ (by omega) (by first | exact li_tq_next Ptq_M7 (by omega) (by omega) (by omega) (by omega) | exact li_tq_0 (by omega) (by omega))
        · have tc6 : x1.toInt = 0 := tl_eq c6
          refine li_iconst (-1) dX12_readWording_53 (by decide) ?_
          have zm1 : ((-1) : Int32).toInt = -1 := rfl
          exact li_iret dX12_readWording_54 rfl rfl ⟨⟨_, rfl, (by first | exact Or.inl (by omega) | exact Or.inr ⟨by omega, li_tp_tr rfl (by omega) (li_tq_end Ptq_M4 (by omega)), by omega, by omega⟩)⟩, hf, hJ, (by omega)⟩
      · have tc5 : x3.toInt < x1.toInt := tl_nle c5
        refine li_iload_n 0 dX12_readWording_17 rfl ?_
        refine li_bipush 14 dX12_readWording_18 (by decide) ?_
        refine li_icmp_eq 39 dX12_readWording_20 (by decide) (fun c45 => ?_) (fun c45 => ?_)
        · have tc45 : x3.toInt = 14 := tl_eq c45
          refine li_iconst (-1) dX12_readWording_39 (by decide) ?_
          refine li_iload_n 0 dX12_readWording_40 rfl ?_
          refine li_isub dX12_readWording_41 ?_
          refine li_top (fun x46 ex46 => ?_)
          have zm1 : ((-1) : Int32).toInt = -1 := rfl
          try (have tx46 : x46.toInt = ((-1) : Int32).toInt - (x3 : Int32).toInt := tl_sub ex46 (by omega))
          exact li_iret dX12_readWording_42 rfl rfl ⟨⟨_, rfl, (by first | exact Or.inl (by omega) | exact Or.inr ⟨by omega, li_tp_tr rfl (by omega) (li_tq_end Ptq_M4 (by omega)), by omega, by omega⟩)⟩, hf, hJ, (by omega)⟩
        · have tc45 : ¬ x3.toInt = 14 := tl_ne c45
          refine li_aload_n 2 dX12_readWording_23 rfl ?_
          refine li_getr (k := 6) (N := 52) (T := TX12) (C0 := RX12) dX12_readWording_24 (by decide) sh_175 rfl rfl (by decide) (by decide) li_in12 w_1410 ?_
          refine li_iload_n 0 dX12_readWording_27 rfl ?_
          refine li_bald dX12_readWording_28 (by decide) sh_180 (tl_in (by omega)) ?_
          refine li_top (fun x47 ex47 => ?_)
          have gx47 := tl_rg x47
          refine li_bipush 97 dX12_readWording_29 (by decide) ?_
          refine li_bipush 103 dX12_readWording_31 (by decide) ?_
          have z97 : (97 : Int32).toInt = 97 := rfl
          have z103 : (103 : Int32).toInt = 103 := rfl
          refine li_callS (n := 3) (As := [.int x47, .int 97, .int 103]) dX12_readWording_33 (k_X12_in (d - 1) (by omega) x47 97 103 M4 hJ ) (by omega) (Nat.le_of_ble_eq_true rfl) w_1570 w_1571 w_112 w_1572 (by decide +kernel) rfl rfl (Nat.le_of_ble_eq_true rfl) (fun r M49 h50 => ?_)
          obtain ⟨qx48, h50, jM49⟩ := h50
          have hf := li_fs_trans hf h50 (fun i k h => False.elim h)
          have hJ := jM49
          have rM49_7 := J_sl7 (M := M49) hJ
          have rM49_40 := J_sl40 (M := M49) hJ
          have mM49_7 : (M49.1 175 7).toInt = (M4.1 175 7).toInt := tl_slot (h50.1 175 7 id)
          have mM49_40 : (M49.1 175 40).toInt = (M4.1 175 40).toInt := tl_slot (h50.1 175 40 id)
          rcases qx48 with ⟨rfl, qx48⟩ | ⟨rfl, qx48⟩
          · skip
            refine li_if_ne 43 dX12_readWording_36 (by decide) (fun c => ?_) (fun c => absurd c (by decide))
            obtain ⟨x52, ex52⟩ : ∃ y : Int32, y = x3 + 1 := ⟨_, rfl⟩
            have z1 : (1 : Int32).toInt = 1 := rfl
            try (have tx52 : x52.toInt = (x3 : Int32).toInt + (1 : Int32).toInt := tl_add ex52 (by omega))
            refine li_iinc 0 [(2, .int x52), (1, .int x1), (0, .ref (Z.2.2 175))] x52 dX12_readWording_43 rfl (by rw [ex52]; rfl) (by decide) rfl ?_
            refine li_goto 12 dX12_readWording_46 (by decide) ?_
            refine li_pick [0, 1, 2] [(2, .int x52), (1, .int x1), (0, .ref (Z.2.2 175))] rfl ?_
            exact ih12 x52 M49 (by omega) hf hJ (by omega)
          · skip
            refine li_if_ne 43 dX12_readWording_36 (by decide) (fun c => absurd rfl c) (fun c => ?_)
            refine li_iconst (-1) dX12_readWording_39 (by decide) ?_
            refine li_iload_n 0 dX12_readWording_40 rfl ?_
            refine li_isub dX12_readWording_41 ?_
            refine li_top (fun x54 ex54 => ?_)
            have zm1 : ((-1) : Int32).toInt = -1 := rfl
            try (have tx54 : x54.toInt = ((-1) : Int32).toInt - (x3 : Int32).toInt := tl_sub ex54 (by omega))
            exact li_iret dX12_readWording_42 rfl rfl ⟨⟨_, rfl, (by first | exact Or.inl (by omega) | exact Or.inr ⟨by omega, li_tp_tr rfl (by omega) (li_tq_end Ptq_M49 (by omega)), by omega, by omega⟩)⟩, hf, hJ, (by omega)⟩
  have z0 : (0 : Int32).toInt = 0 := rfl
  exact L12 _ 0 M2 (Nat.lt_succ_self _) hf hJ (by omega)
set_option maxRecDepth 100000 in
set_option maxHeartbeats 4000000 in
theorem k3_X12_becomes {l : Launch} {Z : li_Z} (d : Nat) (hd : 4 ≤ d) (M0 : li_M) (hJ : li_J M0) : li_Met l Z YX12_becomes d [.ref (Z.2.2 175)] M0 (fun r M' => (∃ x : Int32, r = some (.int x)) ∧ li_fs (fun i k => i = 195 ∨ (i = 175 ∧ k = 10) ∨ (i = 175 ∧ k = 40) ∨ (i = 175 ∧ k = 7)) M0 M' ∧ li_J M' ∧ (M'.1 175 7).toInt = 0) := by
  refine li_enter (by decide +kernel) (Nat.le_of_ble_eq_true rfl) ?_
  show li_T l Z YX12_becomes d 0 [(0, .ref (Z.2.2 175))] [] M0 _
  have hf : li_fs (fun i k => i = 195 ∨ (i = 175 ∧ k = 10) ∨ (i = 175 ∧ k = 40) ∨ (i = 175 ∧ k = 7)) M0 M0 := li_fs_refl
  have rM0_7 := J_sl7 (M := M0) hJ
  have rM0_40 := J_sl40 (M := M0) hJ
  refine li_aload_n 0 dX12_becomes_0 rfl ?_
  refine li_iconst 0 dX12_becomes_1 (by decide) ?_
  refine li_puti (k := 10) (N := 52) (T := TX12) (C0 := RX12) dX12_becomes_2 (by decide) sh_175 rfl rfl (by decide) li_in12 tyX12_ok nmX12 rfl rfl rfl rfl w_1414 ?_
  refine li_nm (fun M1 eM1 => ?_)
  have hf := li_fs_ui hf (Or.inr (Or.inl ⟨rfl, rfl⟩)) eM1
  have z0 : (0 : Int32).toInt = 0 := rfl
  have hJ := hJ.put (k := 10) (by decide) (rg_free rfl) eM1
  have rM1_7 := J_sl7 (M := M1) hJ
  have rM1_40 := J_sl40 (M := M1) hJ
  have mM1_7 : (M1.1 175 7).toInt = (M0.1 175 7).toInt := by rw [eM1, li_ui_at, if_pos rfl, if_neg (by decide)]
  have mM1_40 : (M1.1 175 40).toInt = (M0.1 175 40).toInt := by rw [eM1, li_ui_at, if_pos rfl, if_neg (by decide)]
  refine li_aload_n 0 dX12_becomes_5 rfl ?_
  refine li_callV (n := 0) (As := []) dX12_becomes_6 (k3_X12_readWording (d - 1) (by omega)  M1 hJ ) (by omega) (Nat.le_of_ble_eq_true rfl) w_1906 w_1908 w_93 w_112 w_1909 (by decide +kernel) rfl (by decide) sh_175 rfl rfl (Nat.le_of_ble_eq_true rfl) (fun r M3 h4 => ?_)
  obtain ⟨⟨x2, rfl, qx2⟩, h4, jM3, nM3⟩ := h4
  have gx2 := tl_rg x2
  have hf := li_fs_trans hf h4 (fun i k => fun h => Or.elim h (fun h => Or.inl h) (fun h => Or.elim h (fun h => Or.inr (Or.inr (Or.inl h))) (fun h => Or.inr (Or.inr (Or.inr h)))))
  have hJ := jM3
  have rM3_7 := J_sl7 (M := M3) hJ
  have rM3_40 := J_sl40 (M := M3) hJ
  refine li_istore_n [(1, .int x2), (0, .ref (Z.2.2 175))] dX12_becomes_9 (by decide) rfl ?_
  refine li_iload_n 0 dX12_becomes_10 rfl ?_
  refine li_if_ge 18 dX12_becomes_11 (by decide) (fun c5 => ?_) (fun c5 => ?_)
  · have tc5 : 0 ≤ x2.toInt := tl_le c5
    refine li_aload_n 1 dX12_becomes_18 rfl ?_
    refine li_getr (k := 39) (N := 52) (T := TX12) (C0 := RX12) dX12_becomes_19 (by decide) sh_175 rfl rfl (by decide) (by decide) li_in12 w_1443 ?_
    refine li_aload_n 1 dX12_becomes_22 rfl ?_
    refine li_geti (k := 40) (N := 52) (T := TX12) (C0 := RX12) dX12_becomes_23 (by decide) sh_175 rfl rfl (by decide) li_in12 w_1444 ?_
    refine li_top (fun x6 ex6 => ?_)
    have gx6 : 0 ≤ x6.toInt ∧ x6.toInt ≤ 14 := by rw [ex6]; exact J_sl40 hJ
    have mx6 : x6.toInt = (M3.1 175 40).toInt := tl_slot ex6
    refine li_iald dX12_becomes_26 (by decide) sh_195 (tl_in (by omega)) ?_
    refine li_top (fun x7 ex7 => ?_)
    have gx7 := tl_rg x7
    exact li_iret dX12_becomes_27 rfl rfl ⟨⟨_, rfl⟩, hf, hJ, (by omega)⟩
  · have tc5 : x2.toInt < 0 := tl_nle c5
    refine li_iload_n 0 dX12_becomes_14 rfl ?_
    refine li_goto 27 dX12_becomes_15 (by decide) ?_
    exact li_iret dX12_becomes_27 rfl rfl ⟨⟨_, rfl⟩, hf, hJ, (by omega)⟩
set_option maxRecDepth 100000 in
set_option maxHeartbeats 4000000 in
theorem k3_X12_shorter {l : Launch} {Z : li_Z} (d : Nat) (hd : 4 ≤ d) (M0 : li_M) (hJ : li_J M0) : li_Met l Z YX12_shorter d [.ref (Z.2.2 175)] M0 (fun r M' => (∃ x : Int32, r = some (.int x)) ∧ li_fs (fun i k => i = 181 ∨ i = 195 ∨ i = 196 ∨ (i = 175 ∧ k = 10) ∨ (i = 175 ∧ k = 40) ∨ (i = 175 ∧ k = 7) ∨ (i = 175 ∧ k = 9)) M0 M' ∧ li_J M' ∧ (M'.1 175 7).toInt = 0) := by
  refine li_enter (by decide +kernel) (Nat.le_of_ble_eq_true rfl) ?_
  show li_T l Z YX12_shorter d 0 [(0, .ref (Z.2.2 175))] [] M0 _
  have hf : li_fs (fun i k => i = 181 ∨ i = 195 ∨ i = 196 ∨ (i = 175 ∧ k = 10) ∨ (i = 175 ∧ k = 40) ∨ (i = 175 ∧ k = 7) ∨ (i = 175 ∧ k = 9)) M0 M0 := li_fs_refl
  have rM0_7 := J_sl7 (M := M0) hJ
  have rM0_9 := J_sl9 (M := M0) hJ
  have rM0_40 := J_sl40 (M := M0) hJ
  refine li_aload_n 0 dX12_shorter_0 rfl ?_
  refine li_iconst 0 dX12_shorter_1 (by decide) ?_
  refine li_puti (k := 10) (N := 52) (T := TX12) (C0 := RX12) dX12_shorter_2 (by decide) sh_175 rfl rfl (by decide) li_in12 tyX12_ok nmX12 rfl rfl rfl rfl w_1414 ?_
  refine li_nm (fun M1 eM1 => ?_)
  have hf := li_fs_ui hf (Or.inr (Or.inr (Or.inr (Or.inl ⟨rfl, rfl⟩)))) eM1
  have z0 : (0 : Int32).toInt = 0 := rfl
  have hJ := hJ.put (k := 10) (by decide) (rg_free rfl) eM1
  have rM1_7 := J_sl7 (M := M1) hJ
  have rM1_9 := J_sl9 (M := M1) hJ
  have rM1_40 := J_sl40 (M := M1) hJ
  have mM1_7 : (M1.1 175 7).toInt = (M0.1 175 7).toInt := by rw [eM1, li_ui_at, if_pos rfl, if_neg (by decide)]
  have mM1_9 : (M1.1 175 9).toInt = (M0.1 175 9).toInt := by rw [eM1, li_ui_at, if_pos rfl, if_neg (by decide)]
  have mM1_40 : (M1.1 175 40).toInt = (M0.1 175 40).toInt := by rw [eM1, li_ui_at, if_pos rfl, if_neg (by decide)]
  refine li_aload_n 0 dX12_shorter_5 rfl ?_
  refine li_callV (n := 0) (As := []) dX12_shorter_6 (k3_X12_readWording (d - 1) (by omega)  M1 hJ ) (by omega) (Nat.le_of_ble_eq_true rfl) w_1906 w_1908 w_93 w_112 w_1909 (by decide +kernel) rfl (by decide) sh_175 rfl rfl (Nat.le_of_ble_eq_true rfl) (fun r M3 h4 => ?_)
  obtain ⟨⟨x2, rfl, qx2⟩, h4, jM3, nM3⟩ := h4
  have gx2 := tl_rg x2
  have hf := li_fs_trans hf h4 (fun i k => fun h => Or.elim h (fun h => Or.inr (Or.inl h)) (fun h => Or.elim h (fun h => Or.inr (Or.inr (Or.inr (Or.inr (Or.inl h))))) (fun h => Or.inr (Or.inr (Or.inr (Or.inr (Or.inr (Or.inl h))))))))
  have hJ := jM3
  have rM3_7 := J_sl7 (M := M3) hJ
  have rM3_9 := J_sl9 (M := M3) hJ
  have rM3_40 := J_sl40 (M := M3) hJ
  have mM3_9 : (M3.1 175 9).toInt = (M1.1 175 9).toInt := tl_slot (h4.1 175 9 (show ¬ (175 = 195 ∨ (175 = 175 ∧ 9 = 40) ∨ (175 = 175 ∧ 9 = 7)) by decide))
  have Ptpg_M3 : li_tpg (M3.1 195) ((M3.1 175 40).toInt) (x2.toInt) := (fun h9 => by rcases qx2 with q | q; exact absurd h9 (by omega); exact q.2.1)
  refine li_istore_n [(1, .int x2), (0, .ref (Z.2.2 175))] dX12_shorter_9 (by decide) rfl ?_
  refine li_iload_n 0 dX12_shorter_10 rfl ?_
  refine li_if_ge 16 dX12_shorter_11 (by decide) (fun c5 => ?_) (fun c5 => ?_)
  · have tc5 : 0 ≤ x2.toInt := tl_le c5
    refine li_bipush 15 dX12_shorter_16 (by decide) ?_
    refine li_istore_n [(2, .int 15), (1, .int x2), (0, .ref (Z.2.2 175))] dX12_shorter_18 (by decide) rfl ?_
    refine li_aload_n 2 dX12_shorter_19 rfl ?_
    refine li_getr (k := 41) (N := 52) (T := TX12) (C0 := RX12) dX12_shorter_20 (by decide) sh_175 rfl rfl (by decide) (by decide) li_in12 w_1445 ?_
    refine li_aload_n 2 dX12_shorter_23 rfl ?_
    refine li_geti (k := 40) (N := 52) (T := TX12) (C0 := RX12) dX12_shorter_24 (by decide) sh_175 rfl rfl (by decide) li_in12 w_1444 ?_
    refine li_top (fun x6 ex6 => ?_)
    have gx6 : 0 ≤ x6.toInt ∧ x6.toInt ≤ 14 := by rw [ex6]; exact J_sl40 hJ
    have mx6 : x6.toInt = (M3.1 175 40).toInt := tl_slot ex6
    refine li_iconst 0 dX12_shorter_27 (by decide) ?_
    have z0 : (0 : Int32).toInt = 0 := rfl
    refine li_iast dX12_shorter_28 (by decide) sh_196 (tl_in (by omega)) ?_
    refine li_nm (fun M7 eM7 => ?_)
    have hf := li_fs_ui hf (Or.inr (Or.inr (Or.inl rfl))) eM7
    have hJ := hJ.st (by decide) (li_el_free (by unfold li_led; omega) (by decide) (by decide) (by unfold li_rq; omega)) eM7
    have rM7_7 := J_sl7 (M := M7) hJ
    have rM7_9 := J_sl9 (M := M7) hJ
    have rM7_40 := J_sl40 (M := M7) hJ
    have mM7_7 : (M7.1 175 7).toInt = (M3.1 175 7).toInt := by rw [eM7, li_ui_at, if_neg (by decide)]
    have mM7_9 : (M7.1 175 9).toInt = (M3.1 175 9).toInt := by rw [eM7, li_ui_at, if_neg (by decide)]
    have mM7_40 : (M7.1 175 40).toInt = (M3.1 175 40).toInt := by rw [eM7, li_ui_at, if_neg (by decide)]
    have Ptpg_M7 : li_tpg (M7.1 195) ((M7.1 175 40).toInt) (x2.toInt) := li_tpg_tr (li_cell_ui eM7 (by decide)) (by omega) (fun h9 => by omega) Ptpg_M3
    have Pfw_M7 : li_fw (M7.1 196) ((M7.1 175 40).toInt) ((M7.1 175 40).toInt) := li_fw_0 eM7 (by omega) (by omega) (by omega)
    refine li_aload_n 2 dX12_shorter_29 rfl ?_
    refine li_geti (k := 40) (N := 52) (T := TX12) (C0 := RX12) dX12_shorter_30 (by decide) sh_175 rfl rfl (by decide) li_in12 w_1444 ?_
    refine li_top (fun x8 ex8 => ?_)
    have gx8 : 0 ≤ x8.toInt ∧ x8.toInt ≤ 14 := by rw [ex8]; exact J_sl40 hJ
    have mx8 : x8.toInt = (M7.1 175 40).toInt := tl_slot ex8
    refine li_iconst 1 dX12_shorter_33 (by decide) ?_
    refine li_isub dX12_shorter_34 ?_
    refine li_top (fun x9 ex9 => ?_)
    have z1 : (1 : Int32).toInt = 1 := rfl
    try (have tx9 : x9.toInt = (x8 : Int32).toInt - (1 : Int32).toInt := tl_sub ex9 (by omega))
    refine li_istore_n [(3, .int x9), (2, .int 15), (1, .int x2), (0, .ref (Z.2.2 175))] dX12_shorter_35 (by decide) rfl ?_
    have L36 : ∀ (n : Nat) (x10 : Int32) (M11 : li_M), ((x10 : Int32).toInt + 1).toNat < n → li_fs (fun i k => i = 181 ∨ i = 195 ∨ i = 196 ∨ (i = 175 ∧ k = 10) ∨ (i = 175 ∧ k = 40) ∨ (i = 175 ∧ k = 7) ∨ (i = 175 ∧ k = 9)) M0 M11 → li_J M11 → -1 ≤ (x10 : Int32).toInt ∧ (x10 : Int32).toInt ≤ (M11.1 175 40).toInt - 1 ∧ (M11.1 175 7).toInt = 0 → li_tpg (M11.1 195) ((M11.1 175 40).toInt) ((x2 : Int32).toInt) → li_fw (M11.1 196) ((x10 : Int32).toInt + 1) ((M11.1 175 40).toInt) → li_T l Z YX12_shorter d 36 [(3, .int x10), (2, .int 15), (1, .int x2), (0, .ref (Z.2.2 175))] [] M11 (fun r M' => (∃ x : Int32, r = some (.int x)) ∧ li_fs (fun i k => i = 181 ∨ i = 195 ∨ i = 196 ∨ (i = 175 ∧ k = 10) ∨ (i = 175 ∧ k = 40) ∨ (i = 175 ∧ k = 7) ∨ (i = 175 ∧ k = 9)) M0 M' ∧ li_J M' ∧ (M'.1 175 7).toInt = 0) := by
      intro n
      induction n with
      | zero => intro x10 M11 hn; exact absurd hn (Nat.not_lt_zero _)
      | succ n ih36 =>
        intro x10 M11 hn hf hJ hi Ptpg_M11 Pfw_M11
        have gx10 := tl_rg x10
        have rM11_7 := J_sl7 (M := M11) hJ
        have rM11_9 := J_sl9 (M := M11) hJ
        have rM11_40 := J_sl40 (M := M11) hJ
        refine li_iload_n 0 dX12_shorter_36 rfl ?_
        refine li_if_lt 113 dX12_shorter_37 (by decide) (fun c12 => ?_) (fun c12 => ?_)
        · have tc12 : x10.toInt < 0 := tl_lt c12
          refine li_aload_n 3 dX12_shorter_113 rfl ?_
          refine li_getr (k := 41) (N := 52) (T := TX12) (C0 := RX12) dX12_shorter_114 (by decide) sh_175 rfl rfl (by decide) (by decide) li_in12 w_1445 ?_
          refine li_iconst 0 dX12_shorter_117 (by decide) ?_
          have z0 : (0 : Int32).toInt = 0 := rfl
          refine li_iald dX12_shorter_118 (by decide) sh_196 (tl_in (by omega)) ?_
          refine li_top (fun x13 ex13 => ?_)
          have gx13 := tl_rg x13
          have wx13 := li_fw_ld Pfw_M11 ex13 (by omega) (by omega) (by omega)
          refine li_istore_n [(3, .int x13), (2, .int 15), (1, .int x2), (0, .ref (Z.2.2 175))] dX12_shorter_119 (by decide) rfl ?_
          refine li_iconst 1 dX12_shorter_120 (by decide) ?_
          refine li_istore [(4, .int 1), (3, .int x13), (2, .int 15), (1, .int x2), (0, .ref (Z.2.2 175))] dX12_shorter_121 (by decide) rfl ?_
          refine li_aload_n 4 dX12_shorter_123 rfl ?_
          refine li_iconst 0 dX12_shorter_124 (by decide) ?_
          refine li_puti (k := 9) (N := 52) (T := TX12) (C0 := RX12) dX12_shorter_125 (by decide) sh_175 rfl rfl (by decide) li_in12 tyX12_ok nmX12 rfl rfl rfl rfl w_1413 ?_
          refine li_nm (fun M14 eM14 => ?_)
          have hf := li_fs_ui hf (Or.inr (Or.inr (Or.inr (Or.inr (Or.inr (Or.inr (⟨rfl, rfl⟩))))))) eM14
          have z0 : (0 : Int32).toInt = 0 := rfl
          have hJ := J_pt9 hJ (show 0 ≤ (0 : Int32).toInt ∧ (0 : Int32).toInt ≤ 20 by omega) eM14
          have rM14_7 := J_sl7 (M := M14) hJ
          have rM14_9 := J_sl9 (M := M14) hJ
          have rM14_40 := J_sl40 (M := M14) hJ
          have mM14_7 : (M14.1 175 7).toInt = (M11.1 175 7).toInt := by rw [eM14, li_ui_at, if_pos rfl, if_neg (by decide)]
          have mM14_9 : (M14.1 175 9).toInt = 0 := by rw [eM14, li_ui_at, if_pos rfl, if_pos rfl]; rfl
          have mM14_40 : (M14.1 175 40).toInt = (M11.1 175 40).toInt := by rw [eM14, li_ui_at, if_pos rfl, if_neg (by decide)]
          have Ptpg_M14 : li_tpg (M14.1 195) ((M14.1 175 40).toInt) ((x2 : Int32).toInt) := li_tpg_tr (li_cell_ui eM14 (by decide)) (by omega) (fun h9 => by omega) Ptpg_M11
          have Pfw_M14 : li_fw (M14.1 196) ((x10 : Int32).toInt + 1) ((M14.1 175 40).toInt) := li_fw_tr (li_cell_ui eM14 (by decide)) (by omega) (by omega) Pfw_M11
          refine li_iconst 0 dX12_shorter_128 (by decide) ?_
          refine li_istore [(5, .int 0), (4, .int 1), (3, .int x13), (2, .int 15), (1, .int x2), (0, .ref (Z.2.2 175))] dX12_shorter_129 (by decide) rfl ?_
          have L131 : ∀ (n : Nat) (x15 : Int32) (x16 : Int32) (M17 : li_M), (15 - (x15 : Int32).toInt).toNat < n → li_fs (fun i k => i = 181 ∨ i = 195 ∨ i = 196 ∨ (i = 175 ∧ k = 10) ∨ (i = 175 ∧ k = 40) ∨ (i = 175 ∧ k = 7) ∨ (i = 175 ∧ k = 9)) M0 M17 → li_J M17 → 0 ≤ (x15 : Int32).toInt ∧ (M17.1 175 9).toInt = (x15 : Int32).toInt ∧ (M17.1 175 7).toInt = 0 → li_T l Z YX12_shorter d 131 [(5, .int x15), (4, .int x16), (3, .int x13), (2, .int 15), (1, .int x2), (0, .ref (Z.2.2 175))] [] M17 (fun r M' => (∃ x : Int32, r = some (.int x)) ∧ li_fs (fun i k => i = 181 ∨ i = 195 ∨ i = 196 ∨ (i = 175 ∧ k = 10) ∨ (i = 175 ∧ k = 40) ∨ (i = 175 ∧ k = 7) ∨ (i = 175 ∧ k = 9)) M0 M' ∧ li_J M' ∧ (M'.1 175 7).toInt = 0) := by
            intro n
            induction n with
            | zero => intro x15 x16 M17 hn; exact absurd hn (Nat.not_lt_zero _)
            | succ n ih131 =>
              intro x15 x16 M17 hn hf hJ hi
              have gx15 := tl_rg x15
              have gx16 := tl_rg x16
              have rM17_7 := J_sl7 (M := M17) hJ
              have rM17_9 := J_sl9 (M := M17) hJ
              have rM17_40 := J_sl40 (M := M17) hJ
              refine li_iload 0 dX12_shorter_131 rfl ?_
              refine li_iload_n 2 dX12_shorter_133 rfl ?_
              refine li_icmp_ge 302 dX12_shorter_134 (by decide) (fun c18 => ?_) (fun c18 => ?_)
              · have tc18 : x13.toInt ≤ x15.toInt := tl_le c18
                refine li_iload_n 2 dX12_shorter_302 rfl ?_
                exact li_iret dX12_shorter_303 rfl rfl ⟨⟨_, rfl⟩, hf, hJ, (by omega)⟩
              · have tc18 : x15.toInt < x13.toInt := tl_nle c18
                refine li_bipush 7 dX12_shorter_137 (by decide) ?_
                refine li_istore [(6, .int 7), (5, .int x15), (4, .int x16), (3, .int x13), (2, .int 15), (1, .int x2), (0, .ref (Z.2.2 175))] dX12_shorter_139 (by decide) rfl ?_
                refine li_iconst 0 dX12_shorter_141 (by decide) ?_
                refine li_istore [(7, .int 0), (6, .int 7), (5, .int x15), (4, .int x16), (3, .int x13), (2, .int 15), (1, .int x2), (0, .ref (Z.2.2 175))] dX12_shorter_142 (by decide) rfl ?_
                refine li_iconst 0 dX12_shorter_144 (by decide) ?_
                refine li_istore [(8, .int 0), (7, .int 0), (6, .int 7), (5, .int x15), (4, .int x16), (3, .int x13), (2, .int 15), (1, .int x2), (0, .ref (Z.2.2 175))] dX12_shorter_145 (by decide) rfl ?_
                have L147 : ∀ (n : Nat) (x19 : Int32) (x20 : Int32) (x21 : Int32) (M22 : li_M), (15 - (x19 : Int32).toInt).toNat < n → li_fs (fun i k => i = 181 ∨ i = 195 ∨ i = 196 ∨ (i = 175 ∧ k = 10) ∨ (i = 175 ∧ k = 40) ∨ (i = 175 ∧ k = 7) ∨ (i = 175 ∧ k = 9)) M0 M22 → li_J M22 → 0 ≤ (x19 : Int32).toInt ∧ (M22.1 175 9).toInt = (x15 : Int32).toInt ∧ (M22.1 175 7).toInt = 0 → li_T l Z YX12_shorter d 147 [(8, .int x19), (7, .int x20), (6, .int x21), (5, .int x15), (4, .int x16), (3, .int x13), (2, .int 15), (1, .int x2), (0, .ref (Z.2.2 175))] [] M22 (fun r M' => (∃ x : Int32, r = some (.int x)) ∧ li_fs (fun i k => i = 181 ∨ i = 195 ∨ i = 196 ∨ (i = 175 ∧ k = 10) ∨ (i = 175 ∧ k = 40) ∨ (i = 175 ∧ k = 7) ∨ (i = 175 ∧ k = 9)) M0 M' ∧ li_J M' ∧ (M'.1 175 7).toInt = 0) := by
                  intro n
                  induction n with
                  | zero => intro x19 x20 x21 M22 hn; exact absurd hn (Nat.not_lt_zero _)
                  | succ n ih147 =>
                    intro x19 x20 x21 M22 hn hf hJ hi
                    have gx19 := tl_rg x19
                    have gx20 := tl_rg x20
                    have gx21 := tl_rg x21
                    have rM22_7 := J_sl7 (M := M22) hJ
                    have rM22_9 := J_sl9 (M := M22) hJ
                    have rM22_40 := J_sl40 (M := M22) hJ
                    refine li_iload 0 dX12_shorter_147 rfl ?_
                    refine li_aload_n 8 dX12_shorter_149 rfl ?_
                    refine li_geti (k := 40) (N := 52) (T := TX12) (C0 := RX12) dX12_shorter_150 (by decide) sh_175 rfl rfl (by decide) li_in12 w_1444 ?_
                    refine li_top (fun x23 ex23 => ?_)
                    have gx23 : 0 ≤ x23.toInt ∧ x23.toInt ≤ 14 := by rw [ex23]; exact J_sl40 hJ
                    have mx23 : x23.toInt = (M22.1 175 40).toInt := tl_slot ex23
                    refine li_icmp_ge 286 dX12_shorter_153 (by decide) (fun c24 => ?_) (fun c24 => ?_)
                    · have tc24 : x23.toInt ≤ x19.toInt := tl_le c24
                      refine li_aload_n 8 dX12_shorter_286 rfl ?_
                      refine li_iload 2 dX12_shorter_287 rfl ?_
                      refine li_callV (n := 1) (As := [.int x21]) dX12_shorter_289 (k_X12_tell (d - 1) (by omega) x21 M22 hJ (by omega)) (by omega) (Nat.le_of_ble_eq_true rfl) w_1783 w_1785 w_77 w_112 w_1786 (by decide +kernel) rfl (by decide) sh_175 rfl rfl (Nat.le_of_ble_eq_true rfl) (fun r M26 h27 => ?_)
                      obtain ⟨rfl, h27, jM26, nM26⟩ := h27
                      have hf := li_fs_trans hf h27 (fun i k => fun h => Or.elim h (fun h => Or.inl h) (fun h => Or.inr (Or.inr (Or.inr (Or.inr (Or.inr (Or.inr h)))))))
                      have hJ := jM26
                      have rM26_7 := J_sl7 (M := M26) hJ
                      have rM26_9 := J_sl9 (M := M26) hJ
                      have rM26_40 := J_sl40 (M := M26) hJ
                      have mM26_7 : (M26.1 175 7).toInt = (M22.1 175 7).toInt := tl_slot (h27.1 175 7 (show ¬ (175 = 181 ∨ (175 = 175 ∧ 7 = 9)) by decide))
                      have mM26_40 : (M26.1 175 40).toInt = (M22.1 175 40).toInt := tl_slot (h27.1 175 40 (show ¬ (175 = 181 ∨ (175 = 175 ∧ 40 = 9)) by decide))
                      refine li_iload 1 dX12_shorter_292 rfl ?_
                      refine li_istore [(4, .int x20), (8, .int x19), (7, .int x20), (6, .int x21), (5, .int x15), (3, .int x13), (2, .int 15), (1, .int x2), (0, .ref (Z.2.2 175))] dX12_shorter_294 (by decide) rfl ?_
                      obtain ⟨x28, ex28⟩ : ∃ y : Int32, y = x15 + 1 := ⟨_, rfl⟩
                      have z1 : (1 : Int32).toInt = 1 := rfl
                      try (have tx28 : x28.toInt = (x15 : Int32).toInt + (1 : Int32).toInt := tl_add ex28 (by omega))
                      refine li_iinc 4 [(5, .int x28), (4, .int x20), (8, .int x19), (7, .int x20), (6, .int x21), (3, .int x13), (2, .int 15), (1, .int x2), (0, .ref (Z.2.2 175))] x28 dX12_shorter_296 rfl (by rw [ex28]; rfl) (by decide) rfl ?_
                      refine li_goto 131 dX12_shorter_299 (by decide) ?_
                      refine li_pick [0, 1, 5, 6, 7, 8] [(5, .int x28), (4, .int x20), (3, .int x13), (2, .int 15), (1, .int x2), (0, .ref (Z.2.2 175))] rfl ?_
                      exact ih131 x28 x20 M26 (by omega) hf hJ (by omega)
                    · have tc24 : x19.toInt < x23.toInt := tl_nle c24
                      refine li_iload 4 dX12_shorter_156 rfl ?_
                      refine li_iload 0 dX12_shorter_158 rfl ?_
                      refine li_callS (n := 2) (As := [.int x16, .int x19]) dX12_shorter_160 (k_X12_has (d - 1) (by omega) x16 x19 M22 hJ ) (by omega) (Nat.le_of_ble_eq_true rfl) w_1734 w_1735 w_112 w_1736 (by decide +kernel) rfl rfl (Nat.le_of_ble_eq_true rfl) (fun r M30 h31 => ?_)
                      obtain ⟨qx29, h31, jM30⟩ := h31
                      have hf := li_fs_trans hf h31 (fun i k h => False.elim h)
                      have hJ := jM30
                      have rM30_7 := J_sl7 (M := M30) hJ
                      have rM30_9 := J_sl9 (M := M30) hJ
                      have rM30_40 := J_sl40 (M := M30) hJ
                      have mM30_7 : (M30.1 175 7).toInt = (M22.1 175 7).toInt := tl_slot (h31.1 175 7 id)
                      have mM30_9 : (M30.1 175 9).toInt = (M22.1 175 9).toInt := tl_slot (h31.1 175 9 id)
                      have mM30_40 : (M30.1 175 40).toInt = (M22.1 175 40).toInt := tl_slot (h31.1 175 40 id)
                      rcases qx29 with ⟨rfl, qx29⟩ | ⟨rfl, qx29⟩
                      · skip
                        refine li_if_ne 169 dX12_shorter_163 (by decide) (fun c => ?_) (fun c => absurd c (by decide))
                        refine li_iload 0 dX12_shorter_169 rfl ?_
                        refine li_iconst 1 dX12_shorter_171 (by decide) ?_
                        refine li_iadd dX12_shorter_172 ?_
                        refine li_top (fun x33 ex33 => ?_)
                        have z1 : (1 : Int32).toInt = 1 := rfl
                        try (have tx33 : x33.toInt = (x19 : Int32).toInt + (1 : Int32).toInt := tl_add ex33 (by omega))
                        refine li_istore [(9, .int x33), (8, .int x19), (7, .int x20), (6, .int x21), (5, .int x15), (4, .int x16), (3, .int x13), (2, .int 15), (1, .int x2), (0, .ref (Z.2.2 175))] dX12_shorter_173 (by decide) rfl ?_
                        have L175 : ∀ (n : Nat) (x34 : Int32) (x35 : Int32) (x36 : Int32) (M37 : li_M), (16 - (x34 : Int32).toInt).toNat < n → li_fs (fun i k => i = 181 ∨ i = 195 ∨ i = 196 ∨ (i = 175 ∧ k = 10) ∨ (i = 175 ∧ k = 40) ∨ (i = 175 ∧ k = 7) ∨ (i = 175 ∧ k = 9)) M0 M37 → li_J M37 → 0 ≤ (x34 : Int32).toInt ∧ (M37.1 175 9).toInt = (x15 : Int32).toInt ∧ (M37.1 175 7).toInt = 0 → li_T l Z YX12_shorter d 175 [(9, .int x34), (8, .int x19), (7, .int x35), (6, .int x36), (5, .int x15), (4, .int x16), (3, .int x13), (2, .int 15), (1, .int x2), (0, .ref (Z.2.2 175))] [] M37 (fun r M' => (∃ x : Int32, r = some (.int x)) ∧ li_fs (fun i k => i = 181 ∨ i = 195 ∨ i = 196 ∨ (i = 175 ∧ k = 10) ∨ (i = 175 ∧ k = 40) ∨ (i = 175 ∧ k = 7) ∨ (i = 175 ∧ k = 9)) M0 M' ∧ li_J M' ∧ (M'.1 175 7).toInt = 0) := by
                          intro n
                          induction n with
                          | zero => intro x34 x35 x36 M37 hn; exact absurd hn (Nat.not_lt_zero _)
                          | succ n ih175 =>
                            intro x34 x35 x36 M37 hn hf hJ hi
                            have gx34 := tl_rg x34
                            have gx35 := tl_rg x35
                            have gx36 := tl_rg x36
                            have rM37_7 := J_sl7 (M := M37) hJ
                            have rM37_9 := J_sl9 (M := M37) hJ
                            have rM37_40 := J_sl40 (M := M37) hJ
                            refine li_iload 0 dX12_shorter_175 rfl ?_
                            refine li_aload_n 9 dX12_shorter_177 rfl ?_
                            refine li_geti (k := 40) (N := 52) (T := TX12) (C0 := RX12) dX12_shorter_178 (by decide) sh_175 rfl rfl (by decide) li_in12 w_1444 ?_
                            refine li_top (fun x38 ex38 => ?_)
                            have gx38 : 0 ≤ x38.toInt ∧ x38.toInt ≤ 14 := by rw [ex38]; exact J_sl40 hJ
                            have mx38 : x38.toInt = (M37.1 175 40).toInt := tl_slot ex38
                            refine li_icmp_gt 280 dX12_shorter_181 (by decide) (fun c39 => ?_) (fun c39 => ?_)
                            · have tc39 : x38.toInt < x34.toInt := tl_lt c39
                              obtain ⟨x40, ex40⟩ : ∃ y : Int32, y = x19 + 1 := ⟨_, rfl⟩
                              have z1 : (1 : Int32).toInt = 1 := rfl
                              try (have tx40 : x40.toInt = (x19 : Int32).toInt + (1 : Int32).toInt := tl_add ex40 (by omega))
                              refine li_iinc 1 [(8, .int x40), (9, .int x34), (7, .int x35), (6, .int x36), (5, .int x15), (4, .int x16), (3, .int x13), (2, .int 15), (1, .int x2), (0, .ref (Z.2.2 175))] x40 dX12_shorter_280 rfl (by rw [ex40]; rfl) (by decide) rfl ?_
                              refine li_goto 147 dX12_shorter_283 (by decide) ?_
                              refine li_pick [0, 2, 3, 4, 5, 6, 7, 8, 9] [(8, .int x40), (7, .int x35), (6, .int x36), (5, .int x15), (4, .int x16), (3, .int x13), (2, .int 15), (1, .int x2), (0, .ref (Z.2.2 175))] rfl ?_
                              exact ih147 x40 x35 x36 M37 (by omega) hf hJ (by omega)
                            · have tc39 : x34.toInt ≤ x38.toInt := tl_nlt c39
                              refine li_aload_n 9 dX12_shorter_184 rfl ?_
                              refine li_getr (k := 39) (N := 52) (T := TX12) (C0 := RX12) dX12_shorter_185 (by decide) sh_175 rfl rfl (by decide) (by decide) li_in12 w_1443 ?_
                              refine li_iload_n 7 dX12_shorter_188 rfl ?_
                              refine li_iload 1 dX12_shorter_189 rfl ?_
                              refine li_imul dX12_shorter_191 ?_
                              refine li_top (fun x41 ex41 => ?_)
                              have z15 : (15 : Int32).toInt = 15 := rfl
                              try (have tx41 : x41.toInt = 15 * (x19 : Int32).toInt := tl_mul ex41 (show -2147483648 ≤ 15 * (x19 : Int32).toInt ∧ 15 * (x19 : Int32).toInt ≤ 2147483647 by omega))
                              refine li_iload 0 dX12_shorter_192 rfl ?_
                              refine li_iadd dX12_shorter_194 ?_
                              refine li_top (fun x42 ex42 => ?_)
                              try (have tx42 : x42.toInt = (x41 : Int32).toInt + (x34 : Int32).toInt := tl_add ex42 (by omega))
                              refine li_iald dX12_shorter_195 (by decide) sh_195 (tl_in (by omega)) ?_
                              refine li_top (fun x43 ex43 => ?_)
                              have gx43 := tl_rg x43
                              have J274 : ∀ (x45 : Int32) (x46 : Int32) (M47 : li_M), li_fs (fun i k => i = 181 ∨ i = 195 ∨ i = 196 ∨ (i = 175 ∧ k = 10) ∨ (i = 175 ∧ k = 40) ∨ (i = 175 ∧ k = 7) ∨ (i = 175 ∧ k = 9)) M0 M47 → li_J M47 → (M47.1 175 9).toInt = (x15 : Int32).toInt ∧ (M47.1 175 7).toInt = 0 → li_T l Z YX12_shorter d 274 [(9, .int x34), (8, .int x19), (7, .int x45), (6, .int x46), (5, .int x15), (4, .int x16), (3, .int x13), (2, .int 15), (1, .int x2), (0, .ref (Z.2.2 175))] [] M47 (fun r M' => (∃ x : Int32, r = some (.int x)) ∧ li_fs (fun i k => i = 181 ∨ i = 195 ∨ i = 196 ∨ (i = 175 ∧ k = 10) ∨ (i = 175 ∧ k = 40) ∨ (i = 175 ∧ k = 7) ∨ (i = 175 ∧ k = 9)) M0 M' ∧ li_J M' ∧ (M'.1 175 7).toInt = 0) := by
                                intro x45 x46 M47 hf hJ hi
                                have gx45 := tl_rg x45
                                have gx46 := tl_rg x46
                                have rM47_7 := J_sl7 (M := M47) hJ
                                have rM47_9 := J_sl9 (M := M47) hJ
                                have rM47_40 := J_sl40 (M := M47) hJ
                                obtain ⟨x48, ex48⟩ : ∃ y : Int32, y = x34 + 1 := ⟨_, rfl⟩
                                have z1 : (1 : Int32).toInt = 1 := rfl
                                try (have tx48 : x48.toInt = (x34 : Int32).toInt + (1 : Int32).toInt := tl_add ex48 (by omega))
                                refine li_iinc 0 [(9, .int x48), (8, .int x19), (7, .int x45), (6, .int x46), (5, .int x15), (4, .int x16), (3, .int x13), (2, .int 15), (1, .int x2), (0, .ref (Z.2.2 175))] x48 dX12_shorter_274 rfl (by rw [ex48]; rfl) (by decide) rfl ?_
                                refine li_goto 175 dX12_shorter_277 (by decide) ?_
                                refine li_pick [0, 1, 2, 3, 4, 5, 6, 7, 8, 9] [(9, .int x48), (8, .int x19), (7, .int x45), (6, .int x46), (5, .int x15), (4, .int x16), (3, .int x13), (2, .int 15), (1, .int x2), (0, .ref (Z.2.2 175))] rfl ?_
                                exact ih175 x48 x45 x46 M47 (by omega) hf hJ (by omega)
                              refine li_if_eq 274 dX12_shorter_196 (by decide) (fun c44 => ?_) (fun c44 => ?_)
                              · have tc44 : x43.toInt = 0 := tl_eq c44
                                refine li_pick [0, 1, 2, 3, 4, 5, 6, 7, 8, 9] [(9, .int x34), (8, .int x19), (7, .int x35), (6, .int x36), (5, .int x15), (4, .int x16), (3, .int x13), (2, .int 15), (1, .int x2), (0, .ref (Z.2.2 175))] rfl ?_
                                exact J274 x35 x36 M37 hf hJ (by omega)
                              · have tc44 : ¬ x43.toInt = 0 := tl_ne c44
                                refine li_aload_n 9 dX12_shorter_199 rfl ?_
                                refine li_getr (k := 41) (N := 52) (T := TX12) (C0 := RX12) dX12_shorter_200 (by decide) sh_175 rfl rfl (by decide) (by decide) li_in12 w_1445 ?_
                                refine li_iload 0 dX12_shorter_203 rfl ?_
                                refine li_iald dX12_shorter_205 (by decide) sh_196 (tl_in (by omega)) ?_
                                refine li_top (fun x49 ex49 => ?_)
                                have gx49 := tl_rg x49
                                refine li_iload_n 6 dX12_shorter_206 rfl ?_
                                refine li_iload 4 dX12_shorter_207 rfl ?_
                                refine li_isub dX12_shorter_209 ?_
                                refine li_top (fun x50 ex50 => ?_)
                                try (have tx50 : x50.toInt = (x13 : Int32).toInt - (x15 : Int32).toInt := tl_sub ex50 (by omega))
                                refine li_iconst 1 dX12_shorter_210 (by decide) ?_
                                refine li_isub dX12_shorter_211 ?_
                                refine li_top (fun x51 ex51 => ?_)
                                have z1 : (1 : Int32).toInt = 1 := rfl
                                try (have tx51 : x51.toInt = (x50 : Int32).toInt - (1 : Int32).toInt := tl_sub ex51 (by omega))
                                refine li_icmp_eq 218 dX12_shorter_212 (by decide) (fun c52 => ?_) (fun c52 => ?_)
                                · have tc52 : x49.toInt = x51.toInt := tl_eq c52
                                  refine li_aload_n 9 dX12_shorter_218 rfl ?_
                                  refine li_getr (k := 39) (N := 52) (T := TX12) (C0 := RX12) dX12_shorter_219 (by decide) sh_175 rfl rfl (by decide) (by decide) li_in12 w_1443 ?_
                                  refine li_iload_n 7 dX12_shorter_222 rfl ?_
                                  refine li_iload 1 dX12_shorter_223 rfl ?_
                                  refine li_imul dX12_shorter_225 ?_
                                  refine li_top (fun x53 ex53 => ?_)
                                  have z15 : (15 : Int32).toInt = 15 := rfl
                                  try (have tx53 : x53.toInt = 15 * (x19 : Int32).toInt := tl_mul ex53 (show -2147483648 ≤ 15 * (x19 : Int32).toInt ∧ 15 * (x19 : Int32).toInt ≤ 2147483647 by omega))
                                  refine li_iload 0 dX12_shorter_226 rfl ?_
                                  refine li_iadd dX12_shorter_228 ?_
                                  refine li_top (fun x54 ex54 => ?_)
                                  try (have tx54 : x54.toInt = (x53 : Int32).toInt + (x34 : Int32).toInt := tl_add ex54 (by omega))
                                  refine li_iald dX12_shorter_229 (by decide) sh_195 (tl_in (by omega)) ?_
                                  refine li_top (fun x55 ex55 => ?_)
                                  have gx55 := tl_rg x55
                                  refine li_callS (n := 1) (As := [.int x55]) dX12_shorter_230 (k_J6_numberOfTrailingZeros_0f7a4 (d - 1) (by omega) x55 M37) (by omega) (Nat.le_of_ble_eq_true rfl) w_1914 w_1148 w_123 w_1149 (by decide +kernel) rfl rfl (Nat.le_of_ble_eq_true rfl) (fun r M57 h58 => ?_)
                                  obtain ⟨⟨x56, rfl⟩, h58⟩ := h58
                                  have eM57 : M57 = M37 := li_fr_none h58
                                  have hf : li_fs (fun i k => i = 181 ∨ i = 195 ∨ i = 196 ∨ (i = 175 ∧ k = 10) ∨ (i = 175 ∧ k = 40) ∨ (i = 175 ∧ k = 7) ∨ (i = 175 ∧ k = 9)) M0 M57 := by rw [eM57]; exact hf
                                  have hJ : li_J M57 := by rw [eM57]; exact hJ
                                  have rM57_7 := J_sl7 (M := M57) hJ
                                  have rM57_9 := J_sl9 (M := M57) hJ
                                  have rM57_40 := J_sl40 (M := M57) hJ
                                  have mM57_7 : (M57.1 175 7).toInt = (M37.1 175 7).toInt := by rw [eM57]
                                  have mM57_9 : (M57.1 175 9).toInt = (M37.1 175 9).toInt := by rw [eM57]
                                  have mM57_40 : (M57.1 175 40).toInt = (M37.1 175 40).toInt := by rw [eM57]
                                  have gx56 := tl_rg x56
                                  refine li_istore [(10, .int x56), (9, .int x34), (8, .int x19), (7, .int x35), (6, .int x36), (5, .int x15), (4, .int x16), (3, .int x13), (2, .int 15), (1, .int x2), (0, .ref (Z.2.2 175))] dX12_shorter_233 (by decide) rfl ?_
                                  refine li_iload 0 dX12_shorter_235 rfl ?_
                                  refine li_iload 4 dX12_shorter_237 rfl ?_
                                  have J245 : ∀ (x60 : Int32) (M61 : li_M), li_fs (fun i k => i = 181 ∨ i = 195 ∨ i = 196 ∨ (i = 175 ∧ k = 10) ∨ (i = 175 ∧ k = 40) ∨ (i = 175 ∧ k = 7) ∨ (i = 175 ∧ k = 9)) M0 M61 → li_J M61 → (M61.1 175 9).toInt = (x15 : Int32).toInt ∧ (M61.1 175 7).toInt = 0 → li_T l Z YX12_shorter d 245 [(10, .int x56), (9, .int x34), (8, .int x19), (7, .int x60), (6, .int x36), (5, .int x15), (4, .int x16), (3, .int x13), (2, .int 15), (1, .int x2), (0, .ref (Z.2.2 175))] [] M61 (fun r M' => (∃ x : Int32, r = some (.int x)) ∧ li_fs (fun i k => i = 181 ∨ i = 195 ∨ i = 196 ∨ (i = 175 ∧ k = 10) ∨ (i = 175 ∧ k = 40) ∨ (i = 175 ∧ k = 7) ∨ (i = 175 ∧ k = 9)) M0 M' ∧ li_J M' ∧ (M'.1 175 7).toInt = 0) := by
                                    intro x60 M61 hf hJ hi
                                    have gx60 := tl_rg x60
                                    have rM61_7 := J_sl7 (M := M61) hJ
                                    have rM61_9 := J_sl9 (M := M61) hJ
                                    have rM61_40 := J_sl40 (M := M61) hJ
                                    refine li_iload 4 dX12_shorter_245 rfl ?_
                                    refine li_iload 0 dX12_shorter_247 rfl ?_
                                    refine li_mmin dX12_shorter_249 (by omega) w_1701 w_726 w_113 w_727 (Nat.le_of_ble_eq_true rfl) ?_
                                    refine li_top (fun x62 ex62 => ?_)
                                    have tx62 := tl_min2 ex62
                                    refine li_istore [(6, .int x62), (10, .int x56), (9, .int x34), (8, .int x19), (7, .int x60), (5, .int x15), (4, .int x16), (3, .int x13), (2, .int 15), (1, .int x2), (0, .ref (Z.2.2 175))] dX12_shorter_252 (by decide) rfl ?_
                                    refine li_iload 4 dX12_shorter_254 rfl ?_
                                    refine li_iload 1 dX12_shorter_256 rfl ?_
                                    refine li_iload 0 dX12_shorter_258 rfl ?_
                                    have J271 : ∀ (x64 : Int32) (M65 : li_M), li_fs (fun i k => i = 181 ∨ i = 195 ∨ i = 196 ∨ (i = 175 ∧ k = 10) ∨ (i = 175 ∧ k = 40) ∨ (i = 175 ∧ k = 7) ∨ (i = 175 ∧ k = 9)) M0 M65 → li_J M65 → (M65.1 175 9).toInt = (x15 : Int32).toInt ∧ (M65.1 175 7).toInt = 0 → li_T l Z YX12_shorter d 271 [(6, .int x62), (10, .int x56), (9, .int x34), (8, .int x19), (7, .int x60), (5, .int x15), (4, .int x16), (3, .int x13), (2, .int 15), (1, .int x2), (0, .ref (Z.2.2 175))] [.int x64, .int x60] M65 (fun r M' => (∃ x : Int32, r = some (.int x)) ∧ li_fs (fun i k => i = 181 ∨ i = 195 ∨ i = 196 ∨ (i = 175 ∧ k = 10) ∨ (i = 175 ∧ k = 40) ∨ (i = 175 ∧ k = 7) ∨ (i = 175 ∧ k = 9)) M0 M' ∧ li_J M' ∧ (M'.1 175 7).toInt = 0) := by
                                      intro x64 M65 hf hJ hi
                                      have gx64 := tl_rg x64
                                      have rM65_7 := J_sl7 (M := M65) hJ
                                      have rM65_9 := J_sl9 (M := M65) hJ
                                      have rM65_40 := J_sl40 (M := M65) hJ
                                      refine li_ior dX12_shorter_271 ?_
                                      refine li_top (fun x66 ex66 => ?_)
                                      try (have tx66 := tl_or255 ex66 (by omega) (by omega))
                                      refine li_istore [(7, .int x66), (6, .int x62), (10, .int x56), (9, .int x34), (8, .int x19), (5, .int x15), (4, .int x16), (3, .int x13), (2, .int 15), (1, .int x2), (0, .ref (Z.2.2 175))] dX12_shorter_272 (by decide) rfl ?_
                                      refine li_pick [3, 4, 0, 1, 5, 6, 7, 8, 9, 10] [(9, .int x34), (8, .int x19), (7, .int x66), (6, .int x62), (5, .int x15), (4, .int x16), (3, .int x13), (2, .int 15), (1, .int x2), (0, .ref (Z.2.2 175))] rfl ?_
                                      exact J274 x66 x62 M65 hf hJ (by omega)
                                    refine li_icmp_ne 270 dX12_shorter_260 (by decide) (fun c63 => ?_) (fun c63 => ?_)
                                    · have tc63 : ¬ x56.toInt = x62.toInt := tl_ne c63
                                      refine li_iconst 0 dX12_shorter_270 (by decide) ?_
                                      refine li_pick [0, 1, 2, 3, 4, 5, 6, 7, 8, 9, 10] [(6, .int x62), (10, .int x56), (9, .int x34), (8, .int x19), (7, .int x60), (5, .int x15), (4, .int x16), (3, .int x13), (2, .int 15), (1, .int x2), (0, .ref (Z.2.2 175))] rfl ?_
                                      have z0 : (0 : Int32).toInt = 0 := rfl
                                      exact J271 0 M61 hf hJ (by omega)
                                    · have tc63 : x56.toInt = x62.toInt := tl_eq c63
                                      refine li_iconst 1 dX12_shorter_263 (by decide) ?_
                                      refine li_iload 2 dX12_shorter_264 rfl ?_
                                      refine li_ishl dX12_shorter_266 ?_
                                      refine li_top (fun x67 ex67 => ?_)
                                      have z1 : (1 : Int32).toInt = 1 := rfl
                                      try (have tx67 := tl_shl255 ex67 (by omega))
                                      refine li_goto 271 dX12_shorter_267 (by decide) ?_
                                      refine li_pick [0, 1, 2, 3, 4, 5, 6, 7, 8, 9, 10] [(6, .int x62), (10, .int x56), (9, .int x34), (8, .int x19), (7, .int x60), (5, .int x15), (4, .int x16), (3, .int x13), (2, .int 15), (1, .int x2), (0, .ref (Z.2.2 175))] rfl ?_
                                      exact J271 x67 M61 hf hJ (by omega)
                                  refine li_icmp_ge 245 dX12_shorter_239 (by decide) (fun c59 => ?_) (fun c59 => ?_)
                                  · have tc59 : x36.toInt ≤ x56.toInt := tl_le c59
                                    refine li_pick [0, 1, 2, 3, 4, 5, 6, 7, 8, 9, 10] [(10, .int x56), (9, .int x34), (8, .int x19), (7, .int x35), (6, .int x36), (5, .int x15), (4, .int x16), (3, .int x13), (2, .int 15), (1, .int x2), (0, .ref (Z.2.2 175))] rfl ?_
                                    exact J245 x35 M57 hf hJ (by omega)
                                  · have tc59 : x56.toInt < x36.toInt := tl_nle c59
                                    refine li_iconst 0 dX12_shorter_242 (by decide) ?_
                                    refine li_istore [(7, .int 0), (10, .int x56), (9, .int x34), (8, .int x19), (6, .int x36), (5, .int x15), (4, .int x16), (3, .int x13), (2, .int 15), (1, .int x2), (0, .ref (Z.2.2 175))] dX12_shorter_243 (by decide) rfl ?_
                                    refine li_pick [1, 2, 3, 0, 4, 5, 6, 7, 8, 9, 10] [(10, .int x56), (9, .int x34), (8, .int x19), (7, .int 0), (6, .int x36), (5, .int x15), (4, .int x16), (3, .int x13), (2, .int 15), (1, .int x2), (0, .ref (Z.2.2 175))] rfl ?_
                                    have z0 : (0 : Int32).toInt = 0 := rfl
                                    exact J245 0 M57 hf hJ (by omega)
                                · have tc52 : ¬ x49.toInt = x51.toInt := tl_ne c52
                                  refine li_goto 274 dX12_shorter_215 (by decide) ?_
                                  refine li_pick [0, 1, 2, 3, 4, 5, 6, 7, 8, 9] [(9, .int x34), (8, .int x19), (7, .int x35), (6, .int x36), (5, .int x15), (4, .int x16), (3, .int x13), (2, .int 15), (1, .int x2), (0, .ref (Z.2.2 175))] rfl ?_
                                  exact J274 x35 x36 M37 hf hJ (by omega)
                        exact L175 _ x33 x20 x21 M30 (Nat.lt_succ_self _) hf hJ (by omega)
                      · skip
                        refine li_if_ne 169 dX12_shorter_163 (by decide) (fun c => absurd rfl c) (fun c => ?_)
                        refine li_goto 280 dX12_shorter_166 (by decide) ?_
                        obtain ⟨x69, ex69⟩ : ∃ y : Int32, y = x19 + 1 := ⟨_, rfl⟩
                        have z1 : (1 : Int32).toInt = 1 := rfl
                        try (have tx69 : x69.toInt = (x19 : Int32).toInt + (1 : Int32).toInt := tl_add ex69 (by omega))
                        refine li_iinc 0 [(8, .int x69), (7, .int x20), (6, .int x21), (5, .int x15), (4, .int x16), (3, .int x13), (2, .int 15), (1, .int x2), (0, .ref (Z.2.2 175))] x69 dX12_shorter_280 rfl (by rw [ex69]; rfl) (by decide) rfl ?_
                        refine li_goto 147 dX12_shorter_283 (by decide) ?_
                        refine li_pick [0, 1, 2, 3, 4, 5, 6, 7, 8] [(8, .int x69), (7, .int x20), (6, .int x21), (5, .int x15), (4, .int x16), (3, .int x13), (2, .int 15), (1, .int x2), (0, .ref (Z.2.2 175))] rfl ?_
                        exact ih147 x69 x20 x21 M30 (by omega) hf hJ (by omega)
                have z0 : (0 : Int32).toInt = 0 := rfl
                have z0 : (0 : Int32).toInt = 0 := rfl
                have z7 : (7 : Int32).toInt = 7 := rfl
                exact L147 _ 0 0 7 M17 (Nat.lt_succ_self _) hf hJ (by omega)
          have z0 : (0 : Int32).toInt = 0 := rfl
          have z1 : (1 : Int32).toInt = 1 := rfl
          exact L131 _ 0 1 M14 (Nat.lt_succ_self _) hf hJ (by omega)
        · have tc12 : 0 ≤ x10.toInt := tl_nlt c12
          refine li_aload_n 3 dX12_shorter_40 rfl ?_
          refine li_getr (k := 41) (N := 52) (T := TX12) (C0 := RX12) dX12_shorter_41 (by decide) sh_175 rfl rfl (by decide) (by decide) li_in12 w_1445 ?_
          refine li_iload_n 0 dX12_shorter_44 rfl ?_
          refine li_ldcw 1000000 dX12_shorter_45 w_1859 ?_
          have z1000000 : (1000000 : Int32).toInt = 1000000 := rfl
          refine li_iast dX12_shorter_48 (by decide) sh_196 (tl_in (by omega)) ?_
          refine li_nm (fun M70 eM70 => ?_)
          have hf := li_fs_ui hf (Or.inr (Or.inr (Or.inl rfl))) eM70
          have hJ := hJ.st (by decide) (li_el_free (by unfold li_led; omega) (by decide) (by decide) (by unfold li_rq; omega)) eM70
          have rM70_7 := J_sl7 (M := M70) hJ
          have rM70_9 := J_sl9 (M := M70) hJ
          have rM70_40 := J_sl40 (M := M70) hJ
          have mM70_7 : (M70.1 175 7).toInt = (M11.1 175 7).toInt := by rw [eM70, li_ui_at, if_neg (by decide)]
          have mM70_9 : (M70.1 175 9).toInt = (M11.1 175 9).toInt := by rw [eM70, li_ui_at, if_neg (by decide)]
          have mM70_40 : (M70.1 175 40).toInt = (M11.1 175 40).toInt := by rw [eM70, li_ui_at, if_neg (by decide)]
          have Ptpg_M70 : li_tpg (M70.1 195) ((M70.1 175 40).toInt) ((x2 : Int32).toInt) := li_tpg_tr (li_cell_ui eM70 (by decide)) (by omega) (fun h9 => by omega) Ptpg_M11
          have Pfw_M70 : li_fw (M70.1 196) ((x10 : Int32).toInt + 1) ((M70.1 175 40).toInt) := li_fw_tr rfl (by omega) (by omega) (li_fw_st eM70 (by omega) (by omega) Pfw_M11)
          have Pfv_M70 : li_fv (M70.1 196) ((x10 : Int32).toInt) ((x10 : Int32).toInt + 1) ((M70.1 175 40).toInt) := li_fv_0 eM70 (by omega) (by omega) (by omega) (by omega)
          refine li_iload_n 0 dX12_shorter_49 rfl ?_
          refine li_iconst 1 dX12_shorter_50 (by decide) ?_
          refine li_iadd dX12_shorter_51 ?_
          refine li_top (fun x71 ex71 => ?_)
          have z1 : (1 : Int32).toInt = 1 := rfl
          try (have tx71 : x71.toInt = (x10 : Int32).toInt + (1 : Int32).toInt := tl_add ex71 (by omega))
          refine li_istore [(4, .int x71), (3, .int x10), (2, .int 15), (1, .int x2), (0, .ref (Z.2.2 175))] dX12_shorter_52 (by decide) rfl ?_
          have L54 : ∀ (n : Nat) (x72 : Int32) (M73 : li_M), (16 - (x72 : Int32).toInt).toNat < n → li_fs (fun i k => i = 181 ∨ i = 195 ∨ i = 196 ∨ (i = 175 ∧ k = 10) ∨ (i = 175 ∧ k = 40) ∨ (i = 175 ∧ k = 7) ∨ (i = 175 ∧ k = 9)) M0 M73 → li_J M73 → (x10 : Int32).toInt + 1 ≤ (x72 : Int32).toInt ∧ (x72 : Int32).toInt ≤ (M73.1 175 40).toInt + 1 ∧ (x10 : Int32).toInt ≤ (M73.1 175 40).toInt - 1 ∧ (M73.1 175 7).toInt = 0 → li_tpg (M73.1 195) ((M73.1 175 40).toInt) ((x2 : Int32).toInt) → li_fw (M73.1 196) ((x10 : Int32).toInt + 1) ((M73.1 175 40).toInt) → li_fv (M73.1 196) ((x10 : Int32).toInt) ((x72 : Int32).toInt) ((M73.1 175 40).toInt) → li_T l Z YX12_shorter d 54 [(4, .int x72), (3, .int x10), (2, .int 15), (1, .int x2), (0, .ref (Z.2.2 175))] [] M73 (fun r M' => (∃ x : Int32, r = some (.int x)) ∧ li_fs (fun i k => i = 181 ∨ i = 195 ∨ i = 196 ∨ (i = 175 ∧ k = 10) ∨ (i = 175 ∧ k = 40) ∨ (i = 175 ∧ k = 7) ∨ (i = 175 ∧ k = 9)) M0 M' ∧ li_J M' ∧ (M'.1 175 7).toInt = 0) := by
            intro n
            induction n with
            | zero => intro x72 M73 hn; exact absurd hn (Nat.not_lt_zero _)
            | succ n ih54 =>
              intro x72 M73 hn hf hJ hi Ptpg_M73 Pfw_M73 Pfv_M73
              have gx72 := tl_rg x72
              have rM73_7 := J_sl7 (M := M73) hJ
              have rM73_9 := J_sl9 (M := M73) hJ
              have rM73_40 := J_sl40 (M := M73) hJ
              refine li_iload 0 dX12_shorter_54 rfl ?_
              refine li_aload_n 4 dX12_shorter_56 rfl ?_
              refine li_geti (k := 40) (N := 52) (T := TX12) (C0 := RX12) dX12_shorter_57 (by decide) sh_175 rfl rfl (by decide) li_in12 w_1444 ?_
              refine li_top (fun x74 ex74 => ?_)
              have gx74 : 0 ≤ x74.toInt ∧ x74.toInt ≤ 14 := by rw [ex74]; exact J_sl40 hJ
              have mx74 : x74.toInt = (M73.1 175 40).toInt := tl_slot ex74
              refine li_icmp_gt 107 dX12_shorter_60 (by decide) (fun c75 => ?_) (fun c75 => ?_)
              · have tc75 : x74.toInt < x72.toInt := tl_lt c75
                obtain ⟨x76, ex76⟩ : ∃ y : Int32, y = x10 + (-1) := ⟨_, rfl⟩
                have zm1 : ((-1) : Int32).toInt = -1 := rfl
                try (have tx76 : x76.toInt = (x10 : Int32).toInt + ((-1) : Int32).toInt := tl_add ex76 (by omega))
                refine li_iinc 1 [(3, .int x76), (4, .int x72), (2, .int 15), (1, .int x2), (0, .ref (Z.2.2 175))] x76 dX12_shorter_107 rfl (by rw [ex76]; rfl) (by decide) rfl ?_
                refine li_goto 36 dX12_shorter_110 (by decide) ?_
                refine li_pick [0, 2, 3, 4] [(3, .int x76), (2, .int 15), (1, .int x2), (0, .ref (Z.2.2 175))] rfl ?_
                exact ih36 x76 M73 (by omega) hf hJ (by omega) (by first | exact li_tpg_tr rfl (by omega) (fun h9 => by omega) Ptpg_M73) (by first | exact li_fw_tr rfl (by omega) (by omega) Pfw_M73 | exact li_fw_more Pfw_M73 Pfv_M73 (by omega) (by omega) (by omega))
              · have tc75 : x72.toInt ≤ x74.toInt := tl_nlt c75
                refine li_aload_n 4 dX12_shorter_63 rfl ?_
                refine li_getr (k := 39) (N := 52) (T := TX12) (C0 := RX12) dX12_shorter_64 (by decide) sh_175 rfl rfl (by decide) (by decide) li_in12 w_1443 ?_
                refine li_iload_n 2 dX12_shorter_67 rfl ?_
                refine li_iload_n 1 dX12_shorter_68 rfl ?_
                refine li_imul dX12_shorter_69 ?_
                refine li_top (fun x77 ex77 => ?_)
                have z15 : (15 : Int32).toInt = 15 := rfl
                try (have tx77 : x77.toInt = 15 * (x10 : Int32).toInt := tl_mul ex77 (show -2147483648 ≤ 15 * (x10 : Int32).toInt ∧ 15 * (x10 : Int32).toInt ≤ 2147483647 by omega))
                refine li_iload 0 dX12_shorter_70 rfl ?_
                refine li_iadd dX12_shorter_72 ?_
                refine li_top (fun x78 ex78 => ?_)
                try (have tx78 : x78.toInt = (x77 : Int32).toInt + (x72 : Int32).toInt := tl_add ex78 (by omega))
                refine li_iald dX12_shorter_73 (by decide) sh_195 (tl_in (by omega)) ?_
                refine li_top (fun x79 ex79 => ?_)
                have gx79 := tl_rg x79
                have wx79 : (x72 : Int32).toInt = (x10 : Int32).toInt + 1 → ¬ x79.toInt = 0 := fun h9 => li_tp_ld (Ptpg_M73 (by omega)) ex79 (f := (x10 : Int32).toInt) (by omega) (by omega) (by omega)
                have J101 : ∀  (M81 : li_M), li_fs (fun i k => i = 181 ∨ i = 195 ∨ i = 196 ∨ (i = 175 ∧ k = 10) ∨ (i = 175 ∧ k = 40) ∨ (i = 175 ∧ k = 7) ∨ (i = 175 ∧ k = 9)) M0 M81 → li_J M81 → (x10 : Int32).toInt ≤ (M81.1 175 40).toInt - 1 ∧ (x72 : Int32).toInt ≤ (M81.1 175 40).toInt ∧ (M81.1 175 7).toInt = 0 → li_tpg (M81.1 195) ((M81.1 175 40).toInt) ((x2 : Int32).toInt) → li_fw (M81.1 196) ((x10 : Int32).toInt + 1) ((M81.1 175 40).toInt) → li_fv (M81.1 196) ((x10 : Int32).toInt) ((x72 : Int32).toInt + 1) ((M81.1 175 40).toInt) → li_T l Z YX12_shorter d 101 [(4, .int x72), (3, .int x10), (2, .int 15), (1, .int x2), (0, .ref (Z.2.2 175))] [] M81 (fun r M' => (∃ x : Int32, r = some (.int x)) ∧ li_fs (fun i k => i = 181 ∨ i = 195 ∨ i = 196 ∨ (i = 175 ∧ k = 10) ∨ (i = 175 ∧ k = 40) ∨ (i = 175 ∧ k = 7) ∨ (i = 175 ∧ k = 9)) M0 M' ∧ li_J M' ∧ (M'.1 175 7).toInt = 0) := by
                  intro  M81 hf hJ hi Ptpg_M81 Pfw_M81 Pfv_M81
                  have rM81_7 := J_sl7 (M := M81) hJ
                  have rM81_9 := J_sl9 (M := M81) hJ
                  have rM81_40 := J_sl40 (M := M81) hJ
                  obtain ⟨x82, ex82⟩ : ∃ y : Int32, y = x72 + 1 := ⟨_, rfl⟩
                  have z1 : (1 : Int32).toInt = 1 := rfl
                  try (have tx82 : x82.toInt = (x72 : Int32).toInt + (1 : Int32).toInt := tl_add ex82 (by omega))
                  refine li_iinc 0 [(4, .int x82), (3, .int x10), (2, .int 15), (1, .int x2), (0, .ref (Z.2.2 175))] x82 dX12_shorter_101 rfl (by rw [ex82]; rfl) (by decide) rfl ?_
                  refine li_goto 54 dX12_shorter_104 (by decide) ?_
                  refine li_pick [0, 1, 2, 3, 4] [(4, .int x82), (3, .int x10), (2, .int 15), (1, .int x2), (0, .ref (Z.2.2 175))] rfl ?_
                  exact ih54 x82 M81 (by omega) hf hJ (by omega) (by first | exact li_tpg_tr rfl (by omega) (fun h9 => by omega) Ptpg_M81) (by first | exact li_fw_tr rfl (by omega) (by omega) Pfw_M81 | exact li_fw_more Pfw_M81 Pfv_M81 (by omega) (by omega) (by omega)) (by first | exact li_fv_tr rfl (by omega) (by omega) (by omega) Pfv_M81 | exact li_fv_skip Pfv_M81 (by omega) (by omega))
                refine li_if_eq 101 dX12_shorter_74 (by decide) (fun c80 => ?_) (fun c80 => ?_)
                · have tc80 : x79.toInt = 0 := tl_eq c80
                  refine li_pick [0, 1, 2, 3, 4] [(4, .int x72), (3, .int x10), (2, .int 15), (1, .int x2), (0, .ref (Z.2.2 175))] rfl ?_
                  exact J101  M73 hf hJ (by omega) (by first | exact li_tpg_tr rfl (by omega) (fun h9 => by omega) Ptpg_M73) (by first | exact li_fw_tr rfl (by omega) (by omega) Pfw_M73 | exact li_fw_more Pfw_M73 Pfv_M73 (by omega) (by omega) (by omega)) (by first | exact li_fv_tr rfl (by omega) (by omega) (by omega) Pfv_M73 | exact li_fv_skip Pfv_M73 (by omega) (by omega))
                · have tc80 : ¬ x79.toInt = 0 := tl_ne c80
                  refine li_aload_n 4 dX12_shorter_77 rfl ?_
                  refine li_getr (k := 41) (N := 52) (T := TX12) (C0 := RX12) dX12_shorter_78 (by decide) sh_175 rfl rfl (by decide) (by decide) li_in12 w_1445 ?_
                  refine li_iload_n 1 dX12_shorter_81 rfl ?_
                  refine li_aload_n 4 dX12_shorter_82 rfl ?_
                  refine li_getr (k := 41) (N := 52) (T := TX12) (C0 := RX12) dX12_shorter_83 (by decide) sh_175 rfl rfl (by decide) (by decide) li_in12 w_1445 ?_
                  refine li_iload_n 1 dX12_shorter_86 rfl ?_
                  refine li_iald dX12_shorter_87 (by decide) sh_196 (tl_in (by omega)) ?_
                  refine li_top (fun x83 ex83 => ?_)
                  have gx83 := tl_rg x83
                  have wx83 := li_fv_ld Pfv_M73 ex83 (by omega) (by omega) (by omega)
                  refine li_iconst 1 dX12_shorter_88 (by decide) ?_
                  refine li_aload_n 4 dX12_shorter_89 rfl ?_
                  refine li_getr (k := 41) (N := 52) (T := TX12) (C0 := RX12) dX12_shorter_90 (by decide) sh_175 rfl rfl (by decide) (by decide) li_in12 w_1445 ?_
                  refine li_iload 0 dX12_shorter_93 rfl ?_
                  refine li_iald dX12_shorter_95 (by decide) sh_196 (tl_in (by omega)) ?_
                  refine li_top (fun x84 ex84 => ?_)
                  have gx84 := tl_rg x84
                  have wx84 := li_fw_ld Pfw_M73 ex84 (by omega) (by omega) (by omega)
                  refine li_iadd dX12_shorter_96 ?_
                  refine li_top (fun x85 ex85 => ?_)
                  have z1 : (1 : Int32).toInt = 1 := rfl
                  try (have tx85 : x85.toInt = (1 : Int32).toInt + (x84 : Int32).toInt := tl_add ex85 (by omega))
                  refine li_mmin dX12_shorter_97 (by omega) w_1701 w_726 w_113 w_727 (Nat.le_of_ble_eq_true rfl) ?_
                  refine li_top (fun x86 ex86 => ?_)
                  have tx86 := tl_min2 ex86
                  refine li_iast dX12_shorter_100 (by decide) sh_196 (tl_in (by omega)) ?_
                  refine li_nm (fun M87 eM87 => ?_)
                  have hf := li_fs_ui hf (Or.inr (Or.inr (Or.inl rfl))) eM87
                  have hJ := hJ.st (by decide) (li_el_free (by unfold li_led; omega) (by decide) (by decide) (by unfold li_rq; omega)) eM87
                  have rM87_7 := J_sl7 (M := M87) hJ
                  have rM87_9 := J_sl9 (M := M87) hJ
                  have rM87_40 := J_sl40 (M := M87) hJ
                  have mM87_7 : (M87.1 175 7).toInt = (M73.1 175 7).toInt := by rw [eM87, li_ui_at, if_neg (by decide)]
                  have mM87_9 : (M87.1 175 9).toInt = (M73.1 175 9).toInt := by rw [eM87, li_ui_at, if_neg (by decide)]
                  have mM87_40 : (M87.1 175 40).toInt = (M73.1 175 40).toInt := by rw [eM87, li_ui_at, if_neg (by decide)]
                  have Ptpg_M87 : li_tpg (M87.1 195) ((M87.1 175 40).toInt) ((x2 : Int32).toInt) := li_tpg_tr (li_cell_ui eM87 (by decide)) (by omega) (fun h9 => by omega) Ptpg_M73
                  have Pfw_M87 : li_fw (M87.1 196) ((x10 : Int32).toInt + 1) ((M87.1 175 40).toInt) := li_fw_tr rfl (by omega) (by omega) (li_fw_st eM87 (by omega) (by omega) Pfw_M73)
                  have Pfv_M87 : li_fv (M87.1 196) ((x10 : Int32).toInt) ((x72 : Int32).toInt + 1) ((M87.1 175 40).toInt) := li_fv_st eM87 (by omega) (by omega) (by omega) (by omega)
                  refine li_pick [0, 1, 2, 3, 4] [(4, .int x72), (3, .int x10), (2, .int 15), (1, .int x2), (0, .ref (Z.2.2 175))] rfl ?_
                  exact J101  M87 hf hJ (by omega) (by first | exact li_tpg_tr rfl (by omega) (fun h9 => by omega) Ptpg_M87) (by first | exact li_fw_tr rfl (by omega) (by omega) Pfw_M87 | exact li_fw_more Pfw_M87 Pfv_M87 (by omega) (by omega) (by omega)) (by first | exact li_fv_tr rfl (by omega) (by omega) (by omega) Pfv_M87 | exact li_fv_skip Pfv_M87 (by omega) (by omega))
          exact L54 _ x71 M70 (Nat.lt_succ_self _) hf hJ (by omega) (by first | exact li_tpg_tr rfl (by omega) (fun h9 => by omega) Ptpg_M70) (by first | exact li_fw_tr rfl (by omega) (by omega) Pfw_M70 | exact li_fw_more Pfw_M70 Pfv_M70 (by omega) (by omega) (by omega)) (by first | exact li_fv_tr rfl (by omega) (by omega) (by omega) Pfv_M70 | exact li_fv_skip Pfv_M70 (by omega) (by omega))
    exact L36 _ x9 M7 (Nat.lt_succ_self _) hf hJ (by omega) (by first | exact li_tpg_tr rfl (by omega) (fun h9 => by omega) Ptpg_M7) (by first | exact li_fw_tr rfl (by omega) (by omega) Pfw_M7 | exact li_fw_more Pfw_M7 Pfv_M7 (by omega) (by omega) (by omega))
  · have tc5 : x2.toInt < 0 := tl_nle c5
    refine li_iload_n 0 dX12_shorter_14 rfl ?_
    exact li_iret dX12_shorter_15 rfl rfl ⟨⟨_, rfl⟩, hf, hJ, (by omega)⟩
