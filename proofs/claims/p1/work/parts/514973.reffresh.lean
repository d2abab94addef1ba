set_option maxRecDepth 100000 in
set_option maxHeartbeats 4000000 in
theorem k15_X12_readRule {l : Launch} {Z : li_Z} (d : Nat) (hdZq : 2 ≤ d) (M0 : li_M) (hJ : li_J M0) (z7 : (M0.1 175 7).toInt = 0) : li_Met l Z YX12_readRule d [.ref (Z.2.2 175)] M0 (fun r M' => ((r = some (.int 1) ∧ (M'.1 175 7).toInt = 0) ∨ (r = some (.int 0) ∧ False)) ∧ li_fs (fun i k => i = 1000 ∨ (i = 175 ∧ k = 12) ∨ (i = 175 ∧ k = 13) ∨ (i = 175 ∧ k = 14) ∨ (i = 175 ∧ k = 15) ∨ (i = 175 ∧ k = 20) ∨ (i = 175 ∧ k = 7)) M0 M' ∧ li_J M') := by
  refine li_enter (by decide +kernel) (Nat.le_of_ble_eq_true rfl) ?_
  show li_T l Z YX12_readRule d 0 [(0, .ref (Z.2.2 175))] [] M0 _
  have hf : li_fs (fun i k => i = 1000 ∨ (i = 175 ∧ k = 12) ∨ (i = 175 ∧ k = 13) ∨ (i = 175 ∧ k = 14) ∨ (i = 175 ∧ k = 15) ∨ (i = 175 ∧ k = 20) ∨ (i = 175 ∧ k = 7)) M0 M0 := li_fs_refl
  have rM0_7 := J_sl7 (M := M0) hJ
  have rM0_12 := J_sl12 (M := M0) hJ
  have rM0_13 := J_sl13 (M := M0) hJ
  have rM0_14 := J_sl14 (M := M0) hJ
  have rM0_15 := J_sl15 (M := M0) hJ
  have rM0_1 := J_sl1 (M := M0) hJ
  have rM0_4 := J_sl4 (M := M0) hJ
  refine li_aload_n 0 dX12_readRule_0 rfl ?_
  refine li_geti (k := 7) (N := 52) (T := TX12) (C0 := RX12) dX12_readRule_1 (by decide) sh_175 rfl rfl (by decide) li_in12 w_1411 ?_
  refine li_top (fun x1Zq ex1 => ?_)
  have gx1 : 0 ≤ x1Zq.toInt ∧ x1Zq.toInt ≤ 80 := by rw [ex1]; exact J_sl7 hJ
  have mx1 : x1Zq.toInt = (M0.1 175 7).toInt := tl_slot ex1
  refine li_istore_n [(1, .int x1Zq), (0, .ref (Z.2.2 175))] dX12_readRule_4 (by decide) rfl ?_
  refine li_aload_n 1 dX12_readRule_5 rfl ?_
  refine li_aload_n 1 dX12_readRule_6 rfl ?_
  refine li_getr (k := 6) (N := 52) (T := TX12) (C0 := RX12) dX12_readRule_7 (by decide) sh_175 rfl rfl (by decide) (by decide) li_in12 w_1410 ?_
  refine li_iload_n 0 dX12_readRule_10 rfl ?_
  refine li_bipush 40 dX12_readRule_11 (by decide) ?_
  have z40 : (40 : Int32).toInt = 40 := rfl
  refine li_callV (n := 3) (As := [.ref (Z.2.2 180), .int x1Zq, .int 40]) dX12_readRule_13 (k_X12_begin (d - 1) (by unfold li_rq; omega) x1Zq 40 M0 hJ (show 0 ≤ (x1Zq : Int32).toInt ∧ (x1Zq : Int32).toInt ≤ (li_qn 180 : Int) by have := li_qn_fix; omega) (by omega)) (by omega) (Nat.le_of_ble_eq_true rfl) w_1581 w_1583 w_42 w_112 w_1584 (by decide +kernel) rfl (by decide) sh_175 rfl rfl (Nat.le_of_ble_eq_true rfl) (fun r M3Zq h4 => ?_)
  obtain ⟨rfl, h4, jM3, nM3⟩ := h4
  have hf := li_fs_trans hf h4 (fun i k => fun hZq => Or.elim hZq (fun hZq => Or.inr (Or.inl hZq)) (fun hZq => Or.elim hZq (fun hZq => Or.inr (Or.inr (Or.inl hZq))) (fun hZq => Or.elim hZq (fun hZq => Or.inr (Or.inr (Or.inr (Or.inl hZq)))) (fun hZq => Or.elim hZq (fun hZq => Or.inr (Or.inr (Or.inr (Or.inr (Or.inl hZq))))) (fun hZq => Or.inl hZq)))))
  have hJ := jM3
  have rM3_7 := J_sl7 (M := M3Zq) hJ
  have rM3_12 := J_sl12 (M := M3Zq) hJ
  have rM3_13 := J_sl13 (M := M3Zq) hJ
  have rM3_14 := J_sl14 (M := M3Zq) hJ
  have rM3_15 := J_sl15 (M := M3Zq) hJ
  have rM3_1 := J_sl1 (M := M3Zq) hJ
  have rM3_4 := J_sl4 (M := M3Zq) hJ
  have mM3_7 : (M3Zq.1 175 7).toInt = (M0.1 175 7).toInt := tl_slot (h4.1 175 7 (show ¬ ((175 = 175 ∧ 7 = 12) ∨ (175 = 175 ∧ 7 = 13) ∨ (175 = 175 ∧ 7 = 14) ∨ (175 = 175 ∧ 7 = 15) ∨ 175 = 1000) by decide))
  have mM3_1 : (M3Zq.1 175 1).toInt = (M0.1 175 1).toInt := tl_slot (h4.1 175 1 (show ¬ ((175 = 175 ∧ 1 = 12) ∨ (175 = 175 ∧ 1 = 13) ∨ (175 = 175 ∧ 1 = 14) ∨ (175 = 175 ∧ 1 = 15) ∨ 175 = 1000) by decide))
  have mM3_4 : (M3Zq.1 175 4).toInt = (M0.1 175 4).toInt := tl_slot (h4.1 175 4 (show ¬ ((175 = 175 ∧ 4 = 12) ∨ (175 = 175 ∧ 4 = 13) ∨ (175 = 175 ∧ 4 = 14) ∨ (175 = 175 ∧ 4 = 15) ∨ 175 = 1000) by decide))
  refine li_aload_n 1 dX12_readRule_16 rfl ?_
  refine li_iconst 0 dX12_readRule_17 (by decide) ?_
  refine li_puti (k := 7) (N := 52) (T := TX12) (C0 := RX12) dX12_readRule_18 (by decide) sh_175 rfl rfl (by decide) li_in12 tyX12_ok nmX12 rfl rfl rfl rfl w_1411 ?_
  refine li_nm (fun M5Zq eM5 => ?_)
  have hf := li_fs_ui hf (Or.inr (Or.inr (Or.inr (Or.inr (Or.inr (Or.inr (⟨rfl, rfl⟩))))))) eM5
  have z0 : (0 : Int32).toInt = 0 := rfl
  have hJ := J_pt7 hJ (show 0 ≤ (0 : Int32).toInt ∧ (0 : Int32).toInt ≤ 80 by omega) eM5
  have rM5_7 := J_sl7 (M := M5Zq) hJ
  have rM5_12 := J_sl12 (M := M5Zq) hJ
  have rM5_13 := J_sl13 (M := M5Zq) hJ
  have rM5_14 := J_sl14 (M := M5Zq) hJ
  have rM5_15 := J_sl15 (M := M5Zq) hJ
  have rM5_1 := J_sl1 (M := M5Zq) hJ
  have rM5_4 := J_sl4 (M := M5Zq) hJ
  have mM5_7 : (M5Zq.1 175 7).toInt = 0 := by rw [eM5, li_ui_at, if_pos rfl, if_pos rfl]; rfl
  have mM5_12 : (M5Zq.1 175 12).toInt = (M3Zq.1 175 12).toInt := by rw [eM5, li_ui_at, if_pos rfl, if_neg (by decide)]
  have mM5_13 : (M5Zq.1 175 13).toInt = (M3Zq.1 175 13).toInt := by rw [eM5, li_ui_at, if_pos rfl, if_neg (by decide)]
  have mM5_14 : (M5Zq.1 175 14).toInt = (M3Zq.1 175 14).toInt := by rw [eM5, li_ui_at, if_pos rfl, if_neg (by decide)]
  have mM5_15 : (M5Zq.1 175 15).toInt = (M3Zq.1 175 15).toInt := by rw [eM5, li_ui_at, if_pos rfl, if_neg (by decide)]
  have mM5_1 : (M5Zq.1 175 1).toInt = (M3Zq.1 175 1).toInt := by rw [eM5, li_ui_at, if_pos rfl, if_neg (by decide)]
  have mM5_4 : (M5Zq.1 175 4).toInt = (M3Zq.1 175 4).toInt := by rw [eM5, li_ui_at, if_pos rfl, if_neg (by decide)]
  refine li_aload_n 1 dX12_readRule_21 rfl ?_
  refine li_iconst 0 dX12_readRule_22 (by decide) ?_
  refine li_puti (k := 20) (N := 52) (T := TX12) (C0 := RX12) dX12_readRule_23 (by decide) sh_175 rfl rfl (by decide) li_in12 tyX12_ok nmX12 rfl rfl (li_nz (Or.inl rfl)) (li_fz (Or.inl rfl)) w_1424 ?_
  refine li_nm (fun M6Zq eM6 => ?_)
  have hf := li_fs_ui hf (Or.inr (Or.inr (Or.inr (Or.inr (Or.inr (Or.inl ⟨rfl, rfl⟩)))))) eM6
  have z0 : (0 : Int32).toInt = 0 := rfl
  have hJ := hJ.put (k := 20) (by decide) (rg_free rfl) eM6
  have rM6_7 := J_sl7 (M := M6Zq) hJ
  have rM6_12 := J_sl12 (M := M6Zq) hJ
  have rM6_13 := J_sl13 (M := M6Zq) hJ
  have rM6_14 := J_sl14 (M := M6Zq) hJ
  have rM6_15 := J_sl15 (M := M6Zq) hJ
  have rM6_1 := J_sl1 (M := M6Zq) hJ
  have rM6_4 := J_sl4 (M := M6Zq) hJ
  have mM6_7 : (M6Zq.1 175 7).toInt = (M5Zq.1 175 7).toInt := by rw [eM6, li_ui_at, if_pos rfl, if_neg (by decide)]
  have mM6_12 : (M6Zq.1 175 12).toInt = (M5Zq.1 175 12).toInt := by rw [eM6, li_ui_at, if_pos rfl, if_neg (by decide)]
  have mM6_13 : (M6Zq.1 175 13).toInt = (M5Zq.1 175 13).toInt := by rw [eM6, li_ui_at, if_pos rfl, if_neg (by decide)]
  have mM6_14 : (M6Zq.1 175 14).toInt = (M5Zq.1 175 14).toInt := by rw [eM6, li_ui_at, if_pos rfl, if_neg (by decide)]
  have mM6_15 : (M6Zq.1 175 15).toInt = (M5Zq.1 175 15).toInt := by rw [eM6, li_ui_at, if_pos rfl, if_neg (by decide)]
  have mM6_1 : (M6Zq.1 175 1).toInt = (M5Zq.1 175 1).toInt := by rw [eM6, li_ui_at, if_pos rfl, if_neg (by decide)]
  have mM6_4 : (M6Zq.1 175 4).toInt = (M5Zq.1 175 4).toInt := by rw [eM6, li_ui_at, if_pos rfl, if_neg (by decide)]
  refine li_iload_n 0 dX12_readRule_26 rfl ?_
  refine li_if_le 52 dX12_readRule_27 (by decide) (fun c7Zq => ?_) (fun c7Zq => ?_)
  · have tc7 : x1Zq.toInt ≤ 0 := tl_le c7Zq
    refine li_aload_n 1 dX12_readRule_52 rfl ?_
    refine li_callV (n := 0) (As := []) dX12_readRule_53 (k_X12_fine (d - 1) (by omega)  M6Zq hJ ) (by omega) (Nat.le_of_ble_eq_true rfl) w_1585 w_1587 w_43 w_112 w_1588 (by decide +kernel) rfl (by decide) sh_175 rfl rfl (Nat.le_of_ble_eq_true rfl) (fun r M9Zq h10 => ?_)
    obtain ⟨qx8, h10, jM9⟩ := h10
    have hf := li_fs_trans hf h10 (fun i k hZq => False.elim hZq)
    have kM9 : (li_hr M9Zq).toInt = (li_hr M6Zq).toInt := li_hr_fs h10 id id id id (fun _ _ _ => id) (by assumption)
    have hJ := jM9
    have rM9_7 := J_sl7 (M := M9Zq) hJ
    have rM9_12 := J_sl12 (M := M9Zq) hJ
    have rM9_13 := J_sl13 (M := M9Zq) hJ
    have rM9_14 := J_sl14 (M := M9Zq) hJ
    have rM9_15 := J_sl15 (M := M9Zq) hJ
    have rM9_1 := J_sl1 (M := M9Zq) hJ
    have rM9_4 := J_sl4 (M := M9Zq) hJ
    have mM9_7 : (M9Zq.1 175 7).toInt = (M6Zq.1 175 7).toInt := tl_slot (h10.1 175 7 id)
    have mM9_12 : (M9Zq.1 175 12).toInt = (M6Zq.1 175 12).toInt := tl_slot (h10.1 175 12 id)
    have mM9_13 : (M9Zq.1 175 13).toInt = (M6Zq.1 175 13).toInt := tl_slot (h10.1 175 13 id)
    have mM9_14 : (M9Zq.1 175 14).toInt = (M6Zq.1 175 14).toInt := tl_slot (h10.1 175 14 id)
    have mM9_15 : (M9Zq.1 175 15).toInt = (M6Zq.1 175 15).toInt := tl_slot (h10.1 175 15 id)
    have mM9_1 : (M9Zq.1 175 1).toInt = (M6Zq.1 175 1).toInt := tl_slot (h10.1 175 1 id)
    have mM9_4 : (M9Zq.1 175 4).toInt = (M6Zq.1 175 4).toInt := tl_slot (h10.1 175 4 id)
    rcases qx8 with ⟨rfl, qx8⟩ | ⟨rfl, qx8⟩
    · skip
      have z1 : (1 : Int32).toInt = 1 := rfl
      exact li_iret dX12_readRule_56 rfl (li_nz (Or.inr rfl)) ⟨Or.inl ⟨rfl, (by omega)⟩, hf, hJ⟩
    · exfalso; omega
  · have tc7 : 0 < x1Zq.toInt := tl_nle c7Zq
    exfalso; omega
set_option maxRecDepth 100000 in
set_option maxHeartbeats 4000000 in
theorem k15_X12_rule {l : Launch} {Z : li_Z} (d : Nat) (hdZq : 3 ≤ d) (M0 : li_M) (hJ : li_J M0) (z7 : (M0.1 175 7).toInt = 0) : li_Met l Z YX12_rule d [.ref (Z.2.2 175)] M0 (fun r M' => (∃ x : Int32, r = some (.int x) ∧ (x.toInt = 0)) ∧ li_fs (fun i k => i = 1000 ∨ (i = 175 ∧ k = 10) ∨ (i = 175 ∧ k = 12) ∨ (i = 175 ∧ k = 13) ∨ (i = 175 ∧ k = 14) ∨ (i = 175 ∧ k = 15) ∨ (i = 175 ∧ k = 18) ∨ (i = 175 ∧ k = 20) ∨ (i = 175 ∧ k = 7)) M0 M' ∧ li_J M') := by
  refine li_enter (by decide +kernel) (Nat.le_of_ble_eq_true rfl) ?_
  show li_T l Z YX12_rule d 0 [(0, .ref (Z.2.2 175))] [] M0 _
  have hf : li_fs (fun i k => i = 1000 ∨ (i = 175 ∧ k = 10) ∨ (i = 175 ∧ k = 12) ∨ (i = 175 ∧ k = 13) ∨ (i = 175 ∧ k = 14) ∨ (i = 175 ∧ k = 15) ∨ (i = 175 ∧ k = 18) ∨ (i = 175 ∧ k = 20) ∨ (i = 175 ∧ k = 7)) M0 M0 := li_fs_refl
  have rM0_7 := J_sl7 (M := M0) hJ
  refine li_aload_n 0 dX12_rule_0 rfl ?_
  refine li_iconst 0 dX12_rule_1 (by decide) ?_
  refine li_puti (k := 10) (N := 52) (T := TX12) (C0 := RX12) dX12_rule_2 (by decide) sh_175 rfl rfl (by decide) li_in12 tyX12_ok nmX12 rfl rfl rfl rfl w_1414 ?_
  refine li_nm (fun M1Zq eM1 => ?_)
  have hf := li_fs_ui hf (Or.inr (Or.inl ⟨rfl, rfl⟩)) eM1
  have z0 : (0 : Int32).toInt = 0 := rfl
  have hJ := hJ.put (k := 10) (by decide) (rg_free rfl) eM1
  have rM1_7 := J_sl7 (M := M1Zq) hJ
  have mM1_7 : (M1Zq.1 175 7).toInt = (M0.1 175 7).toInt := by rw [eM1, li_ui_at, if_pos rfl, if_neg (by decide)]
  refine li_aload_n 0 dX12_rule_5 rfl ?_
  refine li_geti (k := 7) (N := 52) (T := TX12) (C0 := RX12) dX12_rule_6 (by decide) sh_175 rfl rfl (by decide) li_in12 w_1411 ?_
  refine li_top (fun x2Zq ex2Zq => ?_)
  have gx2 : 0 ≤ x2Zq.toInt ∧ x2Zq.toInt ≤ 80 := by rw [ex2Zq]; exact J_sl7 hJ
  have mx2 : x2Zq.toInt = (M1Zq.1 175 7).toInt := tl_slot ex2Zq
  refine li_istore_n [(1, .int x2Zq), (0, .ref (Z.2.2 175))] dX12_rule_9 (by decide) rfl ?_
  refine li_aload_n 1 dX12_rule_10 rfl ?_
  refine li_callV (n := 0) (As := []) dX12_rule_11 (k15_X12_readRule (d - 1) (by omega)  M1Zq hJ (by omega) ) (by omega) (Nat.le_of_ble_eq_true rfl) w_1625 w_1627 w_51 w_112 w_1628 (by decide +kernel) rfl (by decide) sh_175 rfl rfl (Nat.le_of_ble_eq_true rfl) (fun r M4Zq h5 => ?_)
  obtain ⟨qx3, h5, jM4⟩ := h5
  have hf := li_fs_trans hf h5 (fun i k => fun hZq => Or.elim hZq (fun hZq => Or.inl hZq) (fun hZq => Or.elim hZq (fun hZq => Or.inr (Or.inr (Or.inl hZq))) (fun hZq => Or.elim hZq (fun hZq => Or.inr (Or.inr (Or.inr (Or.inl hZq)))) (fun hZq => Or.elim hZq (fun hZq => Or.inr (Or.inr (Or.inr (Or.inr (Or.inl hZq))))) (fun hZq => Or.elim hZq (fun hZq => Or.inr (Or.inr (Or.inr (Or.inr (Or.inr (Or.inl hZq)))))) (fun hZq => Or.elim hZq (fun hZq => Or.inr (Or.inr (Or.inr (Or.inr (Or.inr (Or.inr (Or.inr (Or.inl hZq)))))))) (fun hZq => Or.inr (Or.inr (Or.inr (Or.inr (Or.inr (Or.inr (Or.inr (Or.inr hZq))))))))))))))
  have hJ := jM4
  have rM4_7 := J_sl7 (M := M4Zq) hJ
  rcases qx3 with ⟨rfl, qx3⟩ | ⟨rfl, qx3⟩
  · skip
    refine li_if_ne 24 dX12_rule_14 (by decide) (fun c => ?_) (fun c => absurd c (by decide))
    refine li_iconst 0 dX12_rule_24 (by decide) ?_
    refine li_istore_n [(2, .int 0), (1, .int x2Zq), (0, .ref (Z.2.2 175))] dX12_rule_25 (by decide) rfl ?_
    have L26 : ∀ (n : Nat) (x7 : Int32) (M8Zq : li_M), ((x7 : Int32).toInt).toNat < n → li_fs (fun i k => i = 1000 ∨ (i = 175 ∧ k = 10) ∨ (i = 175 ∧ k = 12) ∨ (i = 175 ∧ k = 13) ∨ (i = 175 ∧ k = 14) ∨ (i = 175 ∧ k = 15) ∨ (i = 175 ∧ k = 18) ∨ (i = 175 ∧ k = 20) ∨ (i = 175 ∧ k = 7)) M0 M8Zq → li_J M8Zq → 0 ≤ (x7 : Int32).toInt ∧ (x2Zq : Int32).toInt = 0 → li_T l Z YX12_rule d 26 [(2, .int x7), (1, .int x2Zq), (0, .ref (Z.2.2 175))] [] M8Zq (fun r M' => (∃ x : Int32, r = some (.int x) ∧ (x.toInt = 0)) ∧ li_fs (fun i k => i = 1000 ∨ (i = 175 ∧ k = 10) ∨ (i = 175 ∧ k = 12) ∨ (i = 175 ∧ k = 13) ∨ (i = 175 ∧ k = 14) ∨ (i = 175 ∧ k = 15) ∨ (i = 175 ∧ k = 18) ∨ (i = 175 ∧ k = 20) ∨ (i = 175 ∧ k = 7)) M0 M' ∧ li_J M') := by
      intro n
      induction n with
      | zero => intro x7 M8Zq hn; exact absurd hn (Nat.not_lt_zero _)
      | succ n ih26 =>
        intro x7 M8Zq hn hf hJ hiZq
        have gx7 := tl_rg x7
        have rM8_7 := J_sl7 (M := M8Zq) hJ
        refine li_iload_n 0 dX12_rule_26 rfl ?_
        refine li_iload_n 1 dX12_rule_27 rfl ?_
        refine li_icmp_ge 49 dX12_rule_28 (by decide) (fun c9Zq => ?_) (fun c9Zq => ?_)
        · have tc9 : x2Zq.toInt ≤ x7.toInt := tl_le c9Zq
          refine li_aload_n 2 dX12_rule_49 rfl ?_
          refine li_iload_n 1 dX12_rule_50 rfl ?_
          refine li_puti (k := 18) (N := 52) (T := TX12) (C0 := RX12) dX12_rule_51 (by decide) sh_175 rfl rfl (by decide) li_in12 tyX12_ok nmX12 rfl rfl rfl rfl w_1422 ?_
          refine li_nm (fun M10 eM10 => ?_)
          have hf := li_fs_ui hf (Or.inr (Or.inr (Or.inr (Or.inr (Or.inr (Or.inr (Or.inl ⟨rfl, rfl⟩))))))) eM10
          have hJ := J_pt18 hJ (show 0 ≤ (x2Zq : Int32).toInt ∧ (x2Zq : Int32).toInt ≤ 40 by omega) eM10
          have rM10_7 := J_sl7 (M := M10) hJ
          have mM10_7 : (M10.1 175 7).toInt = (M8Zq.1 175 7).toInt := by rw [eM10, li_ui_at, if_pos rfl, if_neg (by decide)]
          refine li_iconst 0 dX12_rule_54 (by decide) ?_
          have z0 : (0 : Int32).toInt = 0 := rfl
          exact li_iret dX12_rule_55 rfl rfl ⟨⟨_, rfl, (by first | omega | (intro _; omega) | (refine ⟨?_, ?_⟩ <;> first | omega | (intro _; omega)) | (refine ⟨?_, ?_, ?_, ?_⟩ <;> first | omega | (intro _; omega)))⟩, hf, hJ⟩
        · have tc9 : x7.toInt < x2Zq.toInt := tl_nle c9Zq
          exfalso; omega
    have z0 : (0 : Int32).toInt = 0 := rfl
    exact L26 _ 0 M4Zq (Nat.lt_succ_self _) hf hJ (by omega)
  · exfalso; omega
set_option maxRecDepth 100000 in
set_option maxHeartbeats 4000000 in
theorem k15_X12_rate {l : Launch} {Z : li_Z} (d : Nat) (hdZq : 3 ≤ d) (M0 : li_M) (hJ : li_J M0) (z1 : (M0.1 175 1).toInt = 0) (z4 : (M0.1 175 4).toInt = 0) (z7 : (M0.1 175 7).toInt = 0) : li_Met l Z YX12_rate d [.ref (Z.2.2 175)] M0 (fun r M' => (∃ x : Int32, r = some (.int x) ∧ (x.toInt = 0)) ∧ li_fs (fun i k => i = 181 ∨ i = 1000 ∨ i = 1001 ∨ (i = 175 ∧ k = 10) ∨ (i = 175 ∧ k = 12) ∨ (i = 175 ∧ k = 13) ∨ (i = 175 ∧ k = 14) ∨ (i = 175 ∧ k = 15) ∨ (i = 175 ∧ k = 18) ∨ (i = 175 ∧ k = 20) ∨ (i = 175 ∧ k = 7) ∨ (i = 175 ∧ k = 9)) M0 M' ∧ li_J M') := by
  refine li_enter (by decide +kernel) (Nat.le_of_ble_eq_true rfl) ?_
  show li_T l Z YX12_rate d 0 [(0, .ref (Z.2.2 175))] [] M0 _
  have hf : li_fs (fun i k => i = 181 ∨ i = 1000 ∨ i = 1001 ∨ (i = 175 ∧ k = 10) ∨ (i = 175 ∧ k = 12) ∨ (i = 175 ∧ k = 13) ∨ (i = 175 ∧ k = 14) ∨ (i = 175 ∧ k = 15) ∨ (i = 175 ∧ k = 18) ∨ (i = 175 ∧ k = 20) ∨ (i = 175 ∧ k = 7) ∨ (i = 175 ∧ k = 9)) M0 M0 := li_fs_refl
  have rM0_1 := J_sl1 (M := M0) hJ
  have rM0_4 := J_sl4 (M := M0) hJ
  have rM0_7 := J_sl7 (M := M0) hJ
  have rM0_9 := J_sl9 (M := M0) hJ
  have rM0_18 := J_sl18 (M := M0) hJ
  refine li_aload_n 0 dX12_rate_0 rfl ?_
  refine li_iconst 0 dX12_rate_1 (by decide) ?_
  refine li_puti (k := 10) (N := 52) (T := TX12) (C0 := RX12) dX12_rate_2 (by decide) sh_175 rfl rfl (by decide) li_in12 tyX12_ok nmX12 rfl rfl rfl rfl w_1414 ?_
  refine li_nm (fun M1Zq eM1 => ?_)
  have hf := li_fs_ui hf (Or.inr (Or.inr (Or.inr (Or.inl ⟨rfl, rfl⟩)))) eM1
  have z0 : (0 : Int32).toInt = 0 := rfl
  have hJ := hJ.put (k := 10) (by decide) (rg_free rfl) eM1
  have rM1_1 := J_sl1 (M := M1Zq) hJ
  have rM1_4 := J_sl4 (M := M1Zq) hJ
  have rM1_7 := J_sl7 (M := M1Zq) hJ
  have rM1_9 := J_sl9 (M := M1Zq) hJ
  have rM1_18 := J_sl18 (M := M1Zq) hJ
  have mM1_1 : (M1Zq.1 175 1).toInt = (M0.1 175 1).toInt := by rw [eM1, li_ui_at, if_pos rfl, if_neg (by decide)]
  have mM1_4 : (M1Zq.1 175 4).toInt = (M0.1 175 4).toInt := by rw [eM1, li_ui_at, if_pos rfl, if_neg (by decide)]
  have mM1_7 : (M1Zq.1 175 7).toInt = (M0.1 175 7).toInt := by rw [eM1, li_ui_at, if_pos rfl, if_neg (by decide)]
  have mM1_9 : (M1Zq.1 175 9).toInt = (M0.1 175 9).toInt := by rw [eM1, li_ui_at, if_pos rfl, if_neg (by decide)]
  have mM1_18 : (M1Zq.1 175 18).toInt = (M0.1 175 18).toInt := by rw [eM1, li_ui_at, if_pos rfl, if_neg (by decide)]
  refine li_aload_n 0 dX12_rate_5 rfl ?_
  refine li_geti (k := 7) (N := 52) (T := TX12) (C0 := RX12) dX12_rate_6 (by decide) sh_175 rfl rfl (by decide) li_in12 w_1411 ?_
  refine li_top (fun x2Zq ex2Zq => ?_)
  have gx2 : 0 ≤ x2Zq.toInt ∧ x2Zq.toInt ≤ 80 := by rw [ex2Zq]; exact J_sl7 hJ
  have mx2 : x2Zq.toInt = (M1Zq.1 175 7).toInt := tl_slot ex2Zq
  refine li_istore_n [(1, .int x2Zq), (0, .ref (Z.2.2 175))] dX12_rate_9 (by decide) rfl ?_
  refine li_aload_n 1 dX12_rate_10 rfl ?_
  refine li_callV (n := 0) (As := []) dX12_rate_11 (k15_X12_readRule (d - 1) (by omega)  M1Zq hJ (by omega) ) (by omega) (Nat.le_of_ble_eq_true rfl) w_1625 w_1627 w_51 w_112 w_1628 (by decide +kernel) rfl (by decide) sh_175 rfl rfl (Nat.le_of_ble_eq_true rfl) (fun r M4Zq h5 => ?_)
  obtain ⟨qx3, h5, jM4⟩ := h5
  have hf := li_fs_trans hf h5 (fun i k => fun hZq => Or.elim hZq (fun hZq => Or.inr (Or.inl hZq)) (fun hZq => Or.elim hZq (fun hZq => Or.inr (Or.inr (Or.inr (Or.inr (Or.inl hZq))))) (fun hZq => Or.elim hZq (fun hZq => Or.inr (Or.inr (Or.inr (Or.inr (Or.inr (Or.inl hZq)))))) (fun hZq => Or.elim hZq (fun hZq => Or.inr (Or.inr (Or.inr (Or.inr (Or.inr (Or.inr (Or.inl hZq))))))) (fun hZq => Or.elim hZq (fun hZq => Or.inr (Or.inr (Or.inr (Or.inr (Or.inr (Or.inr (Or.inr (Or.inl hZq)))))))) (fun hZq => Or.elim hZq (fun hZq => Or.inr (Or.inr (Or.inr (Or.inr (Or.inr (Or.inr (Or.inr (Or.inr (Or.inr (Or.inl hZq)))))))))) (fun hZq => Or.inr (Or.inr (Or.inr (Or.inr (Or.inr (Or.inr (Or.inr (Or.inr (Or.inr (Or.inr (Or.inl hZq)))))))))))))))))
  have hJ := jM4
  have rM4_1 := J_sl1 (M := M4Zq) hJ
  have rM4_4 := J_sl4 (M := M4Zq) hJ
  have rM4_7 := J_sl7 (M := M4Zq) hJ
  have rM4_9 := J_sl9 (M := M4Zq) hJ
  have rM4_18 := J_sl18 (M := M4Zq) hJ
  have mM4_1 : (M4Zq.1 175 1).toInt = (M1Zq.1 175 1).toInt := tl_slot (h5.1 175 1 (show ¬ (175 = 1000 ∨ (175 = 175 ∧ 1 = 12) ∨ (175 = 175 ∧ 1 = 13) ∨ (175 = 175 ∧ 1 = 14) ∨ (175 = 175 ∧ 1 = 15) ∨ (175 = 175 ∧ 1 = 20) ∨ (175 = 175 ∧ 1 = 7)) by decide))
  have mM4_4 : (M4Zq.1 175 4).toInt = (M1Zq.1 175 4).toInt := tl_slot (h5.1 175 4 (show ¬ (175 = 1000 ∨ (175 = 175 ∧ 4 = 12) ∨ (175 = 175 ∧ 4 = 13) ∨ (175 = 175 ∧ 4 = 14) ∨ (175 = 175 ∧ 4 = 15) ∨ (175 = 175 ∧ 4 = 20) ∨ (175 = 175 ∧ 4 = 7)) by decide))
  have mM4_9 : (M4Zq.1 175 9).toInt = (M1Zq.1 175 9).toInt := tl_slot (h5.1 175 9 (show ¬ (175 = 1000 ∨ (175 = 175 ∧ 9 = 12) ∨ (175 = 175 ∧ 9 = 13) ∨ (175 = 175 ∧ 9 = 14) ∨ (175 = 175 ∧ 9 = 15) ∨ (175 = 175 ∧ 9 = 20) ∨ (175 = 175 ∧ 9 = 7)) by decide))
  have mM4_18 : (M4Zq.1 175 18).toInt = (M1Zq.1 175 18).toInt := tl_slot (h5.1 175 18 (show ¬ (175 = 1000 ∨ (175 = 175 ∧ 18 = 12) ∨ (175 = 175 ∧ 18 = 13) ∨ (175 = 175 ∧ 18 = 14) ∨ (175 = 175 ∧ 18 = 15) ∨ (175 = 175 ∧ 18 = 20) ∨ (175 = 175 ∧ 18 = 7)) by decide))
  rcases qx3 with ⟨rfl, qx3⟩ | ⟨rfl, qx3⟩
  · skip
    refine li_if_ne 26 dX12_rate_14 (by decide) (fun c => ?_) (fun c => absurd c (by decide))
    refine li_aload_n 1 dX12_rate_26 rfl ?_
    refine li_callV (n := 0) (As := []) dX12_rate_27 (k15_X12_bestAll (d - 1) (by omega)  M4Zq hJ (by omega) (by omega) ) (by omega) (Nat.le_of_ble_eq_true rfl) w_1955 w_1957 w_98 w_112 w_1958 (by decide +kernel) rfl (by decide) sh_175 rfl rfl (Nat.le_of_ble_eq_true rfl) (fun r M8Zq h9 => ?_)
    obtain ⟨⟨x7, rfl, qx7⟩, h9, jM8⟩ := h9
    have gx7 := tl_rg x7
    have hf := li_fs_trans hf h9 (fun i k hZq => False.elim hZq)
    have hJ := jM8
    have rM8_1 := J_sl1 (M := M8Zq) hJ
    have rM8_4 := J_sl4 (M := M8Zq) hJ
    have rM8_7 := J_sl7 (M := M8Zq) hJ
    have rM8_9 := J_sl9 (M := M8Zq) hJ
    have rM8_18 := J_sl18 (M := M8Zq) hJ
    have mM8_1 : (M8Zq.1 175 1).toInt = (M4Zq.1 175 1).toInt := tl_slot (h9.1 175 1 id)
    have mM8_4 : (M8Zq.1 175 4).toInt = (M4Zq.1 175 4).toInt := tl_slot (h9.1 175 4 id)
    have mM8_7 : (M8Zq.1 175 7).toInt = (M4Zq.1 175 7).toInt := tl_slot (h9.1 175 7 id)
    have mM8_9 : (M8Zq.1 175 9).toInt = (M4Zq.1 175 9).toInt := tl_slot (h9.1 175 9 id)
    have mM8_18 : (M8Zq.1 175 18).toInt = (M4Zq.1 175 18).toInt := tl_slot (h9.1 175 18 id)
    refine li_istore_n [(2, .int x7), (1, .int x2Zq), (0, .ref (Z.2.2 175))] dX12_rate_30 (by decide) rfl ?_
    refine li_aload_n 2 dX12_rate_31 rfl ?_
    refine li_geti (k := 18) (N := 52) (T := TX12) (C0 := RX12) dX12_rate_32 (by decide) sh_175 rfl rfl (by decide) li_in12 w_1422 ?_
    refine li_top (fun x10 ex10 => ?_)
    have gx10 : 0 ≤ x10.toInt ∧ x10.toInt ≤ 40 := by rw [ex10]; exact J_sl18 hJ
    have mx10 : x10.toInt = (M8Zq.1 175 18).toInt := tl_slot ex10
    refine li_istore_n [(3, .int x10), (2, .int x7), (1, .int x2Zq), (0, .ref (Z.2.2 175))] dX12_rate_35 (by decide) rfl ?_
    refine li_aload_n 3 dX12_rate_36 rfl ?_
    obtain ⟨q11Zq, hq11, rq11⟩ := hJ.2.2.1
    refine li_getm (r := 1) (k := 17) (N := 52) (T := TX12) (C0 := RX12) dX12_rate_37 (by decide) sh_175 rfl rfl hq11 (by decide) li_in12 w_1421 ?_
    refine li_astore [(4, .ref (Z.2.2 q11Zq)), (3, .int x10), (2, .int x7), (1, .int x2Zq), (0, .ref (Z.2.2 175))] dX12_rate_40 (by decide) rfl ?_
    refine li_aload_n 4 dX12_rate_42 rfl ?_
    refine li_aload_n 4 dX12_rate_43 rfl ?_
    refine li_getr (k := 19) (N := 52) (T := TX12) (C0 := RX12) dX12_rate_44 (by decide) sh_175 rfl rfl (by decide) (by decide) li_in12 w_1423 ?_
    refine li_putr (k := 17) (r := 1) (q := 184) (N := 52) (T := TX12) (C0 := RX12) dX12_rate_47 sh_175 rfl rfl (fun k2Zq hk2 => li_only1 k2Zq hk2) (by decide) li_in12 tyX12_ok nmX12 rfl rfl rfl rfl w_1421 ?_
    refine li_nm (fun M12 eM12 => ?_)
    have hf := li_fs_ur hf (Or.inr (Or.inr (Or.inl rfl))) eM12
    have hJ := hJ.ur1 (by unfold li_rl; omega) eM12
    have rM12_1 := J_sl1 (M := M12) hJ
    have rM12_4 := J_sl4 (M := M12) hJ
    have rM12_7 := J_sl7 (M := M12) hJ
    have rM12_9 := J_sl9 (M := M12) hJ
    have rM12_18 := J_sl18 (M := M12) hJ
    have mM12_1 : (M12.1 175 1).toInt = (M8Zq.1 175 1).toInt := by rw [eM12]; rfl
    have mM12_4 : (M12.1 175 4).toInt = (M8Zq.1 175 4).toInt := by rw [eM12]; rfl
    have mM12_7 : (M12.1 175 7).toInt = (M8Zq.1 175 7).toInt := by rw [eM12]; rfl
    have mM12_9 : (M12.1 175 9).toInt = (M8Zq.1 175 9).toInt := by rw [eM12]; rfl
    have mM12_18 : (M12.1 175 18).toInt = (M8Zq.1 175 18).toInt := by rw [eM12]; rfl
    refine li_iconst 0 dX12_rate_50 (by decide) ?_
    refine li_istore [(5, .int 0), (4, .ref (Z.2.2 q11Zq)), (3, .int x10), (2, .int x7), (1, .int x2Zq), (0, .ref (Z.2.2 175))] dX12_rate_51 (by decide) rfl ?_
    have L53 : ∀ (n : Nat) (x13 : Int32) (M14 : li_M), ((x13 : Int32).toInt).toNat < n → li_fs (fun i k => i = 181 ∨ i = 1000 ∨ i = 1001 ∨ (i = 175 ∧ k = 10) ∨ (i = 175 ∧ k = 12) ∨ (i = 175 ∧ k = 13) ∨ (i = 175 ∧ k = 14) ∨ (i = 175 ∧ k = 15) ∨ (i = 175 ∧ k = 18) ∨ (i = 175 ∧ k = 20) ∨ (i = 175 ∧ k = 7) ∨ (i = 175 ∧ k = 9)) M0 M14 → li_J M14 → 0 ≤ (x13 : Int32).toInt ∧ (M14.1 175 1).toInt = 0 ∧ (M14.1 175 4).toInt = 0 → li_T l Z YX12_rate d 53 [(5, .int x13), (4, .ref (Z.2.2 q11Zq)), (3, .int x10), (2, .int x7), (1, .int x2Zq), (0, .ref (Z.2.2 175))] [] M14 (fun r M' => (∃ x : Int32, r = some (.int x) ∧ (x.toInt = 0)) ∧ li_fs (fun i k => i = 181 ∨ i = 1000 ∨ i = 1001 ∨ (i = 175 ∧ k = 10) ∨ (i = 175 ∧ k = 12) ∨ (i = 175 ∧ k = 13) ∨ (i = 175 ∧ k = 14) ∨ (i = 175 ∧ k = 15) ∨ (i = 175 ∧ k = 18) ∨ (i = 175 ∧ k = 20) ∨ (i = 175 ∧ k = 7) ∨ (i = 175 ∧ k = 9)) M0 M' ∧ li_J M') := by
      intro n
      induction n with
      | zero => intro x13 M14 hn; exact absurd hn (Nat.not_lt_zero _)
      | succ n ih53 =>
        intro x13 M14 hn hf hJ hiZq
        have gx13 := tl_rg x13
        have rM14_1 := J_sl1 (M := M14) hJ
        have rM14_4 := J_sl4 (M := M14) hJ
        have rM14_7 := J_sl7 (M := M14) hJ
        have rM14_9 := J_sl9 (M := M14) hJ
        have rM14_18 := J_sl18 (M := M14) hJ
        have mM14_1 : (M14.1 175 1).toInt = (M0.1 175 1).toInt := tl_slot (hf.1 175 1 (show ¬ (175 = 181 ∨ 175 = 1000 ∨ 175 = 1001 ∨ (175 = 175 ∧ 1 = 10) ∨ (175 = 175 ∧ 1 = 12) ∨ (175 = 175 ∧ 1 = 13) ∨ (175 = 175 ∧ 1 = 14) ∨ (175 = 175 ∧ 1 = 15) ∨ (175 = 175 ∧ 1 = 18) ∨ (175 = 175 ∧ 1 = 20) ∨ (175 = 175 ∧ 1 = 7) ∨ (175 = 175 ∧ 1 = 9)) by decide))
        have mM14_4 : (M14.1 175 4).toInt = (M0.1 175 4).toInt := tl_slot (hf.1 175 4 (show ¬ (175 = 181 ∨ 175 = 1000 ∨ 175 = 1001 ∨ (175 = 175 ∧ 4 = 10) ∨ (175 = 175 ∧ 4 = 12) ∨ (175 = 175 ∧ 4 = 13) ∨ (175 = 175 ∧ 4 = 14) ∨ (175 = 175 ∧ 4 = 15) ∨ (175 = 175 ∧ 4 = 18) ∨ (175 = 175 ∧ 4 = 20) ∨ (175 = 175 ∧ 4 = 7) ∨ (175 = 175 ∧ 4 = 9)) by decide))
        refine li_iload 0 dX12_rate_53 rfl ?_
        refine li_iload_n 4 dX12_rate_55 rfl ?_
        refine li_icmp_ge 79 dX12_rate_56 (by decide) (fun c15Zq => ?_) (fun c15Zq => ?_)
        · have tc15 : x2Zq.toInt ≤ x13.toInt := tl_le c15Zq
          refine li_aload_n 5 dX12_rate_79 rfl ?_
          refine li_iload_n 4 dX12_rate_80 rfl ?_
          refine li_puti (k := 18) (N := 52) (T := TX12) (C0 := RX12) dX12_rate_81 (by decide) sh_175 rfl rfl (by decide) li_in12 tyX12_ok nmX12 rfl rfl rfl rfl w_1422 ?_
          refine li_nm (fun M16 eM16 => ?_)
          have hf := li_fs_ui hf (Or.inr (Or.inr (Or.inr (Or.inr (Or.inr (Or.inr (Or.inr (Or.inr (Or.inl ⟨rfl, rfl⟩))))))))) eM16
          have hJ := J_pt18 hJ (show 0 ≤ (x2Zq : Int32).toInt ∧ (x2Zq : Int32).toInt ≤ 40 by omega) eM16
          have rM16_1 := J_sl1 (M := M16) hJ
          have rM16_4 := J_sl4 (M := M16) hJ
          have rM16_7 := J_sl7 (M := M16) hJ
          have rM16_9 := J_sl9 (M := M16) hJ
          have rM16_18 := J_sl18 (M := M16) hJ
          have mM16_1 : (M16.1 175 1).toInt = (M14.1 175 1).toInt := by rw [eM16, li_ui_at, if_pos rfl, if_neg (by decide)]
          have mM16_4 : (M16.1 175 4).toInt = (M14.1 175 4).toInt := by rw [eM16, li_ui_at, if_pos rfl, if_neg (by decide)]
          have mM16_7 : (M16.1 175 7).toInt = (M14.1 175 7).toInt := by rw [eM16, li_ui_at, if_pos rfl, if_neg (by decide)]
          have mM16_9 : (M16.1 175 9).toInt = (M14.1 175 9).toInt := by rw [eM16, li_ui_at, if_pos rfl, if_neg (by decide)]
          have mM16_18 : (M16.1 175 18).toInt = x2Zq.toInt := by rw [eM16, li_ui_at, if_pos rfl, if_pos rfl]
          refine li_aload_n 5 dX12_rate_84 rfl ?_
          refine li_callV (n := 0) (As := []) dX12_rate_85 (k15_X12_bestAll (d - 1) (by omega)  M16 hJ (by omega) (by omega) ) (by omega) (Nat.le_of_ble_eq_true rfl) w_1955 w_1957 w_98 w_112 w_1958 (by decide +kernel) rfl (by decide) sh_175 rfl rfl (Nat.le_of_ble_eq_true rfl) (fun r M18 h19 => ?_)
          obtain ⟨⟨x17, rfl, qx17⟩, h19, jM18⟩ := h19
          have gx17 := tl_rg x17
          have hf := li_fs_trans hf h19 (fun i k hZq => False.elim hZq)
          have hJ := jM18
          have rM18_1 := J_sl1 (M := M18) hJ
          have rM18_4 := J_sl4 (M := M18) hJ
          have rM18_7 := J_sl7 (M := M18) hJ
          have rM18_9 := J_sl9 (M := M18) hJ
          have rM18_18 := J_sl18 (M := M18) hJ
          have mM18_1 : (M18.1 175 1).toInt = (M16.1 175 1).toInt := tl_slot (h19.1 175 1 id)
          have mM18_4 : (M18.1 175 4).toInt = (M16.1 175 4).toInt := tl_slot (h19.1 175 4 id)
          have mM18_7 : (M18.1 175 7).toInt = (M16.1 175 7).toInt := tl_slot (h19.1 175 7 id)
          have mM18_9 : (M18.1 175 9).toInt = (M16.1 175 9).toInt := tl_slot (h19.1 175 9 id)
          have mM18_18 : (M18.1 175 18).toInt = (M16.1 175 18).toInt := tl_slot (h19.1 175 18 id)
          refine li_istore [(5, .int x17), (4, .ref (Z.2.2 q11Zq)), (3, .int x10), (2, .int x7), (1, .int x2Zq), (0, .ref (Z.2.2 175))] dX12_rate_88 (by decide) rfl ?_
          refine li_aload_n 5 dX12_rate_90 rfl ?_
          refine li_aload 1 dX12_rate_91 rfl ?_
          refine li_putr (k := 17) (r := 1) (q := q11Zq) (N := 52) (T := TX12) (C0 := RX12) dX12_rate_93 sh_175 rfl rfl (fun k2Zq hk2 => li_only1 k2Zq hk2) (by decide) li_in12 tyX12_ok nmX12 rfl rfl rfl rfl w_1421 ?_
          refine li_nm (fun M20 eM20 => ?_)
          have hf := li_fs_ur hf (Or.inr (Or.inr (Or.inl rfl))) eM20
          have hJ := hJ.ur1 rq11 eM20
          have rM20_1 := J_sl1 (M := M20) hJ
          have rM20_4 := J_sl4 (M := M20) hJ
          have rM20_7 := J_sl7 (M := M20) hJ
          have rM20_9 := J_sl9 (M := M20) hJ
          have rM20_18 := J_sl18 (M := M20) hJ
          have mM20_1 : (M20.1 175 1).toInt = (M18.1 175 1).toInt := by rw [eM20]; rfl
          have mM20_4 : (M20.1 175 4).toInt = (M18.1 175 4).toInt := by rw [eM20]; rfl
          have mM20_7 : (M20.1 175 7).toInt = (M18.1 175 7).toInt := by rw [eM20]; rfl
          have mM20_9 : (M20.1 175 9).toInt = (M18.1 175 9).toInt := by rw [eM20]; rfl
          have mM20_18 : (M20.1 175 18).toInt = (M18.1 175 18).toInt := by rw [eM20]; rfl
          refine li_aload_n 5 dX12_rate_96 rfl ?_
          refine li_iload_n 2 dX12_rate_97 rfl ?_
          refine li_puti (k := 18) (N := 52) (T := TX12) (C0 := RX12) dX12_rate_98 (by decide) sh_175 rfl rfl (by decide) li_in12 tyX12_ok nmX12 rfl rfl rfl rfl w_1422 ?_
          refine li_nm (fun M21 eM21 => ?_)
          have hf := li_fs_ui hf (Or.inr (Or.inr (Or.inr (Or.inr (Or.inr (Or.inr (Or.inr (Or.inr (Or.inl ⟨rfl, rfl⟩))))))))) eM21
          have hJ := J_pt18 hJ (show 0 ≤ (x10 : Int32).toInt ∧ (x10 : Int32).toInt ≤ 40 by omega) eM21
          have rM21_1 := J_sl1 (M := M21) hJ
          have rM21_4 := J_sl4 (M := M21) hJ
          have rM21_7 := J_sl7 (M := M21) hJ
          have rM21_9 := J_sl9 (M := M21) hJ
          have rM21_18 := J_sl18 (M := M21) hJ
          have mM21_1 : (M21.1 175 1).toInt = (M20.1 175 1).toInt := by rw [eM21, li_ui_at, if_pos rfl, if_neg (by decide)]
          have mM21_4 : (M21.1 175 4).toInt = (M20.1 175 4).toInt := by rw [eM21, li_ui_at, if_pos rfl, if_neg (by decide)]
          have mM21_7 : (M21.1 175 7).toInt = (M20.1 175 7).toInt := by rw [eM21, li_ui_at, if_pos rfl, if_neg (by decide)]
          have mM21_9 : (M21.1 175 9).toInt = (M20.1 175 9).toInt := by rw [eM21, li_ui_at, if_pos rfl, if_neg (by decide)]
          have mM21_18 : (M21.1 175 18).toInt = x10.toInt := by rw [eM21, li_ui_at, if_pos rfl, if_pos rfl]
          refine li_aload_n 5 dX12_rate_101 rfl ?_
          refine li_iconst 0 dX12_rate_102 (by decide) ?_
          refine li_puti (k := 9) (N := 52) (T := TX12) (C0 := RX12) dX12_rate_103 (by decide) sh_175 rfl rfl (by decide) li_in12 tyX12_ok nmX12 rfl rfl rfl rfl w_1413 ?_
          refine li_nm (fun M22 eM22 => ?_)
          have hf := li_fs_ui hf (Or.inr (Or.inr (Or.inr (Or.inr (Or.inr (Or.inr (Or.inr (Or.inr (Or.inr (Or.inr (Or.inr (⟨rfl, rfl⟩)))))))))))) eM22
          have z0 : (0 : Int32).toInt = 0 := rfl
          have hJ := J_pt9 hJ (show 0 ≤ (0 : Int32).toInt ∧ (0 : Int32).toInt ≤ 20 by omega) eM22
          have rM22_1 := J_sl1 (M := M22) hJ
          have rM22_4 := J_sl4 (M := M22) hJ
          have rM22_7 := J_sl7 (M := M22) hJ
          have rM22_9 := J_sl9 (M := M22) hJ
          have rM22_18 := J_sl18 (M := M22) hJ
          have mM22_1 : (M22.1 175 1).toInt = (M21.1 175 1).toInt := by rw [eM22, li_ui_at, if_pos rfl, if_neg (by decide)]
          have mM22_4 : (M22.1 175 4).toInt = (M21.1 175 4).toInt := by rw [eM22, li_ui_at, if_pos rfl, if_neg (by decide)]
          have mM22_7 : (M22.1 175 7).toInt = (M21.1 175 7).toInt := by rw [eM22, li_ui_at, if_pos rfl, if_neg (by decide)]
          have mM22_9 : (M22.1 175 9).toInt = 0 := by rw [eM22, li_ui_at, if_pos rfl, if_pos rfl]; rfl
          have mM22_18 : (M22.1 175 18).toInt = (M21.1 175 18).toInt := by rw [eM22, li_ui_at, if_pos rfl, if_neg (by decide)]
          refine li_aload_n 5 dX12_rate_106 rfl ?_
          refine li_iload 0 dX12_rate_107 rfl ?_
          refine li_callV (n := 1) (As := [.int x17]) dX12_rate_109 (k_X12_tell (d - 1) (by omega) x17 M22 hJ (by omega)) (by omega) (Nat.le_of_ble_eq_true rfl) w_1787 w_1789 w_77 w_112 w_1790 (by decide +kernel) rfl (by decide) sh_175 rfl rfl (Nat.le_of_ble_eq_true rfl) (fun r M24 h25 => ?_)
          obtain ⟨rfl, h25, jM24, nM24⟩ := h25
          have hf := li_fs_trans hf h25 (fun i k => fun hZq => Or.elim hZq (fun hZq => Or.inl hZq) (fun hZq => Or.inr (Or.inr (Or.inr (Or.inr (Or.inr (Or.inr (Or.inr (Or.inr (Or.inr (Or.inr (Or.inr hZq))))))))))))
          have hJ := jM24
          have rM24_1 := J_sl1 (M := M24) hJ
          have rM24_4 := J_sl4 (M := M24) hJ
          have rM24_7 := J_sl7 (M := M24) hJ
          have rM24_9 := J_sl9 (M := M24) hJ
          have rM24_18 := J_sl18 (M := M24) hJ
          have mM24_1 : (M24.1 175 1).toInt = (M22.1 175 1).toInt := tl_slot (h25.1 175 1 (show ¬ (175 = 181 ∨ (175 = 175 ∧ 1 = 9)) by decide))
          have mM24_4 : (M24.1 175 4).toInt = (M22.1 175 4).toInt := tl_slot (h25.1 175 4 (show ¬ (175 = 181 ∨ (175 = 175 ∧ 4 = 9)) by decide))
          have mM24_7 : (M24.1 175 7).toInt = (M22.1 175 7).toInt := tl_slot (h25.1 175 7 (show ¬ (175 = 181 ∨ (175 = 175 ∧ 7 = 9)) by decide))
          have mM24_18 : (M24.1 175 18).toInt = (M22.1 175 18).toInt := tl_slot (h25.1 175 18 (show ¬ (175 = 181 ∨ (175 = 175 ∧ 18 = 9)) by decide))
          refine li_aload_n 5 dX12_rate_112 rfl ?_
          refine li_iload_n 3 dX12_rate_113 rfl ?_
          refine li_callV (n := 1) (As := [.int x7]) dX12_rate_114 (k_X12_tell (d - 1) (by omega) x7 M24 hJ (by omega)) (by omega) (Nat.le_of_ble_eq_true rfl) w_1787 w_1789 w_77 w_112 w_1790 (by decide +kernel) rfl (by decide) sh_175 rfl rfl (Nat.le_of_ble_eq_true rfl) (fun r M27 h28 => ?_)
          obtain ⟨rfl, h28, jM27, nM27⟩ := h28
          have hf := li_fs_trans hf h28 (fun i k => fun hZq => Or.elim hZq (fun hZq => Or.inl hZq) (fun hZq => Or.inr (Or.inr (Or.inr (Or.inr (Or.inr (Or.inr (Or.inr (Or.inr (Or.inr (Or.inr (Or.inr hZq))))))))))))
          have hJ := jM27
          have rM27_1 := J_sl1 (M := M27) hJ
          have rM27_4 := J_sl4 (M := M27) hJ
          have rM27_7 := J_sl7 (M := M27) hJ
          have rM27_9 := J_sl9 (M := M27) hJ
          have rM27_18 := J_sl18 (M := M27) hJ
          have mM27_1 : (M27.1 175 1).toInt = (M24.1 175 1).toInt := tl_slot (h28.1 175 1 (show ¬ (175 = 181 ∨ (175 = 175 ∧ 1 = 9)) by decide))
          have mM27_4 : (M27.1 175 4).toInt = (M24.1 175 4).toInt := tl_slot (h28.1 175 4 (show ¬ (175 = 181 ∨ (175 = 175 ∧ 4 = 9)) by decide))
          have mM27_7 : (M27.1 175 7).toInt = (M24.1 175 7).toInt := tl_slot (h28.1 175 7 (show ¬ (175 = 181 ∨ (175 = 175 ∧ 7 = 9)) by decide))
          have mM27_18 : (M27.1 175 18).toInt = (M24.1 175 18).toInt := tl_slot (h28.1 175 18 (show ¬ (175 = 181 ∨ (175 = 175 ∧ 18 = 9)) by decide))
          refine li_iload 0 dX12_rate_117 rfl ?_
          refine li_iload_n 3 dX12_rate_119 rfl ?_
          refine li_isub dX12_rate_120 ?_
          refine li_top (fun x29 ex29 => ?_)
          try (have tx29 : x29.toInt = (x17 : Int32).toInt - (x7 : Int32).toInt := tl_sub ex29 (by omega))
          exact li_iret dX12_rate_121 rfl rfl ⟨⟨_, rfl, (by first | omega | (intro _; omega) | (refine ⟨?_, ?_⟩ <;> first | omega | (intro _; omega)) | (refine ⟨?_, ?_, ?_, ?_⟩ <;> first | omega | (intro _; omega)))⟩, hf, hJ⟩
        · have tc15 : x13.toInt < x2Zq.toInt := tl_nle c15Zq
          exfalso; omega
    have z0 : (0 : Int32).toInt = 0 := rfl
    exact L53 _ 0 M12 (Nat.lt_succ_self _) hf hJ (by omega)
  · exfalso; omega
set_option maxRecDepth 100000 in
set_option maxHeartbeats 4000000 in
theorem k15_X12_years {l : Launch} {Z : li_Z} (d : Nat) (hdZq : 3 ≤ d) (p1Zq p2Zq : Int32) (M0 : li_M) (hJ : li_J M0) (z4 : (M0.1 175 4).toInt = 0) : li_Met l Z YX12_years d [.ref (Z.2.2 175), .int p1Zq, .int p2Zq] M0 (fun r M' => (∃ x : Int32, r = some (.int x) ∧ ((1 ≤ p2Zq.toInt ∧ p2Zq.toInt ≤ 60 ∧ x.toInt = 0) ∨ (¬ (1 ≤ p2Zq.toInt ∧ p2Zq.toInt ≤ 60) ∧ x.toInt = -1))) ∧ li_fs (fun i k => i = 181 ∨ i = 200 ∨ (i = 175 ∧ k = 10) ∨ (i = 175 ∧ k = 25) ∨ (i = 175 ∧ k = 26) ∨ (i = 175 ∧ k = 9)) M0 M' ∧ li_J M') := by
  refine li_enter (by decide +kernel) (Nat.le_of_ble_eq_true rfl) ?_
  show li_T l Z YX12_years d 0 [(0, .ref (Z.2.2 175)), (1, .int p1Zq), (2, .int p2Zq)] [] M0 _
  have hf : li_fs (fun i k => i = 181 ∨ i = 200 ∨ (i = 175 ∧ k = 10) ∨ (i = 175 ∧ k = 25) ∨ (i = 175 ∧ k = 26) ∨ (i = 175 ∧ k = 9)) M0 M0 := li_fs_refl
  have gp1 := tl_rg p1Zq
  have gp2 := tl_rg p2Zq
  have rM0_4 := J_sl4 (M := M0) hJ
  have rM0_9 := J_sl9 (M := M0) hJ
  refine li_aload_n 0 dX12_years_0 rfl ?_
  refine li_iconst 0 dX12_years_1 (by decide) ?_
  refine li_puti (k := 10) (N := 52) (T := TX12) (C0 := RX12) dX12_years_2 (by decide) sh_175 rfl rfl (by decide) li_in12 tyX12_ok nmX12 rfl rfl rfl rfl w_1414 ?_
  refine li_nm (fun M1Zq eM1 => ?_)
  have hf := li_fs_ui hf (Or.inr (Or.inr (Or.inl ⟨rfl, rfl⟩))) eM1
  have z0 : (0 : Int32).toInt = 0 := rfl
  have hJ := hJ.put (k := 10) (by decide) (rg_free rfl) eM1
  have rM1_4 := J_sl4 (M := M1Zq) hJ
  have rM1_9 := J_sl9 (M := M1Zq) hJ
  have mM1_4 : (M1Zq.1 175 4).toInt = (M0.1 175 4).toInt := by rw [eM1, li_ui_at, if_pos rfl, if_neg (by decide)]
  have mM1_9 : (M1Zq.1 175 9).toInt = (M0.1 175 9).toInt := by rw [eM1, li_ui_at, if_pos rfl, if_neg (by decide)]
  refine li_iload_n 2 dX12_years_5 rfl ?_
  refine li_iconst 1 dX12_years_6 (by decide) ?_
  refine li_bipush 60 dX12_years_7 (by decide) ?_
  have z1 : (1 : Int32).toInt = 1 := rfl
  have z60Zq : (60 : Int32).toInt = 60 := rfl
  refine li_callS (n := 3) (As := [.int p2Zq, .int 1, .int 60]) dX12_years_9 (k_X12_in (d - 1) (by omega) p2Zq 1 60 M1Zq hJ ) (by omega) (Nat.le_of_ble_eq_true rfl) w_1574 w_1575 w_112 w_1576 (by decide +kernel) rfl rfl (Nat.le_of_ble_eq_true rfl) (fun r M3Zq h4 => ?_)
  obtain ⟨qx2, h4, jM3⟩ := h4
  have hf := li_fs_trans hf h4 (fun i k hZq => False.elim hZq)
  have hJ := jM3
  have rM3_4 := J_sl4 (M := M3Zq) hJ
  have rM3_9 := J_sl9 (M := M3Zq) hJ
  have mM3_4 : (M3Zq.1 175 4).toInt = (M1Zq.1 175 4).toInt := tl_slot (h4.1 175 4 id)
  have mM3_9 : (M3Zq.1 175 9).toInt = (M1Zq.1 175 9).toInt := tl_slot (h4.1 175 9 id)
  rcases qx2 with ⟨rfl, qx2⟩ | ⟨rfl, qx2⟩
  · skip
    refine li_if_ne 17 dX12_years_12 (by decide) (fun c => ?_) (fun c => absurd c (by decide))
    refine li_iload_n 1 dX12_years_17 rfl ?_
    refine li_istore_n [(3, .int p1Zq), (0, .ref (Z.2.2 175)), (1, .int p1Zq), (2, .int p2Zq)] dX12_years_18 (by decide) rfl ?_
    refine li_iconst 0 dX12_years_19 (by decide) ?_
    refine li_istore [(4, .int 0), (3, .int p1Zq), (0, .ref (Z.2.2 175)), (1, .int p1Zq), (2, .int p2Zq)] dX12_years_20 (by decide) rfl ?_
    refine li_iconst 0 dX12_years_22 (by decide) ?_
    refine li_istore [(5, .int 0), (4, .int 0), (3, .int p1Zq), (0, .ref (Z.2.2 175)), (1, .int p1Zq), (2, .int p2Zq)] dX12_years_23 (by decide) rfl ?_
    refine li_iconst 0 dX12_years_25 (by decide) ?_
    refine li_istore [(6, .int 0), (5, .int 0), (4, .int 0), (3, .int p1Zq), (0, .ref (Z.2.2 175)), (1, .int p1Zq), (2, .int p2Zq)] dX12_years_26 (by decide) rfl ?_
    refine li_aload_n 4 dX12_years_28 rfl ?_
    refine li_getr (k := 0) (N := 52) (T := TX12) (C0 := RX12) dX12_years_29 (by decide) sh_175 rfl rfl (by decide) (by decide) li_in12 w_1404 ?_
    refine li_aload_n 4 dX12_years_32 rfl ?_
    refine li_getr (k := 47) (N := 52) (T := TX12) (C0 := RX12) dX12_years_33 (by decide) sh_175 rfl rfl (by decide) (by decide) li_in12 w_1451 ?_
    refine li_iconst 0 dX12_years_36 (by decide) ?_
    have z0 : (0 : Int32).toInt = 0 := rfl
    refine li_callS (n := 3) (As := [.ref (Z.2.2 176), .ref (Z.2.2 200), .int 0]) dX12_years_37 (k_X12_lay_nt (d - 1) (by omega) 0 M3Zq hJ (by omega)) (by omega) (Nat.le_of_ble_eq_true rfl) w_1749 w_1750 w_112 w_1751 (by decide +kernel) rfl rfl (Nat.le_of_ble_eq_true rfl) (fun r M7Zq h8 => ?_)
    obtain ⟨rfl, h8, jM7⟩ := h8
    have hf := li_fs_trans hf h8 (fun i k => fun hZq => Or.inr (Or.inl hZq))
    have hJ := jM7
    have rM7_4 := J_sl4 (M := M7Zq) hJ
    have rM7_9 := J_sl9 (M := M7Zq) hJ
    have mM7_4 : (M7Zq.1 175 4).toInt = (M3Zq.1 175 4).toInt := tl_slot (h8.1 175 4 (show ¬ (175 = 200) by decide))
    have mM7_9 : (M7Zq.1 175 9).toInt = (M3Zq.1 175 9).toInt := tl_slot (h8.1 175 9 (show ¬ (175 = 200) by decide))
    refine li_iconst 0 dX12_years_40 (by decide) ?_
    refine li_istore [(7, .int 0), (6, .int 0), (5, .int 0), (4, .int 0), (3, .int p1Zq), (0, .ref (Z.2.2 175)), (1, .int p1Zq), (2, .int p2Zq)] dX12_years_41 (by decide) rfl ?_
    have L43 : ∀ (n : Nat) (x9 : Int32) (x10 : Int32) (x11 : Int32) (x12 : Int32) (x13 : Int32) (M14 : li_M), (60 - (x9 : Int32).toInt).toNat < n → li_fs (fun i k => i = 181 ∨ i = 200 ∨ (i = 175 ∧ k = 10) ∨ (i = 175 ∧ k = 25) ∨ (i = 175 ∧ k = 26) ∨ (i = 175 ∧ k = 9)) M0 M14 → li_J M14 → 0 ≤ (x9 : Int32).toInt ∧ (x12 : Int32).toInt = 0 ∧ (M14.1 175 4).toInt = 0 → li_T l Z YX12_years d 43 [(7, .int x9), (6, .int x10), (5, .int x11), (4, .int x12), (3, .int x13), (0, .ref (Z.2.2 175)), (1, .int p1Zq), (2, .int p2Zq)] [] M14 (fun r M' => (∃ x : Int32, r = some (.int x) ∧ ((1 ≤ p2Zq.toInt ∧ p2Zq.toInt ≤ 60 ∧ x.toInt = 0) ∨ (¬ (1 ≤ p2Zq.toInt ∧ p2Zq.toInt ≤ 60) ∧ x.toInt = -1))) ∧ li_fs (fun i k => i = 181 ∨ i = 200 ∨ (i = 175 ∧ k = 10) ∨ (i = 175 ∧ k = 25) ∨ (i = 175 ∧ k = 26) ∨ (i = 175 ∧ k = 9)) M0 M' ∧ li_J M') := by
      intro n
      induction n with
      | zero => intro x9 x10 x11 x12 x13 M14 hn; exact absurd hn (Nat.not_lt_zero _)
      | succ n ih43 =>
        intro x9 x10 x11 x12 x13 M14 hn hf hJ hiZq
        have gx9 := tl_rg x9
        have gx10 := tl_rg x10
        have gx11 := tl_rg x11
        have gx12 := tl_rg x12
        have gx13 := tl_rg x13
        have rM14_4 := J_sl4 (M := M14) hJ
        have rM14_9 := J_sl9 (M := M14) hJ
        have mM14_4 : (M14.1 175 4).toInt = (M0.1 175 4).toInt := tl_slot (hf.1 175 4 (show ¬ (175 = 181 ∨ 175 = 200 ∨ (175 = 175 ∧ 4 = 10) ∨ (175 = 175 ∧ 4 = 25) ∨ (175 = 175 ∧ 4 = 26) ∨ (175 = 175 ∧ 4 = 9)) by decide))
        refine li_iload 0 dX12_years_43 rfl ?_
        refine li_iload_n 7 dX12_years_45 rfl ?_
        refine li_icmp_ge 154 dX12_years_46 (by decide) (fun c15Zq => ?_) (fun c15Zq => ?_)
        · have tc15 : p2Zq.toInt ≤ x9.toInt := tl_le c15Zq
          refine li_aload_n 5 dX12_years_154 rfl ?_
          refine li_iconst 0 dX12_years_155 (by decide) ?_
          refine li_puti (k := 9) (N := 52) (T := TX12) (C0 := RX12) dX12_years_156 (by decide) sh_175 rfl rfl (by decide) li_in12 tyX12_ok nmX12 rfl rfl rfl rfl w_1413 ?_
          refine li_nm (fun M16 eM16 => ?_)
          have hf := li_fs_ui hf (Or.inr (Or.inr (Or.inr (Or.inr (Or.inr (⟨rfl, rfl⟩)))))) eM16
          have z0 : (0 : Int32).toInt = 0 := rfl
          have hJ := J_pt9 hJ (show 0 ≤ (0 : Int32).toInt ∧ (0 : Int32).toInt ≤ 20 by omega) eM16
          have rM16_4 := J_sl4 (M := M16) hJ
          have rM16_9 := J_sl9 (M := M16) hJ
          have mM16_4 : (M16.1 175 4).toInt = (M14.1 175 4).toInt := by rw [eM16, li_ui_at, if_pos rfl, if_neg (by decide)]
          have mM16_9 : (M16.1 175 9).toInt = 0 := by rw [eM16, li_ui_at, if_pos rfl, if_pos rfl]; rfl
          refine li_aload_n 5 dX12_years_159 rfl ?_
          refine li_iload 2 dX12_years_160 rfl ?_
          refine li_callV (n := 1) (As := [.int x11]) dX12_years_162 (k_X12_tell (d - 1) (by omega) x11 M16 hJ (by omega)) (by omega) (Nat.le_of_ble_eq_true rfl) w_1787 w_1789 w_77 w_112 w_1790 (by decide +kernel) rfl (by decide) sh_175 rfl rfl (Nat.le_of_ble_eq_true rfl) (fun r M18 h19 => ?_)
          obtain ⟨rfl, h19, jM18, nM18⟩ := h19
          have hf := li_fs_trans hf h19 (fun i k => fun hZq => Or.elim hZq (fun hZq => Or.inl hZq) (fun hZq => Or.inr (Or.inr (Or.inr (Or.inr (Or.inr hZq))))))
          have hJ := jM18
          have rM18_4 := J_sl4 (M := M18) hJ
          have rM18_9 := J_sl9 (M := M18) hJ
          have mM18_4 : (M18.1 175 4).toInt = (M16.1 175 4).toInt := tl_slot (h19.1 175 4 (show ¬ (175 = 181 ∨ (175 = 175 ∧ 4 = 9)) by decide))
          refine li_aload_n 5 dX12_years_165 rfl ?_
          refine li_iload 1 dX12_years_166 rfl ?_
          refine li_callV (n := 1) (As := [.int x10]) dX12_years_168 (k_X12_tell (d - 1) (by omega) x10 M18 hJ (by omega)) (by omega) (Nat.le_of_ble_eq_true rfl) w_1787 w_1789 w_77 w_112 w_1790 (by decide +kernel) rfl (by decide) sh_175 rfl rfl (Nat.le_of_ble_eq_true rfl) (fun r M21 h22 => ?_)
          obtain ⟨rfl, h22, jM21, nM21⟩ := h22
          have hf := li_fs_trans hf h22 (fun i k => fun hZq => Or.elim hZq (fun hZq => Or.inl hZq) (fun hZq => Or.inr (Or.inr (Or.inr (Or.inr (Or.inr hZq))))))
          have hJ := jM21
          have rM21_4 := J_sl4 (M := M21) hJ
          have rM21_9 := J_sl9 (M := M21) hJ
          have mM21_4 : (M21.1 175 4).toInt = (M18.1 175 4).toInt := tl_slot (h22.1 175 4 (show ¬ (175 = 181 ∨ (175 = 175 ∧ 4 = 9)) by decide))
          refine li_iload 3 dX12_years_171 rfl ?_
          exact li_iret dX12_years_173 rfl rfl ⟨⟨_, rfl, (by first | omega | (intro _; omega) | (refine ⟨?_, ?_⟩ <;> first | omega | (intro _; omega)) | (refine ⟨?_, ?_, ?_, ?_⟩ <;> first | omega | (intro _; omega)))⟩, hf, hJ⟩
        · have tc15 : x9.toInt < p2Zq.toInt := tl_nle c15Zq
          refine li_iload_n 4 dX12_years_49 rfl ?_
          refine li_ldcw 1103515245 dX12_years_50 w_1971 ?_
          refine li_imul dX12_years_53 ?_
          refine li_top (fun x23 ex23 => ?_)
          have z1103515245 : (1103515245 : Int32).toInt = 1103515245 := rfl
          try (have tx23 : x23.toInt = (x13 : Int32).toInt * 1103515245 := tl_mul ex23 (show -2147483648 ≤ (x13 : Int32).toInt * 1103515245 ∧ (x13 : Int32).toInt * 1103515245 ≤ 2147483647 by omega))
          refine li_sipush 12345 dX12_years_54 (by decide) ?_
          refine li_iadd dX12_years_57 ?_
          refine li_top (fun x24 ex24 => ?_)
          have z12345 : (12345 : Int32).toInt = 12345 := rfl
          try (have tx24 : x24.toInt = (x23 : Int32).toInt + (12345 : Int32).toInt := tl_add ex24 (by omega))
          refine li_istore_n [(3, .int x24), (7, .int x9), (6, .int x10), (5, .int x11), (4, .int x12), (0, .ref (Z.2.2 175)), (1, .int p1Zq), (2, .int p2Zq)] dX12_years_58 (by decide) rfl ?_
          refine li_iload_n 0 dX12_years_59 rfl ?_
          refine li_bipush 16 dX12_years_60 (by decide) ?_
          refine li_iushr dX12_years_62 ?_
          refine li_top (fun x25 ex25 => ?_)
          refine li_bipush 10 dX12_years_63 (by decide) ?_
          refine li_irem dX12_years_65 (by decide) ?_
          refine li_top (fun x26 ex26 => ?_)
          refine li_istore [(8, .int x26), (3, .int x24), (7, .int x9), (6, .int x10), (5, .int x11), (4, .int x12), (0, .ref (Z.2.2 175)), (1, .int p1Zq), (2, .int p2Zq)] dX12_years_66 (by decide) rfl ?_
          refine li_aload_n 6 dX12_years_68 rfl ?_
          refine li_iload 0 dX12_years_69 rfl ?_
          refine li_callV (n := 1) (As := [.int x26]) dX12_years_71 (k_X12_isThing (d - 1) (by omega) x26 M14 hJ ) (by omega) (Nat.le_of_ble_eq_true rfl) w_1668 w_1670 w_59 w_112 w_1671 (by decide +kernel) rfl (by decide) sh_175 rfl rfl (Nat.le_of_ble_eq_true rfl) (fun r M28 h29 => ?_)
          obtain ⟨qx27, h29, jM28⟩ := h29
          have hf := li_fs_trans hf h29 (fun i k hZq => False.elim hZq)
          have hJ := jM28
          have rM28_4 := J_sl4 (M := M28) hJ
          have rM28_9 := J_sl9 (M := M28) hJ
          have mM28_4 : (M28.1 175 4).toInt = (M14.1 175 4).toInt := tl_slot (h29.1 175 4 id)
          have mM28_9 : (M28.1 175 9).toInt = (M14.1 175 9).toInt := tl_slot (h29.1 175 9 id)
          rcases qx27 with ⟨rfl, qx27⟩ | ⟨rfl, qx27⟩
          · exfalso; omega
          · skip
            refine li_if_eq 140 dX12_years_74 (by decide) (fun c => ?_) (fun c => absurd rfl c)
            refine li_aload_n 6 dX12_years_140 rfl ?_
            refine li_aload_n 6 dX12_years_141 rfl ?_
            refine li_getr (k := 47) (N := 52) (T := TX12) (C0 := RX12) dX12_years_142 (by decide) sh_175 rfl rfl (by decide) (by decide) li_in12 w_1451 ?_
            refine li_callV (n := 1) (As := [.ref (Z.2.2 200)]) dX12_years_145 (k_X12_goDay (d - 1) (by omega) la_200 M28 hJ ) (by omega) (Nat.le_of_ble_eq_true rfl) w_1783 w_1785 w_76 w_112 w_1786 (by decide +kernel) rfl (by decide) sh_175 rfl rfl (Nat.le_of_ble_eq_true rfl) (fun r M32 h33 => ?_)
            obtain ⟨rfl, h33, jM32⟩ := h33
            have hf := li_fs_trans hf h33 (fun i k => fun hZq => Or.elim hZq (fun hZq => Or.inr (Or.inl hZq)) (fun hZq => Or.elim hZq (fun hZq => Or.inr (Or.inr (Or.inr (Or.inl hZq)))) (fun hZq => Or.inr (Or.inr (Or.inr (Or.inr (Or.inl hZq)))))))
            have hJ := jM32
            have rM32_4 := J_sl4 (M := M32) hJ
            have rM32_9 := J_sl9 (M := M32) hJ
            have mM32_4 : (M32.1 175 4).toInt = (M28.1 175 4).toInt := tl_slot (h33.1 175 4 (show ¬ (175 = 200 ∨ (175 = 175 ∧ 4 = 25) ∨ (175 = 175 ∧ 4 = 26)) by decide))
            have mM32_9 : (M32.1 175 9).toInt = (M28.1 175 9).toInt := tl_slot (h33.1 175 9 (show ¬ (175 = 200 ∨ (175 = 175 ∧ 9 = 25) ∨ (175 = 175 ∧ 9 = 26)) by decide))
            obtain ⟨x34, ex34⟩ : ∃ y : Int32, y = x9 + 1 := ⟨_, rfl⟩
            have z1 : (1 : Int32).toInt = 1 := rfl
            try (have tx34 : x34.toInt = (x9 : Int32).toInt + (1 : Int32).toInt := tl_add ex34 (by omega))
            refine li_iinc 2 [(7, .int x34), (8, .int x26), (3, .int x24), (6, .int x10), (5, .int x11), (4, .int x12), (0, .ref (Z.2.2 175)), (1, .int p1Zq), (2, .int p2Zq)] x34 dX12_years_148 rfl (by rw [ex34]; rfl) (by decide) rfl ?_
            refine li_goto 43 dX12_years_151 (by decide) ?_
            refine li_pick [0, 3, 4, 5, 2, 6, 7, 8] [(7, .int x34), (6, .int x10), (5, .int x11), (4, .int x12), (3, .int x24), (0, .ref (Z.2.2 175)), (1, .int p1Zq), (2, .int p2Zq)] rfl ?_
            exact ih43 x34 x10 x11 x12 x24 M32 (by omega) hf hJ (by omega)
    have z0 : (0 : Int32).toInt = 0 := rfl
    have z0 : (0 : Int32).toInt = 0 := rfl
    have z0 : (0 : Int32).toInt = 0 := rfl
    have z0 : (0 : Int32).toInt = 0 := rfl
    exact L43 _ 0 0 0 0 p1Zq M7Zq (Nat.lt_succ_self _) hf hJ (by omega)
  · skip
    refine li_if_ne 17 dX12_years_12 (by decide) (fun c => absurd rfl c) (fun c => ?_)
    refine li_iconst (-1) dX12_years_15 (by decide) ?_
    have zm1 : ((-1) : Int32).toInt = -1 := rfl
    exact li_iret dX12_years_16 rfl rfl ⟨⟨_, rfl, (by first | omega | (intro _; omega) | (refine ⟨?_, ?_⟩ <;> first | omega | (intro _; omega)) | (refine ⟨?_, ?_, ?_, ?_⟩ <;> first | omega | (intro _; omega)))⟩, hf, hJ⟩
set_option maxRecDepth 100000 in
set_option maxHeartbeats 4000000 in
theorem k15_X12_things {l : Launch} {Z : li_Z} (d : Nat) (hdZq : 1 ≤ d) (M0 : li_M) (hJ : li_J M0) (z7 : (M0.1 175 7).toInt = 0) : li_Met l Z YX12_things d [.ref (Z.2.2 175)] M0 (fun r M' => (∃ x : Int32, r = some (.int x) ∧ (x.toInt = 0)) ∧ li_fs (fun i k => i = 1000 ∨ (i = 175 ∧ k = 10) ∨ (i = 175 ∧ k = 12) ∨ (i = 175 ∧ k = 13) ∨ (i = 175 ∧ k = 14) ∨ (i = 175 ∧ k = 15) ∨ (i = 175 ∧ k = 7)) M0 M' ∧ li_J M') := by
  refine li_enter (by decide +kernel) (Nat.le_of_ble_eq_true rfl) ?_
  show li_T l Z YX12_things d 0 [(0, .ref (Z.2.2 175))] [] M0 _
  have hf : li_fs (fun i k => i = 1000 ∨ (i = 175 ∧ k = 10) ∨ (i = 175 ∧ k = 12) ∨ (i = 175 ∧ k = 13) ∨ (i = 175 ∧ k = 14) ∨ (i = 175 ∧ k = 15) ∨ (i = 175 ∧ k = 7)) M0 M0 := li_fs_refl
  have rM0_7 := J_sl7 (M := M0) hJ
  have rM0_12 := J_sl12 (M := M0) hJ
  refine li_aload_n 0 dX12_things_0 rfl ?_
  refine li_iconst 0 dX12_things_1 (by decide) ?_
  refine li_puti (k := 10) (N := 52) (T := TX12) (C0 := RX12) dX12_things_2 (by decide) sh_175 rfl rfl (by decide) li_in12 tyX12_ok nmX12 rfl rfl rfl rfl w_1414 ?_
  refine li_nm (fun M1Zq eM1 => ?_)
  have hf := li_fs_ui hf (Or.inr (Or.inl ⟨rfl, rfl⟩)) eM1
  have z0 : (0 : Int32).toInt = 0 := rfl
  have hJ := hJ.put (k := 10) (by decide) (rg_free rfl) eM1
  have rM1_7 := J_sl7 (M := M1Zq) hJ
  have rM1_12 := J_sl12 (M := M1Zq) hJ
  have mM1_7 : (M1Zq.1 175 7).toInt = (M0.1 175 7).toInt := by rw [eM1, li_ui_at, if_pos rfl, if_neg (by decide)]
  have mM1_12 : (M1Zq.1 175 12).toInt = (M0.1 175 12).toInt := by rw [eM1, li_ui_at, if_pos rfl, if_neg (by decide)]
  refine li_aload_n 0 dX12_things_5 rfl ?_
  refine li_aload_n 0 dX12_things_6 rfl ?_
  refine li_getr (k := 6) (N := 52) (T := TX12) (C0 := RX12) dX12_things_7 (by decide) sh_175 rfl rfl (by decide) (by decide) li_in12 w_1410 ?_
  refine li_aload_n 0 dX12_things_10 rfl ?_
  refine li_geti (k := 7) (N := 52) (T := TX12) (C0 := RX12) dX12_things_11 (by decide) sh_175 rfl rfl (by decide) li_in12 w_1411 ?_
  refine li_top (fun x2Zq ex2Zq => ?_)
  have gx2 : 0 ≤ x2Zq.toInt ∧ x2Zq.toInt ≤ 80 := by rw [ex2Zq]; exact J_sl7 hJ
  have mx2 : x2Zq.toInt = (M1Zq.1 175 7).toInt := tl_slot ex2Zq
  refine li_bipush 76 dX12_things_14 (by decide) ?_
  have z76 : (76 : Int32).toInt = 76 := rfl
  refine li_callV (n := 3) (As := [.ref (Z.2.2 180), .int x2Zq, .int 76]) dX12_things_16 (k_X12_begin (d - 1) (by unfold li_rq; omega) x2Zq 76 M1Zq hJ (show 0 ≤ (x2Zq : Int32).toInt ∧ (x2Zq : Int32).toInt ≤ (li_qn 180 : Int) by have := li_qn_fix; omega) (by omega)) (by omega) (Nat.le_of_ble_eq_true rfl) w_1581 w_1583 w_42 w_112 w_1584 (by decide +kernel) rfl (by decide) sh_175 rfl rfl (Nat.le_of_ble_eq_true rfl) (fun r M4Zq h5 => ?_)
  obtain ⟨rfl, h5, jM4, nM4⟩ := h5
  have hf := li_fs_trans hf h5 (fun i k => fun hZq => Or.elim hZq (fun hZq => Or.inr (Or.inr (Or.inl hZq))) (fun hZq => Or.elim hZq (fun hZq => Or.inr (Or.inr (Or.inr (Or.inl hZq)))) (fun hZq => Or.elim hZq (fun hZq => Or.inr (Or.inr (Or.inr (Or.inr (Or.inl hZq))))) (fun hZq => Or.elim hZq (fun hZq => Or.inr (Or.inr (Or.inr (Or.inr (Or.inr (Or.inl hZq)))))) (fun hZq => Or.inl hZq)))))
  have hJ := jM4
  have rM4_7 := J_sl7 (M := M4Zq) hJ
  have rM4_12 := J_sl12 (M := M4Zq) hJ
  have mM4_7 : (M4Zq.1 175 7).toInt = (M1Zq.1 175 7).toInt := tl_slot (h5.1 175 7 (show ¬ ((175 = 175 ∧ 7 = 12) ∨ (175 = 175 ∧ 7 = 13) ∨ (175 = 175 ∧ 7 = 14) ∨ (175 = 175 ∧ 7 = 15) ∨ 175 = 1000) by decide))
  refine li_aload_n 0 dX12_things_19 rfl ?_
  refine li_iconst 0 dX12_things_20 (by decide) ?_
  refine li_puti (k := 7) (N := 52) (T := TX12) (C0 := RX12) dX12_things_21 (by decide) sh_175 rfl rfl (by decide) li_in12 tyX12_ok nmX12 rfl rfl rfl rfl w_1411 ?_
  refine li_nm (fun M6Zq eM6 => ?_)
  have hf := li_fs_ui hf (Or.inr (Or.inr (Or.inr (Or.inr (Or.inr (Or.inr (⟨rfl, rfl⟩))))))) eM6
  have z0 : (0 : Int32).toInt = 0 := rfl
  have hJ := J_pt7 hJ (show 0 ≤ (0 : Int32).toInt ∧ (0 : Int32).toInt ≤ 80 by omega) eM6
  have rM6_7 := J_sl7 (M := M6Zq) hJ
  have rM6_12 := J_sl12 (M := M6Zq) hJ
  have mM6_7 : (M6Zq.1 175 7).toInt = 0 := by rw [eM6, li_ui_at, if_pos rfl, if_pos rfl]; rfl
  have mM6_12 : (M6Zq.1 175 12).toInt = (M4Zq.1 175 12).toInt := by rw [eM6, li_ui_at, if_pos rfl, if_neg (by decide)]
  refine li_aload_n 0 dX12_things_24 rfl ?_
  refine li_geti (k := 12) (N := 52) (T := TX12) (C0 := RX12) dX12_things_25 (by decide) sh_175 rfl rfl (by decide) li_in12 w_1416 ?_
  refine li_top (fun x7 ex7 => ?_)
  have gx7 : 0 ≤ x7.toInt ∧ x7.toInt ≤ 80 := by rw [ex7]; exact J_sl12 hJ
  have mx7 : x7.toInt = (M6Zq.1 175 12).toInt := tl_slot ex7
  refine li_if_ne 33 dX12_things_28 (by decide) (fun c8Zq => ?_) (fun c8Zq => ?_)
  · have tc8 : ¬ x7.toInt = 0 := tl_ne c8Zq
    exfalso; omega
  · have tc8 : x7.toInt = 0 := tl_eq c8Zq
    refine li_iconst 0 dX12_things_31 (by decide) ?_
    have z0 : (0 : Int32).toInt = 0 := rfl
    exact li_iret dX12_things_32 rfl rfl ⟨⟨_, rfl, (by first | omega | (intro _; omega) | (refine ⟨?_, ?_⟩ <;> first | omega | (intro _; omega)) | (refine ⟨?_, ?_, ?_, ?_⟩ <;> first | omega | (intro _; omega)))⟩, hf, hJ⟩
set_option maxRecDepth 100000 in
set_option maxHeartbeats 4000000 in
theorem k15_X12_people {l : Launch} {Z : li_Z} (d : Nat) (hdZq : 1 ≤ d) (M0 : li_M) (hJ : li_J M0) (z7 : (M0.1 175 7).toInt = 0) : li_Met l Z YX12_people d [.ref (Z.2.2 175)] M0 (fun r M' => (∃ x : Int32, r = some (.int x) ∧ (x.toInt = 0)) ∧ li_fs (fun i k => i = 1000 ∨ (i = 175 ∧ k = 10) ∨ (i = 175 ∧ k = 12) ∨ (i = 175 ∧ k = 13) ∨ (i = 175 ∧ k = 14) ∨ (i = 175 ∧ k = 15) ∨ (i = 175 ∧ k = 7)) M0 M' ∧ li_J M') := by
  refine li_enter (by decide +kernel) (Nat.le_of_ble_eq_true rfl) ?_
  show li_T l Z YX12_people d 0 [(0, .ref (Z.2.2 175))] [] M0 _
  have hf : li_fs (fun i k => i = 1000 ∨ (i = 175 ∧ k = 10) ∨ (i = 175 ∧ k = 12) ∨ (i = 175 ∧ k = 13) ∨ (i = 175 ∧ k = 14) ∨ (i = 175 ∧ k = 15) ∨ (i = 175 ∧ k = 7)) M0 M0 := li_fs_refl
  have rM0_7 := J_sl7 (M := M0) hJ
  have rM0_12 := J_sl12 (M := M0) hJ
  refine li_aload_n 0 dX12_people_0 rfl ?_
  refine li_iconst 0 dX12_people_1 (by decide) ?_
  refine li_puti (k := 10) (N := 52) (T := TX12) (C0 := RX12) dX12_people_2 (by decide) sh_175 rfl rfl (by decide) li_in12 tyX12_ok nmX12 rfl rfl rfl rfl w_1414 ?_
  refine li_nm (fun M1Zq eM1 => ?_)
  have hf := li_fs_ui hf (Or.inr (Or.inl ⟨rfl, rfl⟩)) eM1
  have z0 : (0 : Int32).toInt = 0 := rfl
  have hJ := hJ.put (k := 10) (by decide) (rg_free rfl) eM1
  have rM1_7 := J_sl7 (M := M1Zq) hJ
  have rM1_12 := J_sl12 (M := M1Zq) hJ
  have mM1_7 : (M1Zq.1 175 7).toInt = (M0.1 175 7).toInt := by rw [eM1, li_ui_at, if_pos rfl, if_neg (by decide)]
  have mM1_12 : (M1Zq.1 175 12).toInt = (M0.1 175 12).toInt := by rw [eM1, li_ui_at, if_pos rfl, if_neg (by decide)]
  refine li_aload_n 0 dX12_people_5 rfl ?_
  refine li_aload_n 0 dX12_people_6 rfl ?_
  refine li_getr (k := 6) (N := 52) (T := TX12) (C0 := RX12) dX12_people_7 (by decide) sh_175 rfl rfl (by decide) (by decide) li_in12 w_1410 ?_
  refine li_aload_n 0 dX12_people_10 rfl ?_
  refine li_geti (k := 7) (N := 52) (T := TX12) (C0 := RX12) dX12_people_11 (by decide) sh_175 rfl rfl (by decide) li_in12 w_1411 ?_
  refine li_top (fun x2Zq ex2Zq => ?_)
  have gx2 : 0 ≤ x2Zq.toInt ∧ x2Zq.toInt ≤ 80 := by rw [ex2Zq]; exact J_sl7 hJ
  have mx2 : x2Zq.toInt = (M1Zq.1 175 7).toInt := tl_slot ex2Zq
  refine li_bipush 76 dX12_people_14 (by decide) ?_
  have z76 : (76 : Int32).toInt = 76 := rfl
  refine li_callV (n := 3) (As := [.ref (Z.2.2 180), .int x2Zq, .int 76]) dX12_people_16 (k_X12_begin (d - 1) (by unfold li_rq; omega) x2Zq 76 M1Zq hJ (show 0 ≤ (x2Zq : Int32).toInt ∧ (x2Zq : Int32).toInt ≤ (li_qn 180 : Int) by have := li_qn_fix; omega) (by omega)) (by omega) (Nat.le_of_ble_eq_true rfl) w_1581 w_1583 w_42 w_112 w_1584 (by decide +kernel) rfl (by decide) sh_175 rfl rfl (Nat.le_of_ble_eq_true rfl) (fun r M4Zq h5 => ?_)
  obtain ⟨rfl, h5, jM4, nM4⟩ := h5
  have hf := li_fs_trans hf h5 (fun i k => fun hZq => Or.elim hZq (fun hZq => Or.inr (Or.inr (Or.inl hZq))) (fun hZq => Or.elim hZq (fun hZq => Or.inr (Or.inr (Or.inr (Or.inl hZq)))) (fun hZq => Or.elim hZq (fun hZq => Or.inr (Or.inr (Or.inr (Or.inr (Or.inl hZq))))) (fun hZq => Or.elim hZq (fun hZq => Or.inr (Or.inr (Or.inr (Or.inr (Or.inr (Or.inl hZq)))))) (fun hZq => Or.inl hZq)))))
  have hJ := jM4
  have rM4_7 := J_sl7 (M := M4Zq) hJ
  have rM4_12 := J_sl12 (M := M4Zq) hJ
  have mM4_7 : (M4Zq.1 175 7).toInt = (M1Zq.1 175 7).toInt := tl_slot (h5.1 175 7 (show ¬ ((175 = 175 ∧ 7 = 12) ∨ (175 = 175 ∧ 7 = 13) ∨ (175 = 175 ∧ 7 = 14) ∨ (175 = 175 ∧ 7 = 15) ∨ 175 = 1000) by decide))
  refine li_aload_n 0 dX12_people_19 rfl ?_
  refine li_iconst 0 dX12_people_20 (by decide) ?_
  refine li_puti (k := 7) (N := 52) (T := TX12) (C0 := RX12) dX12_people_21 (by decide) sh_175 rfl rfl (by decide) li_in12 tyX12_ok nmX12 rfl rfl rfl rfl w_1411 ?_
  refine li_nm (fun M6Zq eM6 => ?_)
  have hf := li_fs_ui hf (Or.inr (Or.inr (Or.inr (Or.inr (Or.inr (Or.inr (⟨rfl, rfl⟩))))))) eM6
  have z0 : (0 : Int32).toInt = 0 := rfl
  have hJ := J_pt7 hJ (show 0 ≤ (0 : Int32).toInt ∧ (0 : Int32).toInt ≤ 80 by omega) eM6
  have rM6_7 := J_sl7 (M := M6Zq) hJ
  have rM6_12 := J_sl12 (M := M6Zq) hJ
  have mM6_7 : (M6Zq.1 175 7).toInt = 0 := by rw [eM6, li_ui_at, if_pos rfl, if_pos rfl]; rfl
  have mM6_12 : (M6Zq.1 175 12).toInt = (M4Zq.1 175 12).toInt := by rw [eM6, li_ui_at, if_pos rfl, if_neg (by decide)]
  refine li_aload_n 0 dX12_people_24 rfl ?_
  refine li_geti (k := 12) (N := 52) (T := TX12) (C0 := RX12) dX12_people_25 (by decide) sh_175 rfl rfl (by decide) li_in12 w_1416 ?_
  refine li_top (fun x7 ex7 => ?_)
  have gx7 : 0 ≤ x7.toInt ∧ x7.toInt ≤ 80 := by rw [ex7]; exact J_sl12 hJ
  have mx7 : x7.toInt = (M6Zq.1 175 12).toInt := tl_slot ex7
  refine li_if_ne 33 dX12_people_28 (by decide) (fun c8Zq => ?_) (fun c8Zq => ?_)
  · have tc8 : ¬ x7.toInt = 0 := tl_ne c8Zq
    exfalso; omega
  · have tc8 : x7.toInt = 0 := tl_eq c8Zq
    refine li_iconst 0 dX12_people_31 (by decide) ?_
    have z0 : (0 : Int32).toInt = 0 := rfl
    exact li_iret dX12_people_32 rfl rfl ⟨⟨_, rfl, (by first | omega | (intro _; omega) | (refine ⟨?_, ?_⟩ <;> first | omega | (intro _; omega)) | (refine ⟨?_, ?_, ?_, ?_⟩ <;> first | omega | (intro _; omega)))⟩, hf, hJ⟩
set_option maxRecDepth 100000 in
set_option maxHeartbeats 4000000 in
theorem k15_X12_count {l : Launch} {Z : li_Z} (d : Nat) (hdZq : 2 ≤ d) (p1Zq : Int32) (M0 : li_M) (hJ : li_J M0) (z1 : (M0.1 175 1).toInt = 0) (z4 : (M0.1 175 4).toInt = 0) (z7 : (M0.1 175 7).toInt = 0) (z9 : (M0.1 175 9).toInt = 0) (z23 : (M0.1 175 23).toInt = 0) (z38 : (M0.1 175 38).toInt = 0) (z43Zq : (M0.1 175 43).toInt = 0) (z17618 : (M0.1 176 18).toInt = 0) (z17619 : (M0.1 176 19).toInt = 0) (z17620 : (M0.1 176 20).toInt = 0) : li_Met l Z YX12_count d [.ref (Z.2.2 175), .int p1Zq] M0 (fun r M' => (∃ x : Int32, r = some (.int x) ∧ ((0 ≤ p1Zq.toInt ∧ p1Zq.toInt ≤ 11 ∧ x.toInt = 0) ∨ (¬ (0 ≤ p1Zq.toInt ∧ p1Zq.toInt ≤ 11) ∧ x.toInt = -1))) ∧ li_fs (fun i k => (i = 175 ∧ k = 10)) M0 M' ∧ li_J M') := by
  refine li_enter (by decide +kernel) (Nat.le_of_ble_eq_true rfl) ?_
  show li_T l Z YX12_count d 0 [(0, .ref (Z.2.2 175)), (1, .int p1Zq)] [] M0 _
  have hf : li_fs (fun i k => (i = 175 ∧ k = 10)) M0 M0 := li_fs_refl
  have gp1 := tl_rg p1Zq
  have rM0_1 := J_sl1 (M := M0) hJ
  have rM0_4 := J_sl4 (M := M0) hJ
  have rM0_7 := J_sl7 (M := M0) hJ
  have rM0_9 := J_sl9 (M := M0) hJ
  have rM0_23 := J_sl23 (M := M0) hJ
  have rM0_38 := J_sl38 (M := M0) hJ
  refine li_aload_n 0 dX12_count_0 rfl ?_
  refine li_iconst 0 dX12_count_1 (by decide) ?_
  refine li_puti (k := 10) (N := 52) (T := TX12) (C0 := RX12) dX12_count_2 (by decide) sh_175 rfl rfl (by decide) li_in12 tyX12_ok nmX12 rfl rfl rfl rfl w_1414 ?_
  refine li_nm (fun M1Zq eM1 => ?_)
  have hf := li_fs_ui hf (⟨rfl, rfl⟩) eM1
  have z0 : (0 : Int32).toInt = 0 := rfl
  have hJ := hJ.put (k := 10) (by decide) (rg_free rfl) eM1
  have rM1_1 := J_sl1 (M := M1Zq) hJ
  have rM1_4 := J_sl4 (M := M1Zq) hJ
  have rM1_7 := J_sl7 (M := M1Zq) hJ
  have rM1_9 := J_sl9 (M := M1Zq) hJ
  have rM1_23 := J_sl23 (M := M1Zq) hJ
  have rM1_38 := J_sl38 (M := M1Zq) hJ
  have mM1_1 : (M1Zq.1 175 1).toInt = (M0.1 175 1).toInt := by rw [eM1, li_ui_at, if_pos rfl, if_neg (by decide)]
  have mM1_4 : (M1Zq.1 175 4).toInt = (M0.1 175 4).toInt := by rw [eM1, li_ui_at, if_pos rfl, if_neg (by decide)]
  have mM1_7 : (M1Zq.1 175 7).toInt = (M0.1 175 7).toInt := by rw [eM1, li_ui_at, if_pos rfl, if_neg (by decide)]
  have mM1_9 : (M1Zq.1 175 9).toInt = (M0.1 175 9).toInt := by rw [eM1, li_ui_at, if_pos rfl, if_neg (by decide)]
  have mM1_23 : (M1Zq.1 175 23).toInt = (M0.1 175 23).toInt := by rw [eM1, li_ui_at, if_pos rfl, if_neg (by decide)]
  have mM1_38 : (M1Zq.1 175 38).toInt = (M0.1 175 38).toInt := by rw [eM1, li_ui_at, if_pos rfl, if_neg (by decide)]
  have mM1_43 : (M1Zq.1 175 43).toInt = (M0.1 175 43).toInt := by rw [eM1, li_ui_at, if_pos rfl, if_neg (by decide)]
  have aM1_176_18 : (M1Zq.1 176 18).toInt = (M0.1 176 18).toInt := by rw [eM1, li_ui_at, if_neg (by decide)]
  have aM1_176_19 : (M1Zq.1 176 19).toInt = (M0.1 176 19).toInt := by rw [eM1, li_ui_at, if_neg (by decide)]
  have aM1_176_20 : (M1Zq.1 176 20).toInt = (M0.1 176 20).toInt := by rw [eM1, li_ui_at, if_neg (by decide)]
  refine li_iload_n 1 dX12_count_5 rfl ?_
  refine li_table dX12_count_6 137 (by decide) (fun c2 => ?_) (fun c2a c2b => ?_)
  · refine li_iconst (-1) dX12_count_137 (by decide) ?_
    have zm1 : ((-1) : Int32).toInt = -1 := rfl
    exact li_iret dX12_count_138 rfl rfl ⟨⟨_, rfl, (by first | omega | (intro _; omega) | (refine ⟨?_, ?_⟩ <;> first | omega | (intro _; omega)) | (refine ⟨?_, ?_, ?_, ?_⟩ <;> first | omega | (intro _; omega)))⟩, hf, hJ⟩
  · rcases (show (p1Zq : Int32).toInt = 0 ∨ (p1Zq : Int32).toInt = 1 ∨ (p1Zq : Int32).toInt = 2 ∨ (p1Zq : Int32).toInt = 3 ∨ (p1Zq : Int32).toInt = 4 ∨ (p1Zq : Int32).toInt = 5 ∨ (p1Zq : Int32).toInt = 6 ∨ (p1Zq : Int32).toInt = 7 ∨ (p1Zq : Int32).toInt = 8 ∨ (p1Zq : Int32).toInt = 9 ∨ (p1Zq : Int32).toInt = 10 ∨ (p1Zq : Int32).toInt = 11 by omega) with c2 | c2 | c2 | c2 | c2 | c2 | c2 | c2 | c2 | c2 | c2 | c2
    · refine ⟨62, 68, by rw [c2]; rfl, by decide, ?_⟩
      refine li_aload_n 0 dX12_count_68 rfl ?_
      refine li_geti (k := 1) (N := 52) (T := TX12) (C0 := RX12) dX12_count_69 (by decide) sh_175 rfl rfl (by decide) li_in12 w_1405 ?_
      refine li_top (fun x3 ex3Zq => ?_)
      have gx3 : 0 ≤ x3.toInt ∧ x3.toInt ≤ 6 := by rw [ex3Zq]; exact J_sl1 hJ
      have mx3 : x3.toInt = (M1Zq.1 175 1).toInt := tl_slot ex3Zq
      have sx3 : x3.toInt = (M0.1 175 1).toInt := tl_slot (ex3Zq.trans (hf.1 175 1 (show ¬ ((175 = 175 ∧ 1 = 10)) by decide)))
      exact li_iret dX12_count_72 rfl rfl ⟨⟨_, rfl, (by first | omega | (intro _; omega) | (refine ⟨?_, ?_⟩ <;> first | omega | (intro _; omega)) | (refine ⟨?_, ?_, ?_, ?_⟩ <;> first | omega | (intro _; omega)))⟩, hf, hJ⟩
    · refine ⟨67, 73, by rw [c2]; rfl, by decide, ?_⟩
      refine li_aload_n 0 dX12_count_73 rfl ?_
      refine li_geti (k := 4) (N := 52) (T := TX12) (C0 := RX12) dX12_count_74 (by decide) sh_175 rfl rfl (by decide) li_in12 w_1408 ?_
      refine li_top (fun x4Zq ex4 => ?_)
      have gx4 : 0 ≤ x4Zq.toInt ∧ x4Zq.toInt ≤ 8 := by rw [ex4]; exact J_sl4 hJ
      have mx4 : x4Zq.toInt = (M1Zq.1 175 4).toInt := tl_slot ex4
      have sx4 : x4Zq.toInt = (M0.1 175 4).toInt := tl_slot (ex4.trans (hf.1 175 4 (show ¬ ((175 = 175 ∧ 4 = 10)) by decide)))
      exact li_iret dX12_count_77 rfl rfl ⟨⟨_, rfl, (by first | omega | (intro _; omega) | (refine ⟨?_, ?_⟩ <;> first | omega | (intro _; omega)) | (refine ⟨?_, ?_, ?_, ?_⟩ <;> first | omega | (intro _; omega)))⟩, hf, hJ⟩
    · refine ⟨72, 78, by rw [c2]; rfl, by decide, ?_⟩
      refine li_aload_n 0 dX12_count_78 rfl ?_
      refine li_getr (k := 0) (N := 52) (T := TX12) (C0 := RX12) dX12_count_79 (by decide) sh_175 rfl rfl (by decide) (by decide) li_in12 w_1404 ?_
      refine li_bipush 19 dX12_count_82 (by decide) ?_
      have z19 : (19 : Int32).toInt = 19 := rfl
      refine li_iald dX12_count_84 (by decide) sh_176 (tl_in (by omega)) ?_
      refine li_top (fun x5Zq ex5 => ?_)
      have gx5 := tl_rg x5Zq
      have lx5 : ((19 : Int32).toInt % 51 = 20 → 0 ≤ x5Zq.toInt ∧ x5Zq.toInt ≤ 6) ∧ (21 ≤ (19 : Int32).toInt % 51 → ((19 : Int32).toInt % 51 - 21) % 5 < 2 → 0 ≤ x5Zq.toInt ∧ x5Zq.toInt ≤ 5) := hJ.ldLed (by unfold li_led; omega) ex5 (by omega)
      have bx5 : x5Zq.toInt = (M1Zq.1 176 19).toInt := tl_slot (ex5.trans (congrArg (M1Zq.1 176) (by decide)))
      exact li_iret dX12_count_85 rfl rfl ⟨⟨_, rfl, (by first | omega | (intro _; omega) | (refine ⟨?_, ?_⟩ <;> first | omega | (intro _; omega)) | (refine ⟨?_, ?_, ?_, ?_⟩ <;> first | omega | (intro _; omega)))⟩, hf, hJ⟩
    · refine ⟨80, 86, by rw [c2]; rfl, by decide, ?_⟩
      refine li_aload_n 0 dX12_count_86 rfl ?_
      refine li_getr (k := 0) (N := 52) (T := TX12) (C0 := RX12) dX12_count_87 (by decide) sh_175 rfl rfl (by decide) (by decide) li_in12 w_1404 ?_
      refine li_bipush 20 dX12_count_90 (by decide) ?_
      have z20 : (20 : Int32).toInt = 20 := rfl
      refine li_iald dX12_count_92 (by decide) sh_176 (tl_in (by omega)) ?_
      refine li_top (fun x6 ex6 => ?_)
      have gx6 := tl_rg x6
      have lx6 : ((20 : Int32).toInt % 51 = 20 → 0 ≤ x6.toInt ∧ x6.toInt ≤ 6) ∧ (21 ≤ (20 : Int32).toInt % 51 → ((20 : Int32).toInt % 51 - 21) % 5 < 2 → 0 ≤ x6.toInt ∧ x6.toInt ≤ 5) := hJ.ldLed (by unfold li_led; omega) ex6 (by omega)
      have bx6 : x6.toInt = (M1Zq.1 176 20).toInt := tl_slot (ex6.trans (congrArg (M1Zq.1 176) (by decide)))
      exact li_iret dX12_count_93 rfl rfl ⟨⟨_, rfl, (by first | omega | (intro _; omega) | (refine ⟨?_, ?_⟩ <;> first | omega | (intro _; omega)) | (refine ⟨?_, ?_, ?_, ?_⟩ <;> first | omega | (intro _; omega)))⟩, hf, hJ⟩
    · refine ⟨88, 94, by rw [c2]; rfl, by decide, ?_⟩
      refine li_aload_n 0 dX12_count_94 rfl ?_
      refine li_getr (k := 0) (N := 52) (T := TX12) (C0 := RX12) dX12_count_95 (by decide) sh_175 rfl rfl (by decide) (by decide) li_in12 w_1404 ?_
      refine li_bipush 18 dX12_count_98 (by decide) ?_
      have z18 : (18 : Int32).toInt = 18 := rfl
      refine li_iald dX12_count_100 (by decide) sh_176 (tl_in (by omega)) ?_
      refine li_top (fun x7 ex7 => ?_)
      have gx7 := tl_rg x7
      have lx7 : ((18 : Int32).toInt % 51 = 20 → 0 ≤ x7.toInt ∧ x7.toInt ≤ 6) ∧ (21 ≤ (18 : Int32).toInt % 51 → ((18 : Int32).toInt % 51 - 21) % 5 < 2 → 0 ≤ x7.toInt ∧ x7.toInt ≤ 5) := hJ.ldLed (by unfold li_led; omega) ex7 (by omega)
      have bx7 : x7.toInt = (M1Zq.1 176 18).toInt := tl_slot (ex7.trans (congrArg (M1Zq.1 176) (by decide)))
      exact li_iret dX12_count_101 rfl rfl ⟨⟨_, rfl, (by first | omega | (intro _; omega) | (refine ⟨?_, ?_⟩ <;> first | omega | (intro _; omega)) | (refine ⟨?_, ?_, ?_, ?_⟩ <;> first | omega | (intro _; omega)))⟩, hf, hJ⟩
    · refine ⟨96, 102, by rw [c2]; rfl, by decide, ?_⟩
      refine li_aload_n 0 dX12_count_102 rfl ?_
      refine li_callV (n := 0) (As := []) dX12_count_103 (k15_X12_today (d - 1) (by omega)  M1Zq hJ (by omega) ) (by omega) (Nat.le_of_ble_eq_true rfl) w_1823 w_1825 w_83 w_112 w_1826 (by decide +kernel) rfl (by decide) sh_175 rfl rfl (Nat.le_of_ble_eq_true rfl) (fun r M9Zq h10 => ?_)
      obtain ⟨⟨x8, rfl, qx8⟩, h10, jM9⟩ := h10
      have gx8 := tl_rg x8
      have hf := li_fs_trans hf h10 (fun i k hZq => False.elim hZq)
      have hJ := jM9
      have rM9_1 := J_sl1 (M := M9Zq) hJ
      have rM9_4 := J_sl4 (M := M9Zq) hJ
      have rM9_7 := J_sl7 (M := M9Zq) hJ
      have rM9_9 := J_sl9 (M := M9Zq) hJ
      have rM9_23 := J_sl23 (M := M9Zq) hJ
      have rM9_38 := J_sl38 (M := M9Zq) hJ
      have mM9_1 : (M9Zq.1 175 1).toInt = (M1Zq.1 175 1).toInt := tl_slot (h10.1 175 1 id)
      have mM9_4 : (M9Zq.1 175 4).toInt = (M1Zq.1 175 4).toInt := tl_slot (h10.1 175 4 id)
      have mM9_7 : (M9Zq.1 175 7).toInt = (M1Zq.1 175 7).toInt := tl_slot (h10.1 175 7 id)
      have mM9_9 : (M9Zq.1 175 9).toInt = (M1Zq.1 175 9).toInt := tl_slot (h10.1 175 9 id)
      have mM9_23 : (M9Zq.1 175 23).toInt = (M1Zq.1 175 23).toInt := tl_slot (h10.1 175 23 id)
      have mM9_38 : (M9Zq.1 175 38).toInt = (M1Zq.1 175 38).toInt := tl_slot (h10.1 175 38 id)
      have mM9_43 : (M9Zq.1 175 43).toInt = (M1Zq.1 175 43).toInt := tl_slot (h10.1 175 43 id)
      have aM9_176_18 : (M9Zq.1 176 18).toInt = (M1Zq.1 176 18).toInt := tl_slot (h10.1 176 (18) id)
      have aM9_176_19 : (M9Zq.1 176 19).toInt = (M1Zq.1 176 19).toInt := tl_slot (h10.1 176 (19) id)
      have aM9_176_20 : (M9Zq.1 176 20).toInt = (M1Zq.1 176 20).toInt := tl_slot (h10.1 176 (20) id)
      exact li_iret dX12_count_106 rfl rfl ⟨⟨_, rfl, (by first | omega | (intro _; omega) | (refine ⟨?_, ?_⟩ <;> first | omega | (intro _; omega)) | (refine ⟨?_, ?_, ?_, ?_⟩ <;> first | omega | (intro _; omega)))⟩, hf, hJ⟩
    · refine ⟨101, 107, by rw [c2]; rfl, by decide, ?_⟩
      refine li_aload_n 0 dX12_count_107 rfl ?_
      refine li_callV (n := 0) (As := []) dX12_count_108 (k15_X12_allClocks (d - 1) (by omega)  M1Zq hJ (by omega) ) (by omega) (Nat.le_of_ble_eq_true rfl) w_1847 w_1849 w_87 w_112 w_1850 (by decide +kernel) rfl (by decide) sh_175 rfl rfl (Nat.le_of_ble_eq_true rfl) (fun r M12 h13 => ?_)
      obtain ⟨⟨x11, rfl, qx11⟩, h13, jM12⟩ := h13
      have gx11 := tl_rg x11
      have hf := li_fs_trans hf h13 (fun i k hZq => False.elim hZq)
      have hJ := jM12
      have rM12_1 := J_sl1 (M := M12) hJ
      have rM12_4 := J_sl4 (M := M12) hJ
      have rM12_7 := J_sl7 (M := M12) hJ
      have rM12_9 := J_sl9 (M := M12) hJ
      have rM12_23 := J_sl23 (M := M12) hJ
      have rM12_38 := J_sl38 (M := M12) hJ
      have mM12_1 : (M12.1 175 1).toInt = (M1Zq.1 175 1).toInt := tl_slot (h13.1 175 1 id)
      have mM12_4 : (M12.1 175 4).toInt = (M1Zq.1 175 4).toInt := tl_slot (h13.1 175 4 id)
      have mM12_7 : (M12.1 175 7).toInt = (M1Zq.1 175 7).toInt := tl_slot (h13.1 175 7 id)
      have mM12_9 : (M12.1 175 9).toInt = (M1Zq.1 175 9).toInt := tl_slot (h13.1 175 9 id)
      have mM12_23 : (M12.1 175 23).toInt = (M1Zq.1 175 23).toInt := tl_slot (h13.1 175 23 id)
      have mM12_38 : (M12.1 175 38).toInt = (M1Zq.1 175 38).toInt := tl_slot (h13.1 175 38 id)
      have mM12_43 : (M12.1 175 43).toInt = (M1Zq.1 175 43).toInt := tl_slot (h13.1 175 43 id)
      have aM12_176_18 : (M12.1 176 18).toInt = (M1Zq.1 176 18).toInt := tl_slot (h13.1 176 (18) id)
      have aM12_176_19 : (M12.1 176 19).toInt = (M1Zq.1 176 19).toInt := tl_slot (h13.1 176 (19) id)
      have aM12_176_20 : (M12.1 176 20).toInt = (M1Zq.1 176 20).toInt := tl_slot (h13.1 176 (20) id)
      exact li_iret dX12_count_111 rfl rfl ⟨⟨_, rfl, (by first | omega | (intro _; omega) | (refine ⟨?_, ?_⟩ <;> first | omega | (intro _; omega)) | (refine ⟨?_, ?_, ?_, ?_⟩ <;> first | omega | (intro _; omega)))⟩, hf, hJ⟩
    · refine ⟨106, 112, by rw [c2]; rfl, by decide, ?_⟩
      refine li_aload_n 0 dX12_count_112 rfl ?_
      refine li_geti (k := 38) (N := 52) (T := TX12) (C0 := RX12) dX12_count_113 (by decide) sh_175 rfl rfl (by decide) li_in12 w_1442 ?_
      refine li_top (fun x14 ex14 => ?_)
      have gx14 : 0 ≤ x14.toInt ∧ x14.toInt ≤ 10 := by rw [ex14]; exact J_sl38 hJ
      have mx14 : x14.toInt = (M1Zq.1 175 38).toInt := tl_slot ex14
      have sx14 : x14.toInt = (M0.1 175 38).toInt := tl_slot (ex14.trans (hf.1 175 38 (show ¬ ((175 = 175 ∧ 38 = 10)) by decide)))
      exact li_iret dX12_count_116 rfl rfl ⟨⟨_, rfl, (by first | omega | (intro _; omega) | (refine ⟨?_, ?_⟩ <;> first | omega | (intro _; omega)) | (refine ⟨?_, ?_, ?_, ?_⟩ <;> first | omega | (intro _; omega)))⟩, hf, hJ⟩
    · refine ⟨111, 117, by rw [c2]; rfl, by decide, ?_⟩
      refine li_aload_n 0 dX12_count_117 rfl ?_
      refine li_geti (k := 43) (N := 52) (T := TX12) (C0 := RX12) dX12_count_118 (by decide) sh_175 rfl rfl (by decide) li_in12 w_1447 ?_
      refine li_top (fun x15 ex15 => ?_)
      have gx15 := tl_rg x15
      have mx15 : x15.toInt = (M1Zq.1 175 43).toInt := tl_slot ex15
      have sx15 : x15.toInt = (M0.1 175 43).toInt := tl_slot (ex15.trans (hf.1 175 43 (show ¬ ((175 = 175 ∧ 43 = 10)) by decide)))
      exact li_iret dX12_count_121 rfl rfl ⟨⟨_, rfl, (by first | omega | (intro _; omega) | (refine ⟨?_, ?_⟩ <;> first | omega | (intro _; omega)) | (refine ⟨?_, ?_, ?_, ?_⟩ <;> first | omega | (intro _; omega)))⟩, hf, hJ⟩
    · refine ⟨116, 122, by rw [c2]; rfl, by decide, ?_⟩
      refine li_aload_n 0 dX12_count_122 rfl ?_
      refine li_geti (k := 23) (N := 52) (T := TX12) (C0 := RX12) dX12_count_123 (by decide) sh_175 rfl rfl (by decide) li_in12 w_1427 ?_
      refine li_top (fun x16 ex16 => ?_)
      have gx16 : 0 ≤ x16.toInt ∧ x16.toInt ≤ 12 := by rw [ex16]; exact J_sl23 hJ
      have mx16 : x16.toInt = (M1Zq.1 175 23).toInt := tl_slot ex16
      have sx16 : x16.toInt = (M0.1 175 23).toInt := tl_slot (ex16.trans (hf.1 175 23 (show ¬ ((175 = 175 ∧ 23 = 10)) by decide)))
      exact li_iret dX12_count_126 rfl rfl ⟨⟨_, rfl, (by first | omega | (intro _; omega) | (refine ⟨?_, ?_⟩ <;> first | omega | (intro _; omega)) | (refine ⟨?_, ?_, ?_, ?_⟩ <;> first | omega | (intro _; omega)))⟩, hf, hJ⟩
    · refine ⟨121, 127, by rw [c2]; rfl, by decide, ?_⟩
      refine li_aload_n 0 dX12_count_127 rfl ?_
      refine li_geti (k := 9) (N := 52) (T := TX12) (C0 := RX12) dX12_count_128 (by decide) sh_175 rfl rfl (by decide) li_in12 w_1413 ?_
      refine li_top (fun x17 ex17 => ?_)
      have gx17 : 0 ≤ x17.toInt ∧ x17.toInt ≤ 20 := by rw [ex17]; exact J_sl9 hJ
      have mx17 : x17.toInt = (M1Zq.1 175 9).toInt := tl_slot ex17
      have sx17 : x17.toInt = (M0.1 175 9).toInt := tl_slot (ex17.trans (hf.1 175 9 (show ¬ ((175 = 175 ∧ 9 = 10)) by decide)))
      exact li_iret dX12_count_131 rfl rfl ⟨⟨_, rfl, (by first | omega | (intro _; omega) | (refine ⟨?_, ?_⟩ <;> first | omega | (intro _; omega)) | (refine ⟨?_, ?_, ?_, ?_⟩ <;> first | omega | (intro _; omega)))⟩, hf, hJ⟩
    · refine ⟨126, 132, by rw [c2]; rfl, by decide, ?_⟩
      refine li_aload_n 0 dX12_count_132 rfl ?_
      refine li_geti (k := 7) (N := 52) (T := TX12) (C0 := RX12) dX12_count_133 (by decide) sh_175 rfl rfl (by decide) li_in12 w_1411 ?_
      refine li_top (fun x18 ex18 => ?_)
      have gx18 : 0 ≤ x18.toInt ∧ x18.toInt ≤ 80 := by rw [ex18]; exact J_sl7 hJ
      have mx18 : x18.toInt = (M1Zq.1 175 7).toInt := tl_slot ex18
      have sx18 : x18.toInt = (M0.1 175 7).toInt := tl_slot (ex18.trans (hf.1 175 7 (show ¬ ((175 = 175 ∧ 7 = 10)) by decide)))
      exact li_iret dX12_count_136 rfl rfl ⟨⟨_, rfl, (by first | omega | (intro _; omega) | (refine ⟨?_, ?_⟩ <;> first | omega | (intro _; omega)) | (refine ⟨?_, ?_, ?_, ?_⟩ <;> first | omega | (intro _; omega)))⟩, hf, hJ⟩
set_option maxRecDepth 100000 in
set_option maxHeartbeats 4000000 in
theorem k15_X12_goDay {l : Launch} {Z : li_Z} (d : Nat) (hdZq : 1 ≤ d) (M0 : li_M) (hJ : li_J M0) (z1 : (M0.1 175 1).toInt = 0) (z20 : (M0.1 176 20).toInt = 0) (h19 : 0 ≤ (M0.1 176 19).toInt ∧ (M0.1 176 19).toInt ≤ 100000) : li_Met l Z YX12_goDay d [.ref (Z.2.2 175), .ref (Z.2.2 176)] M0 (fun r M' => r = none ∧ li_fs (fun i k => i = 176) M0 M' ∧ li_J M' ∧ ((M'.1 176 19).toInt = (M0.1 176 19).toInt + 1 ∧ (M'.1 176 20).toInt = 0)) := by
  refine li_enter (by decide +kernel) (Nat.le_of_ble_eq_true rfl) ?_
  show li_T l Z YX12_goDay d 0 [(0, .ref (Z.2.2 175)), (1, .ref (Z.2.2 176))] [] M0 _
  have hf : li_fs (fun i k => i = 176) M0 M0 := li_fs_refl
  have rM0_1 := J_sl1 (M := M0) hJ
  refine li_aload_n 1 dX12_goDay_0 rfl ?_
  refine li_bipush 19 dX12_goDay_1 (by decide) ?_
  refine li_dup2 dX12_goDay_3 rfl rfl ?_
  have z19 : (19 : Int32).toInt = 19 := rfl
  refine li_iald dX12_goDay_4 (by decide) sh_176 (tl_in (by omega)) ?_
  refine li_top (fun x1Zq ex1 => ?_)
  have gx1 := tl_rg x1Zq
  have lx1 : ((19 : Int32).toInt % 51 = 20 → 0 ≤ x1Zq.toInt ∧ x1Zq.toInt ≤ 6) ∧ (21 ≤ (19 : Int32).toInt % 51 → ((19 : Int32).toInt % 51 - 21) % 5 < 2 → 0 ≤ x1Zq.toInt ∧ x1Zq.toInt ≤ 5) := hJ.ldLed (by unfold li_led; omega) ex1 (by omega)
  try (have kx1 : 0 ≤ x1Zq.toInt ∧ x1Zq.toInt ≤ 6 := lx1.1 (by clear lx1; omega))
  try (have kx1 : 0 ≤ x1Zq.toInt ∧ x1Zq.toInt ≤ 5 := lx1.2 (by clear lx1; omega) (by clear lx1; omega))
  clear lx1
  have bx1 : x1Zq.toInt = (M0.1 176 19).toInt := tl_slot (ex1.trans (congrArg (M0.1 176) (by decide)))
  refine li_iconst 1 dX12_goDay_5 (by decide) ?_
  refine li_iadd dX12_goDay_6 ?_
  refine li_top (fun x2Zq ex2Zq => ?_)
  have z1 : (1 : Int32).toInt = 1 := rfl
  try (have tx2 : x2Zq.toInt = (x1Zq : Int32).toInt + (1 : Int32).toInt := tl_add ex2Zq (by omega))
  have z19 : (19 : Int32).toInt = 19 := rfl
  refine li_iast dX12_goDay_7 (by decide) sh_176 (tl_in (by omega)) ?_
  refine li_nm (fun M3Zq eM3 => ?_)
  have hf := li_fs_ui hf (rfl) eM3
  have hJ := hJ.st (by decide) (li_el_led (by unfold li_led; omega) (by omega) (show ((19 : Int32).toInt % 51 = 20 → 0 ≤ (x2Zq : Int32).toInt ∧ (x2Zq : Int32).toInt ≤ 6) ∧ (21 ≤ (19 : Int32).toInt % 51 → ((19 : Int32).toInt % 51 - 21) % 5 < 2 → 0 ≤ (x2Zq : Int32).toInt ∧ (x2Zq : Int32).toInt ≤ 5) by omega)) eM3
  have rM3_1 := J_sl1 (M := M3Zq) hJ
  have mM3_1 : (M3Zq.1 175 1).toInt = (M0.1 175 1).toInt := by rw [eM3, li_ui_at, if_neg (by decide)]
  try (have aM3_176_19 : (M3Zq.1 176 19).toInt = (M0.1 176 19).toInt := by rw [eM3, li_ui_at, if_pos rfl, if_neg (show ¬ (19 : Nat) = (19 : Int32).toNatClampNeg by have h9 := li_cl (i := 19) (by omega); omega)])
  try (have aM3_176_20 : (M3Zq.1 176 20).toInt = (M0.1 176 20).toInt := by rw [eM3, li_ui_at, if_pos rfl, if_neg (show ¬ (20 : Nat) = (19 : Int32).toNatClampNeg by have h9 := li_cl (i := 19) (by omega); omega)])
  have aM3_176_19 : (M3Zq.1 176 19).toInt = (x2Zq : Int32).toInt := by rw [eM3, li_ui_at, if_pos rfl, if_pos (by decide)]
  refine li_iconst 0 dX12_goDay_8 (by decide) ?_
  refine li_istore_n [(2, .int 0), (0, .ref (Z.2.2 175)), (1, .ref (Z.2.2 176))] dX12_goDay_9 (by decide) rfl ?_
  have L10 : ∀ (n : Nat) (x4Zq : Int32) (M5Zq : li_M), ((x4Zq : Int32).toInt).toNat < n → li_fs (fun i k => i = 176) M0 M5Zq → li_J M5Zq → 0 ≤ (x4Zq : Int32).toInt ∧ (M5Zq.1 176 20).toInt = 0 ∧ (M5Zq.1 176 19).toInt = (M0.1 176 19).toInt + 1 ∧ (M5Zq.1 175 1).toInt = 0 → li_T l Z YX12_goDay d 10 [(2, .int x4Zq), (0, .ref (Z.2.2 175)), (1, .ref (Z.2.2 176))] [] M5Zq (fun r M' => r = none ∧ li_fs (fun i k => i = 176) M0 M' ∧ li_J M' ∧ ((M'.1 176 19).toInt = (M0.1 176 19).toInt + 1 ∧ (M'.1 176 20).toInt = 0)) := by
    intro n
    induction n with
    | zero => intro x4Zq M5Zq hn; exact absurd hn (Nat.not_lt_zero _)
    | succ n ih10 =>
      intro x4Zq M5Zq hn hf hJ hiZq
      have gx4 := tl_rg x4Zq
      have rM5_1 := J_sl1 (M := M5Zq) hJ
      have mM5_1 : (M5Zq.1 175 1).toInt = (M0.1 175 1).toInt := tl_slot (hf.1 175 1 (show ¬ (175 = 176) by decide))
      refine li_iload_n 0 dX12_goDay_10 rfl ?_
      refine li_aload_n 2 dX12_goDay_11 rfl ?_
      refine li_bipush 20 dX12_goDay_12 (by decide) ?_
      have z20 : (20 : Int32).toInt = 20 := rfl
      refine li_iald dX12_goDay_14 (by decide) sh_176 (tl_in (by omega)) ?_
      refine li_top (fun x6 ex6 => ?_)
      have gx6 := tl_rg x6
      have lx6 : ((20 : Int32).toInt % 51 = 20 → 0 ≤ x6.toInt ∧ x6.toInt ≤ 6) ∧ (21 ≤ (20 : Int32).toInt % 51 → ((20 : Int32).toInt % 51 - 21) % 5 < 2 → 0 ≤ x6.toInt ∧ x6.toInt ≤ 5) := hJ.ldLed (by unfold li_led; omega) ex6 (by omega)
      try (have kx6 : 0 ≤ x6.toInt ∧ x6.toInt ≤ 6 := lx6.1 (by clear lx6; omega))
      try (have kx6 : 0 ≤ x6.toInt ∧ x6.toInt ≤ 5 := lx6.2 (by clear lx6; omega) (by clear lx6; omega))
      clear lx6
      have bx6 : x6.toInt = (M5Zq.1 176 20).toInt := tl_slot (ex6.trans (congrArg (M5Zq.1 176) (by decide)))
      refine li_icmp_ge 65 dX12_goDay_15 (by decide) (fun c7Zq => ?_) (fun c7Zq => ?_)
      · have tc7 : x6.toInt ≤ x4Zq.toInt := tl_le c7Zq
        refine li_iconst 0 dX12_goDay_65 (by decide) ?_
        refine li_istore_n [(2, .int 0), (0, .ref (Z.2.2 175)), (1, .ref (Z.2.2 176))] dX12_goDay_66 (by decide) rfl ?_
        have L67 : ∀ (n : Nat) (x8 : Int32) (M9Zq : li_M), ((x8 : Int32).toInt).toNat < n → li_fs (fun i k => i = 176) M0 M9Zq → li_J M9Zq → 0 ≤ (x8 : Int32).toInt ∧ (M9Zq.1 176 20).toInt = 0 ∧ (M9Zq.1 176 19).toInt = (M0.1 176 19).toInt + 1 ∧ (M9Zq.1 175 1).toInt = 0 → li_T l Z YX12_goDay d 67 [(2, .int x8), (0, .ref (Z.2.2 175)), (1, .ref (Z.2.2 176))] [] M9Zq (fun r M' => r = none ∧ li_fs (fun i k => i = 176) M0 M' ∧ li_J M' ∧ ((M'.1 176 19).toInt = (M0.1 176 19).toInt + 1 ∧ (M'.1 176 20).toInt = 0)) := by
          intro n
          induction n with
          | zero => intro x8 M9Zq hn; exact absurd hn (Nat.not_lt_zero _)
          | succ n ih67 =>
            intro x8 M9Zq hn hf hJ hiZq
            have gx8 := tl_rg x8
            have rM9_1 := J_sl1 (M := M9Zq) hJ
            have mM9_1 : (M9Zq.1 175 1).toInt = (M0.1 175 1).toInt := tl_slot (hf.1 175 1 (show ¬ (175 = 176) by decide))
            refine li_iload_n 0 dX12_goDay_67 rfl ?_
            refine li_aload_n 2 dX12_goDay_68 rfl ?_
            refine li_bipush 20 dX12_goDay_69 (by decide) ?_
            have z20 : (20 : Int32).toInt = 20 := rfl
            refine li_iald dX12_goDay_71 (by decide) sh_176 (tl_in (by omega)) ?_
            refine li_top (fun x10 ex10 => ?_)
            have gx10 := tl_rg x10
            have lx10 : ((20 : Int32).toInt % 51 = 20 → 0 ≤ x10.toInt ∧ x10.toInt ≤ 6) ∧ (21 ≤ (20 : Int32).toInt % 51 → ((20 : Int32).toInt % 51 - 21) % 5 < 2 → 0 ≤ x10.toInt ∧ x10.toInt ≤ 5) := hJ.ldLed (by unfold li_led; omega) ex10 (by omega)
            try (have kx10 : 0 ≤ x10.toInt ∧ x10.toInt ≤ 6 := lx10.1 (by clear lx10; omega))
            try (have kx10 : 0 ≤ x10.toInt ∧ x10.toInt ≤ 5 := lx10.2 (by clear lx10; omega) (by clear lx10; omega))
            clear lx10
            have bx10 : x10.toInt = (M9Zq.1 176 20).toInt := tl_slot (ex10.trans (congrArg (M9Zq.1 176) (by decide)))
            refine li_icmp_ge 196 dX12_goDay_72 (by decide) (fun c11Zq => ?_) (fun c11Zq => ?_)
            · have tc11 : x10.toInt ≤ x8.toInt := tl_le c11Zq
              refine li_aload_n 2 dX12_goDay_196 rfl ?_
              refine li_bipush 19 dX12_goDay_197 (by decide) ?_
              have z19 : (19 : Int32).toInt = 19 := rfl
              refine li_iald dX12_goDay_199 (by decide) sh_176 (tl_in (by omega)) ?_
              refine li_top (fun x12 ex12 => ?_)
              have gx12 := tl_rg x12
              have lx12 : ((19 : Int32).toInt % 51 = 20 → 0 ≤ x12.toInt ∧ x12.toInt ≤ 6) ∧ (21 ≤ (19 : Int32).toInt % 51 → ((19 : Int32).toInt % 51 - 21) % 5 < 2 → 0 ≤ x12.toInt ∧ x12.toInt ≤ 5) := hJ.ldLed (by unfold li_led; omega) ex12 (by omega)
              try (have kx12 : 0 ≤ x12.toInt ∧ x12.toInt ≤ 6 := lx12.1 (by clear lx12; omega))
              try (have kx12 : 0 ≤ x12.toInt ∧ x12.toInt ≤ 5 := lx12.2 (by clear lx12; omega) (by clear lx12; omega))
              clear lx12
              have bx12 : x12.toInt = (M9Zq.1 176 19).toInt := tl_slot (ex12.trans (congrArg (M9Zq.1 176) (by decide)))
              refine li_bipush 100 dX12_goDay_200 (by decide) ?_
              refine li_irem dX12_goDay_202 (by decide) ?_
              refine li_top (fun x13 ex13 => ?_)
              refine li_if_eq 207 dX12_goDay_203 (by decide) (fun c14Zq => ?_) (fun c14Zq => ?_)
              · have tc14 : x13.toInt = 0 := tl_eq c14Zq
                refine li_iconst 0 dX12_goDay_207 (by decide) ?_
                refine li_istore_n [(2, .int 0), (0, .ref (Z.2.2 175)), (1, .ref (Z.2.2 176))] dX12_goDay_208 (by decide) rfl ?_
                have L209 : ∀ (n : Nat) (x15 : Int32) (M16 : li_M), ((x15 : Int32).toInt).toNat < n → li_fs (fun i k => i = 176) M0 M16 → li_J M16 → 0 ≤ (x15 : Int32).toInt ∧ (M16.1 176 20).toInt = 0 ∧ (M16.1 176 19).toInt = (M0.1 176 19).toInt + 1 ∧ (M16.1 175 1).toInt = 0 → li_T l Z YX12_goDay d 209 [(2, .int x15), (0, .ref (Z.2.2 175)), (1, .ref (Z.2.2 176))] [] M16 (fun r M' => r = none ∧ li_fs (fun i k => i = 176) M0 M' ∧ li_J M' ∧ ((M'.1 176 19).toInt = (M0.1 176 19).toInt + 1 ∧ (M'.1 176 20).toInt = 0)) := by
                  intro n
                  induction n with
                  | zero => intro x15 M16 hn; exact absurd hn (Nat.not_lt_zero _)
                  | succ n ih209 =>
                    intro x15 M16 hn hf hJ hiZq
                    have gx15 := tl_rg x15
                    have rM16_1 := J_sl1 (M := M16) hJ
                    have mM16_1 : (M16.1 175 1).toInt = (M0.1 175 1).toInt := tl_slot (hf.1 175 1 (show ¬ (175 = 176) by decide))
                    refine li_iload_n 0 dX12_goDay_209 rfl ?_
                    refine li_aload_n 1 dX12_goDay_210 rfl ?_
                    refine li_geti (k := 1) (N := 52) (T := TX12) (C0 := RX12) dX12_goDay_211 (by decide) sh_175 rfl rfl (by decide) li_in12 w_1405 ?_
                    refine li_top (fun x17 ex17 => ?_)
                    have gx17 : 0 ≤ x17.toInt ∧ x17.toInt ≤ 6 := by rw [ex17]; exact J_sl1 hJ
                    have mx17 : x17.toInt = (M16.1 175 1).toInt := tl_slot ex17
                    have sx17 : x17.toInt = (M0.1 175 1).toInt := tl_slot (ex17.trans (hf.1 175 1 (show ¬ (175 = 176) by decide)))
                    refine li_icmp_ge 239 dX12_goDay_214 (by decide) (fun c18Zq => ?_) (fun c18Zq => ?_)
                    · have tc18 : x17.toInt ≤ x15.toInt := tl_le c18Zq
                      refine li_aload_n 2 dX12_goDay_239 rfl ?_
                      refine li_bipush 18 dX12_goDay_240 (by decide) ?_
                      refine li_iconst 0 dX12_goDay_242 (by decide) ?_
                      have z18 : (18 : Int32).toInt = 18 := rfl
                      have z0 : (0 : Int32).toInt = 0 := rfl
                      refine li_iast dX12_goDay_243 (by decide) sh_176 (tl_in (by omega)) ?_
                      refine li_nm (fun M19 eM19 => ?_)
                      have hf := li_fs_ui hf (rfl) eM19
                      have hJ := hJ.st (by decide) (li_el_led (by unfold li_led; omega) (by omega) (show ((18 : Int32).toInt % 51 = 20 → 0 ≤ (0 : Int32).toInt ∧ (0 : Int32).toInt ≤ 6) ∧ (21 ≤ (18 : Int32).toInt % 51 → ((18 : Int32).toInt % 51 - 21) % 5 < 2 → 0 ≤ (0 : Int32).toInt ∧ (0 : Int32).toInt ≤ 5) by omega)) eM19
                      have rM19_1 := J_sl1 (M := M19) hJ
                      have mM19_1 : (M19.1 175 1).toInt = (M16.1 175 1).toInt := by rw [eM19, li_ui_at, if_neg (by decide)]
                      try (have aM19_176_19 : (M19.1 176 19).toInt = (M16.1 176 19).toInt := by rw [eM19, li_ui_at, if_pos rfl, if_neg (show ¬ (19 : Nat) = (18 : Int32).toNatClampNeg by have h9 := li_cl (i := 18) (by omega); omega)])
                      try (have aM19_176_20 : (M19.1 176 20).toInt = (M16.1 176 20).toInt := by rw [eM19, li_ui_at, if_pos rfl, if_neg (show ¬ (20 : Nat) = (18 : Int32).toNatClampNeg by have h9 := li_cl (i := 18) (by omega); omega)])
                      exact li_vret dX12_goDay_244 rfl ⟨rfl, hf, hJ, (by refine ⟨?_, ?_⟩ <;> omega)⟩
                    · have tc18 : x15.toInt < x17.toInt := tl_nle c18Zq
                      exfalso; omega
                have z0 : (0 : Int32).toInt = 0 := rfl
                exact L209 _ 0 M9Zq (Nat.lt_succ_self _) hf hJ (by omega)
              · have tc14 : ¬ x13.toInt = 0 := tl_ne c14Zq
                exact li_vret dX12_goDay_206 rfl ⟨rfl, hf, hJ, (by refine ⟨?_, ?_⟩ <;> omega)⟩
            · have tc11 : x8.toInt < x10.toInt := tl_nle c11Zq
              exfalso; omega
        have z0 : (0 : Int32).toInt = 0 := rfl
        exact L67 _ 0 M5Zq (Nat.lt_succ_self _) hf hJ (by omega)
      · have tc7 : x4Zq.toInt < x6.toInt := tl_nle c7Zq
        exfalso; omega
  have z0 : (0 : Int32).toInt = 0 := rfl
  exact L10 _ 0 M3Zq (Nat.lt_succ_self _) hf hJ (by omega)
set_option maxRecDepth 100000 in
set_option maxHeartbeats 4000000 in
theorem k15_X12_goDays {l : Launch} {Z : li_Z} (d : Nat) (hdZq : 2 ≤ d) (p1Zq : Int32) (M0 : li_M) (hJ : li_J M0) (z1 : (M0.1 175 1).toInt = 0) (z20 : (M0.1 176 20).toInt = 0) (h19 : 0 ≤ (M0.1 176 19).toInt ∧ (M0.1 176 19).toInt ≤ 100) (h1 : 0 ≤ p1Zq.toInt ∧ p1Zq.toInt ≤ 99) : li_Met l Z YX12_goDays d [.ref (Z.2.2 175), .ref (Z.2.2 176), .int p1Zq] M0 (fun r M' => r = none ∧ li_fs (fun i k => i = 176) M0 M' ∧ li_J M' ∧ ((M'.1 176 19).toInt = (M0.1 176 19).toInt + p1Zq.toInt)) := by
  refine li_enter (by decide +kernel) (Nat.le_of_ble_eq_true rfl) ?_
  show li_T l Z YX12_goDays d 0 [(0, .ref (Z.2.2 175)), (1, .ref (Z.2.2 176)), (2, .int p1Zq)] [] M0 _
  have hf : li_fs (fun i k => i = 176) M0 M0 := li_fs_refl
  have gp1 := tl_rg p1Zq
  have rM0_1 := J_sl1 (M := M0) hJ
  refine li_iconst 0 dX12_goDays_0 (by decide) ?_
  refine li_istore_n [(3, .int 0), (0, .ref (Z.2.2 175)), (1, .ref (Z.2.2 176)), (2, .int p1Zq)] dX12_goDays_1 (by decide) rfl ?_
  have L2Zq : ∀ (n : Nat) (x1Zq : Int32) (M2Zq : li_M), (100 - (x1Zq : Int32).toInt).toNat < n → li_fs (fun i k => i = 176) M0 M2Zq → li_J M2Zq → 0 ≤ (x1Zq : Int32).toInt ∧ (x1Zq : Int32).toInt ≤ p1Zq.toInt ∧ (M2Zq.1 176 20).toInt = 0 ∧ (M2Zq.1 176 19).toInt = (M0.1 176 19).toInt + (x1Zq : Int32).toInt ∧ (M2Zq.1 175 1).toInt = 0 → li_T l Z YX12_goDays d 2 [(3, .int x1Zq), (0, .ref (Z.2.2 175)), (1, .ref (Z.2.2 176)), (2, .int p1Zq)] [] M2Zq (fun r M' => r = none ∧ li_fs (fun i k => i = 176) M0 M' ∧ li_J M' ∧ ((M'.1 176 19).toInt = (M0.1 176 19).toInt + p1Zq.toInt)) := by
    intro n
    induction n with
    | zero => intro x1Zq M2Zq hn; exact absurd hn (Nat.not_lt_zero _)
    | succ n ih2 =>
      intro x1Zq M2Zq hn hf hJ hiZq
      have gx1 := tl_rg x1Zq
      have rM2_1 := J_sl1 (M := M2Zq) hJ
      have mM2_1 : (M2Zq.1 175 1).toInt = (M0.1 175 1).toInt := tl_slot (hf.1 175 1 (show ¬ (175 = 176) by decide))
      refine li_iload_n 0 dX12_goDays_2 rfl ?_
      refine li_iload_n 3 dX12_goDays_3 rfl ?_
      refine li_icmp_ge 18 dX12_goDays_4 (by decide) (fun c3 => ?_) (fun c3 => ?_)
      · have tc3 : p1Zq.toInt ≤ x1Zq.toInt := tl_le c3
        exact li_vret dX12_goDays_18 rfl ⟨rfl, hf, hJ, (by omega)⟩
      · have tc3 : x1Zq.toInt < p1Zq.toInt := tl_nle c3
        refine li_aload_n 1 dX12_goDays_7 rfl ?_
        refine li_aload_n 2 dX12_goDays_8 rfl ?_
        refine li_callV (n := 1) (As := [.ref (Z.2.2 176)]) dX12_goDays_9 (k15_X12_goDay (d - 1) (by omega)  M2Zq hJ (by omega) (by omega) (by omega)) (by omega) (Nat.le_of_ble_eq_true rfl) w_1783 w_1785 w_76 w_112 w_1786 (by decide +kernel) rfl (by decide) sh_175 rfl rfl (Nat.le_of_ble_eq_true rfl) (fun r M5Zq h6 => ?_)
        obtain ⟨rfl, h6, jM5, nM5⟩ := h6
        have hf := li_fs_trans hf h6 (fun i k => fun hZq => hZq)
        have hJ := jM5
        have rM5_1 := J_sl1 (M := M5Zq) hJ
        have mM5_1 : (M5Zq.1 175 1).toInt = (M2Zq.1 175 1).toInt := tl_slot (h6.1 175 1 (show ¬ (175 = 176) by decide))
        obtain ⟨x7, ex7⟩ : ∃ y : Int32, y = x1Zq + 1 := ⟨_, rfl⟩
        have z1 : (1 : Int32).toInt = 1 := rfl
        try (have tx7 : x7.toInt = (x1Zq : Int32).toInt + (1 : Int32).toInt := tl_add ex7 (by omega))
        refine li_iinc 0 [(3, .int x7), (0, .ref (Z.2.2 175)), (1, .ref (Z.2.2 176)), (2, .int p1Zq)] x7 dX12_goDays_12 rfl (by rw [ex7]; rfl) (by decide) rfl ?_
        refine li_goto 2 dX12_goDays_15 (by decide) ?_
        refine li_pick [0, 1, 2, 3] [(3, .int x7), (0, .ref (Z.2.2 175)), (1, .ref (Z.2.2 176)), (2, .int p1Zq)] rfl ?_
        exact ih2 x7 M5Zq (by omega) hf hJ (by omega)
  have z0 : (0 : Int32).toInt = 0 := rfl
  exact L2Zq _ 0 M0 (Nat.lt_succ_self _) hf hJ (by omega)
set_option maxRecDepth 100000 in
set_option maxHeartbeats 4000000 in
theorem k15_X12_days {l : Launch} {Z : li_Z} (d : Nat) (hdZq : 3 ≤ d) (p1Zq : Int32) (M0 : li_M) (hJ : li_J M0) (z1 : (M0.1 175 1).toInt = 0) (z17619 : (M0.1 176 19).toInt = 0) (z17620 : (M0.1 176 20).toInt = 0) : li_Met l Z YX12_days d [.ref (Z.2.2 175), .int p1Zq] M0 (fun r M' => (∃ x : Int32, r = some (.int x) ∧ ((0 ≤ p1Zq.toInt ∧ p1Zq.toInt ≤ 99 ∧ x.toInt = p1Zq.toInt) ∨ (¬ (0 ≤ p1Zq.toInt ∧ p1Zq.toInt ≤ 99) ∧ x.toInt = -1))) ∧ li_fs (fun i k => i = 176 ∨ i = 181 ∨ i = 186 ∨ (i = 175 ∧ k = 10) ∨ (i = 175 ∧ k = 23) ∨ (i = 175 ∧ k = 25) ∨ (i = 175 ∧ k = 26) ∨ (i = 175 ∧ k = 9)) M0 M' ∧ li_J M') := by
  refine li_enter (by decide +kernel) (Nat.le_of_ble_eq_true rfl) ?_
  show li_T l Z YX12_days d 0 [(0, .ref (Z.2.2 175)), (1, .int p1Zq)] [] M0 _
  have hf : li_fs (fun i k => i = 176 ∨ i = 181 ∨ i = 186 ∨ (i = 175 ∧ k = 10) ∨ (i = 175 ∧ k = 23) ∨ (i = 175 ∧ k = 25) ∨ (i = 175 ∧ k = 26) ∨ (i = 175 ∧ k = 9)) M0 M0 := li_fs_refl
  have gp1 := tl_rg p1Zq
  have rM0_1 := J_sl1 (M := M0) hJ
  have rM0_9 := J_sl9 (M := M0) hJ
  refine li_aload_n 0 dX12_days_0 rfl ?_
  refine li_iconst 0 dX12_days_1 (by decide) ?_
  refine li_puti (k := 10) (N := 52) (T := TX12) (C0 := RX12) dX12_days_2 (by decide) sh_175 rfl rfl (by decide) li_in12 tyX12_ok nmX12 rfl rfl rfl rfl w_1414 ?_
  refine li_nm (fun M1Zq eM1 => ?_)
  have hf := li_fs_ui hf (Or.inr (Or.inr (Or.inr (Or.inl ⟨rfl, rfl⟩)))) eM1
  have z0 : (0 : Int32).toInt = 0 := rfl
  have hJ := hJ.put (k := 10) (by decide) (rg_free rfl) eM1
  have rM1_1 := J_sl1 (M := M1Zq) hJ
  have rM1_9 := J_sl9 (M := M1Zq) hJ
  have mM1_1 : (M1Zq.1 175 1).toInt = (M0.1 175 1).toInt := by rw [eM1, li_ui_at, if_pos rfl, if_neg (by decide)]
  have mM1_9 : (M1Zq.1 175 9).toInt = (M0.1 175 9).toInt := by rw [eM1, li_ui_at, if_pos rfl, if_neg (by decide)]
  have aM1_176_19 : (M1Zq.1 176 19).toInt = (M0.1 176 19).toInt := by rw [eM1, li_ui_at, if_neg (by decide)]
  have aM1_176_20 : (M1Zq.1 176 20).toInt = (M0.1 176 20).toInt := by rw [eM1, li_ui_at, if_neg (by decide)]
  refine li_iload_n 1 dX12_days_5 rfl ?_
  refine li_iconst 0 dX12_days_6 (by decide) ?_
  refine li_bipush 99 dX12_days_7 (by decide) ?_
  have z0 : (0 : Int32).toInt = 0 := rfl
  have z99 : (99 : Int32).toInt = 99 := rfl
  refine li_callS (n := 3) (As := [.int p1Zq, .int 0, .int 99]) dX12_days_9 (k_X12_in (d - 1) (by omega) p1Zq 0 99 M1Zq hJ ) (by omega) (Nat.le_of_ble_eq_true rfl) w_1574 w_1575 w_112 w_1576 (by decide +kernel) rfl rfl (Nat.le_of_ble_eq_true rfl) (fun r M3Zq h4 => ?_)
  obtain ⟨qx2, h4, jM3⟩ := h4
  have hf := li_fs_trans hf h4 (fun i k hZq => False.elim hZq)
  have hJ := jM3
  have rM3_1 := J_sl1 (M := M3Zq) hJ
  have rM3_9 := J_sl9 (M := M3Zq) hJ
  have mM3_1 : (M3Zq.1 175 1).toInt = (M1Zq.1 175 1).toInt := tl_slot (h4.1 175 1 id)
  have mM3_9 : (M3Zq.1 175 9).toInt = (M1Zq.1 175 9).toInt := tl_slot (h4.1 175 9 id)
  have aM3_176_19 : (M3Zq.1 176 19).toInt = (M1Zq.1 176 19).toInt := tl_slot (h4.1 176 (19) id)
  have aM3_176_20 : (M3Zq.1 176 20).toInt = (M1Zq.1 176 20).toInt := tl_slot (h4.1 176 (20) id)
  rcases qx2 with ⟨rfl, qx2⟩ | ⟨rfl, qx2⟩
  · skip
    refine li_if_ne 17 dX12_days_12 (by decide) (fun c => ?_) (fun c => absurd c (by decide))
    refine li_iload_n 1 dX12_days_17 rfl ?_
    have J29 : ∀  (M7Zq : li_M), li_fs (fun i k => i = 176 ∨ i = 181 ∨ i = 186 ∨ (i = 175 ∧ k = 10) ∨ (i = 175 ∧ k = 23) ∨ (i = 175 ∧ k = 25) ∨ (i = 175 ∧ k = 26) ∨ (i = 175 ∧ k = 9)) M0 M7Zq → li_J M7Zq → (M7Zq.1 175 1).toInt = 0 ∧ (M7Zq.1 176 19).toInt = 0 ∧ (M7Zq.1 176 20).toInt = 0 → li_T l Z YX12_days d 29 [(0, .ref (Z.2.2 175)), (1, .int p1Zq)] [] M7Zq (fun r M' => (∃ x : Int32, r = some (.int x) ∧ ((0 ≤ p1Zq.toInt ∧ p1Zq.toInt ≤ 99 ∧ x.toInt = p1Zq.toInt) ∨ (¬ (0 ≤ p1Zq.toInt ∧ p1Zq.toInt ≤ 99) ∧ x.toInt = -1))) ∧ li_fs (fun i k => i = 176 ∨ i = 181 ∨ i = 186 ∨ (i = 175 ∧ k = 10) ∨ (i = 175 ∧ k = 23) ∨ (i = 175 ∧ k = 25) ∨ (i = 175 ∧ k = 26) ∨ (i = 175 ∧ k = 9)) M0 M' ∧ li_J M') := by
      intro  M7Zq hf hJ hiZq
      have rM7_1 := J_sl1 (M := M7Zq) hJ
      have rM7_9 := J_sl9 (M := M7Zq) hJ
      have mM7_1 : (M7Zq.1 175 1).toInt = (M0.1 175 1).toInt := tl_slot (hf.1 175 1 (show ¬ (175 = 176 ∨ 175 = 181 ∨ 175 = 186 ∨ (175 = 175 ∧ 1 = 10) ∨ (175 = 175 ∧ 1 = 23) ∨ (175 = 175 ∧ 1 = 25) ∨ (175 = 175 ∧ 1 = 26) ∨ (175 = 175 ∧ 1 = 9)) by decide))
      refine li_aload_n 0 dX12_days_29 rfl ?_
      refine li_iconst 0 dX12_days_30 (by decide) ?_
      refine li_puti (k := 25) (N := 52) (T := TX12) (C0 := RX12) dX12_days_31 (by decide) sh_175 rfl rfl (by decide) li_in12 tyX12_ok nmX12 rfl rfl rfl rfl w_1429 ?_
      refine li_nm (fun M8Zq eM8 => ?_)
      have hf := li_fs_ui hf (Or.inr (Or.inr (Or.inr (Or.inr (Or.inr (Or.inl ⟨rfl, rfl⟩)))))) eM8
      have z0 : (0 : Int32).toInt = 0 := rfl
      have hJ := hJ.put (k := 25) (by decide) (rg_free rfl) eM8
      have rM8_1 := J_sl1 (M := M8Zq) hJ
      have rM8_9 := J_sl9 (M := M8Zq) hJ
      have mM8_1 : (M8Zq.1 175 1).toInt = (M7Zq.1 175 1).toInt := by rw [eM8, li_ui_at, if_pos rfl, if_neg (by decide)]
      have mM8_9 : (M8Zq.1 175 9).toInt = (M7Zq.1 175 9).toInt := by rw [eM8, li_ui_at, if_pos rfl, if_neg (by decide)]
      have aM8_176_19 : (M8Zq.1 176 19).toInt = (M7Zq.1 176 19).toInt := by rw [eM8, li_ui_at, if_neg (by decide)]
      have aM8_176_20 : (M8Zq.1 176 20).toInt = (M7Zq.1 176 20).toInt := by rw [eM8, li_ui_at, if_neg (by decide)]
      refine li_aload_n 0 dX12_days_34 rfl ?_
      refine li_iconst 0 dX12_days_35 (by decide) ?_
      refine li_puti (k := 26) (N := 52) (T := TX12) (C0 := RX12) dX12_days_36 (by decide) sh_175 rfl rfl (by decide) li_in12 tyX12_ok nmX12 rfl rfl rfl rfl w_1430 ?_
      refine li_nm (fun M9Zq eM9 => ?_)
      have hf := li_fs_ui hf (Or.inr (Or.inr (Or.inr (Or.inr (Or.inr (Or.inr (Or.inl ⟨rfl, rfl⟩))))))) eM9
      have z0 : (0 : Int32).toInt = 0 := rfl
      have hJ := hJ.put (k := 26) (by decide) (rg_free rfl) eM9
      have rM9_1 := J_sl1 (M := M9Zq) hJ
      have rM9_9 := J_sl9 (M := M9Zq) hJ
      have mM9_1 : (M9Zq.1 175 1).toInt = (M8Zq.1 175 1).toInt := by rw [eM9, li_ui_at, if_pos rfl, if_neg (by decide)]
      have mM9_9 : (M9Zq.1 175 9).toInt = (M8Zq.1 175 9).toInt := by rw [eM9, li_ui_at, if_pos rfl, if_neg (by decide)]
      have aM9_176_19 : (M9Zq.1 176 19).toInt = (M8Zq.1 176 19).toInt := by rw [eM9, li_ui_at, if_neg (by decide)]
      have aM9_176_20 : (M9Zq.1 176 20).toInt = (M8Zq.1 176 20).toInt := by rw [eM9, li_ui_at, if_neg (by decide)]
      refine li_aload_n 0 dX12_days_39 rfl ?_
      refine li_aload_n 0 dX12_days_40 rfl ?_
      refine li_getr (k := 0) (N := 52) (T := TX12) (C0 := RX12) dX12_days_41 (by decide) sh_175 rfl rfl (by decide) (by decide) li_in12 w_1404 ?_
      refine li_iload_n 1 dX12_days_44 rfl ?_
      refine li_callV (n := 2) (As := [.ref (Z.2.2 176), .int p1Zq]) dX12_days_45 (k15_X12_goDays (d - 1) (by omega) p1Zq M9Zq hJ (by omega) (by omega) (by omega) (by omega)) (by omega) (Nat.le_of_ble_eq_true rfl) w_1779 w_1781 w_75 w_112 w_1782 (by decide +kernel) rfl (by decide) sh_175 rfl rfl (Nat.le_of_ble_eq_true rfl) (fun r M11 h12 => ?_)
      obtain ⟨rfl, h12, jM11, nM11⟩ := h12
      have hf := li_fs_trans hf h12 (fun i k => fun hZq => Or.inl hZq)
      have hJ := jM11
      have rM11_1 := J_sl1 (M := M11) hJ
      have rM11_9 := J_sl9 (M := M11) hJ
      have mM11_1 : (M11.1 175 1).toInt = (M9Zq.1 175 1).toInt := tl_slot (h12.1 175 1 (show ¬ (175 = 176) by decide))
      have mM11_9 : (M11.1 175 9).toInt = (M9Zq.1 175 9).toInt := tl_slot (h12.1 175 9 (show ¬ (175 = 176) by decide))
      refine li_aload_n 0 dX12_days_48 rfl ?_
      refine li_iconst 0 dX12_days_49 (by decide) ?_
      refine li_puti (k := 9) (N := 52) (T := TX12) (C0 := RX12) dX12_days_50 (by decide) sh_175 rfl rfl (by decide) li_in12 tyX12_ok nmX12 rfl rfl rfl rfl w_1413 ?_
      refine li_nm (fun M13 eM13 => ?_)
      have hf := li_fs_ui hf (Or.inr (Or.inr (Or.inr (Or.inr (Or.inr (Or.inr (Or.inr (⟨rfl, rfl⟩)))))))) eM13
      have z0 : (0 : Int32).toInt = 0 := rfl
      have hJ := J_pt9 hJ (show 0 ≤ (0 : Int32).toInt ∧ (0 : Int32).toInt ≤ 20 by omega) eM13
      have rM13_1 := J_sl1 (M := M13) hJ
      have rM13_9 := J_sl9 (M := M13) hJ
      have mM13_1 : (M13.1 175 1).toInt = (M11.1 175 1).toInt := by rw [eM13, li_ui_at, if_pos rfl, if_neg (by decide)]
      have mM13_9 : (M13.1 175 9).toInt = 0 := by rw [eM13, li_ui_at, if_pos rfl, if_pos rfl]; rfl
      have aM13_176_19 : (M13.1 176 19).toInt = (M11.1 176 19).toInt := by rw [eM13, li_ui_at, if_neg (by decide)]
      have aM13_176_20 : (M13.1 176 20).toInt = (M11.1 176 20).toInt := by rw [eM13, li_ui_at, if_neg (by decide)]
      refine li_aload_n 0 dX12_days_53 rfl ?_
      refine li_aload_n 0 dX12_days_54 rfl ?_
      refine li_geti (k := 25) (N := 52) (T := TX12) (C0 := RX12) dX12_days_55 (by decide) sh_175 rfl rfl (by decide) li_in12 w_1429 ?_
      refine li_top (fun x14 ex14 => ?_)
      have gx14 := tl_rg x14
      have mx14 : x14.toInt = (M13.1 175 25).toInt := tl_slot ex14
      refine li_callV (n := 1) (As := [.int x14]) dX12_days_58 (k_X12_tell (d - 1) (by omega) x14 M13 hJ (by omega)) (by omega) (Nat.le_of_ble_eq_true rfl) w_1787 w_1789 w_77 w_112 w_1790 (by decide +kernel) rfl (by decide) sh_175 rfl rfl (Nat.le_of_ble_eq_true rfl) (fun r M16 h17 => ?_)
      obtain ⟨rfl, h17, jM16, nM16⟩ := h17
      have hf := li_fs_trans hf h17 (fun i k => fun hZq => Or.elim hZq (fun hZq => Or.inr (Or.inl hZq)) (fun hZq => Or.inr (Or.inr (Or.inr (Or.inr (Or.inr (Or.inr (Or.inr hZq))))))))
      have hJ := jM16
      have rM16_1 := J_sl1 (M := M16) hJ
      have rM16_9 := J_sl9 (M := M16) hJ
      have mM16_1 : (M16.1 175 1).toInt = (M13.1 175 1).toInt := tl_slot (h17.1 175 1 (show ¬ (175 = 181 ∨ (175 = 175 ∧ 1 = 9)) by decide))
      have aM16_176_19 : (M16.1 176 19).toInt = (M13.1 176 19).toInt := tl_slot (h17.1 176 (19) (show ¬ (176 = 181 ∨ (176 = 175 ∧ 19 = 9)) by decide))
      have aM16_176_20 : (M16.1 176 20).toInt = (M13.1 176 20).toInt := tl_slot (h17.1 176 (20) (show ¬ (176 = 181 ∨ (176 = 175 ∧ 20 = 9)) by decide))
      refine li_aload_n 0 dX12_days_61 rfl ?_
      refine li_aload_n 0 dX12_days_62 rfl ?_
      refine li_geti (k := 26) (N := 52) (T := TX12) (C0 := RX12) dX12_days_63 (by decide) sh_175 rfl rfl (by decide) li_in12 w_1430 ?_
      refine li_top (fun x18 ex18 => ?_)
      have gx18 := tl_rg x18
      have mx18 : x18.toInt = (M16.1 175 26).toInt := tl_slot ex18
      refine li_callV (n := 1) (As := [.int x18]) dX12_days_66 (k_X12_tell (d - 1) (by omega) x18 M16 hJ (by omega)) (by omega) (Nat.le_of_ble_eq_true rfl) w_1787 w_1789 w_77 w_112 w_1790 (by decide +kernel) rfl (by decide) sh_175 rfl rfl (Nat.le_of_ble_eq_true rfl) (fun r M20 h21 => ?_)
      obtain ⟨rfl, h21, jM20, nM20⟩ := h21
      have hf := li_fs_trans hf h21 (fun i k => fun hZq => Or.elim hZq (fun hZq => Or.inr (Or.inl hZq)) (fun hZq => Or.inr (Or.inr (Or.inr (Or.inr (Or.inr (Or.inr (Or.inr hZq))))))))
      have hJ := jM20
      have rM20_1 := J_sl1 (M := M20) hJ
      have rM20_9 := J_sl9 (M := M20) hJ
      have mM20_1 : (M20.1 175 1).toInt = (M16.1 175 1).toInt := tl_slot (h21.1 175 1 (show ¬ (175 = 181 ∨ (175 = 175 ∧ 1 = 9)) by decide))
      have aM20_176_19 : (M20.1 176 19).toInt = (M16.1 176 19).toInt := tl_slot (h21.1 176 (19) (show ¬ (176 = 181 ∨ (176 = 175 ∧ 19 = 9)) by decide))
      have aM20_176_20 : (M20.1 176 20).toInt = (M16.1 176 20).toInt := tl_slot (h21.1 176 (20) (show ¬ (176 = 181 ∨ (176 = 175 ∧ 20 = 9)) by decide))
      refine li_aload_n 0 dX12_days_69 rfl ?_
      refine li_getr (k := 0) (N := 52) (T := TX12) (C0 := RX12) dX12_days_70 (by decide) sh_175 rfl rfl (by decide) (by decide) li_in12 w_1404 ?_
      refine li_bipush 19 dX12_days_73 (by decide) ?_
      have z19 : (19 : Int32).toInt = 19 := rfl
      refine li_iald dX12_days_75 (by decide) sh_176 (tl_in (by omega)) ?_
      refine li_top (fun x22 ex22 => ?_)
      have gx22 := tl_rg x22
      have lx22 : ((19 : Int32).toInt % 51 = 20 → 0 ≤ x22.toInt ∧ x22.toInt ≤ 6) ∧ (21 ≤ (19 : Int32).toInt % 51 → ((19 : Int32).toInt % 51 - 21) % 5 < 2 → 0 ≤ x22.toInt ∧ x22.toInt ≤ 5) := hJ.ldLed (by unfold li_led; omega) ex22 (by omega)
      have bx22 : x22.toInt = (M20.1 176 19).toInt := tl_slot (ex22.trans (congrArg (M20.1 176) (by decide)))
      exact li_iret dX12_days_76 rfl rfl ⟨⟨_, rfl, (by first | omega | (intro _; omega) | (refine ⟨?_, ?_⟩ <;> first | omega | (intro _; omega)) | (refine ⟨?_, ?_, ?_, ?_⟩ <;> first | omega | (intro _; omega)))⟩, hf, hJ⟩
    refine li_if_le 29 dX12_days_18 (by decide) (fun c6Zq => ?_) (fun c6Zq => ?_)
    · have tc6 : p1Zq.toInt ≤ 0 := tl_le c6Zq
      refine li_pick [0, 1] [(0, .ref (Z.2.2 175)), (1, .int p1Zq)] rfl ?_
      exact J29  M3Zq hf hJ (by omega)
    · have tc6 : 0 < p1Zq.toInt := tl_nle c6Zq
      refine li_aload_n 0 dX12_days_21 rfl ?_
      refine li_aload_n 0 dX12_days_22 rfl ?_
      refine li_getr (k := 0) (N := 52) (T := TX12) (C0 := RX12) dX12_days_23 (by decide) sh_175 rfl rfl (by decide) (by decide) li_in12 w_1404 ?_
      refine li_callV (n := 1) (As := [.ref (Z.2.2 176)]) dX12_days_26 (k_X12_remember_n (d - 1) (by omega)  M3Zq hJ ) (by omega) (Nat.le_of_ble_eq_true rfl) w_1745 w_1747 w_71 w_112 w_1748 (by decide +kernel) rfl (by decide) sh_175 rfl rfl (Nat.le_of_ble_eq_true rfl) (fun r M24 h25 => ?_)
      obtain ⟨rfl, h25, jM24⟩ := h25
      have hf := li_fs_trans hf h25 (fun i k => fun hZq => Or.elim hZq (fun hZq => Or.inr (Or.inr (Or.inl hZq))) (fun hZq => Or.inr (Or.inr (Or.inr (Or.inr (Or.inl hZq))))))
      have hJ := jM24
      have rM24_1 := J_sl1 (M := M24) hJ
      have rM24_9 := J_sl9 (M := M24) hJ
      have mM24_1 : (M24.1 175 1).toInt = (M3Zq.1 175 1).toInt := tl_slot (h25.1 175 1 (show ¬ (175 = 186 ∨ (175 = 175 ∧ 1 = 23)) by decide))
      have mM24_9 : (M24.1 175 9).toInt = (M3Zq.1 175 9).toInt := tl_slot (h25.1 175 9 (show ¬ (175 = 186 ∨ (175 = 175 ∧ 9 = 23)) by decide))
      have aM24_176_19 : (M24.1 176 19).toInt = (M3Zq.1 176 19).toInt := tl_slot (h25.1 176 (19) (show ¬ (176 = 186 ∨ (176 = 175 ∧ 19 = 23)) by decide))
      have aM24_176_20 : (M24.1 176 20).toInt = (M3Zq.1 176 20).toInt := tl_slot (h25.1 176 (20) (show ¬ (176 = 186 ∨ (176 = 175 ∧ 20 = 23)) by decide))
      refine li_pick [0, 1] [(0, .ref (Z.2.2 175)), (1, .int p1Zq)] rfl ?_
      exact J29  M24 hf hJ (by omega)
  · skip
    refine li_if_ne 17 dX12_days_12 (by decide) (fun c => absurd rfl c) (fun c => ?_)
    refine li_iconst (-1) dX12_days_15 (by decide) ?_
    have zm1 : ((-1) : Int32).toInt = -1 := rfl
    exact li_iret dX12_days_16 rfl rfl ⟨⟨_, rfl, (by first | omega | (intro _; omega) | (refine ⟨?_, ?_⟩ <;> first | omega | (intro _; omega)) | (refine ⟨?_, ?_, ?_, ?_⟩ <;> first | omega | (intro _; omega)))⟩, hf, hJ⟩
