set_option maxRecDepth 100000 in
set_option maxHeartbeats 4000000 in
theorem k10_X12_things {l : Launch} {Z : li_Z} (d : Nat) (hdZq : 6 ≤ d) (M0 : li_M) (hJ : li_J M0) (TY PEZq TH CAZq : Int) (hTY : TY = (M0.1 175 7).toInt) (hPEZq : PEZq = (M0.1 175 1).toInt) (hTH : TH = (M0.1 175 4).toInt) (hCA : CAZq = (M0.1 175 48).toInt) (hCB : 0 ≤ CAZq ∧ CAZq ≤ 3000) (MM : Int) (Puh_M0 : li_uh (M0.1 180) (min TY 76) (PEZq) (8 - TH) (0) (0) (MM)) : li_Met l Z YX12_things d [.ref (Z.2.2 175)] M0 (fun r M' => (∃ x : Int32, r = some (.int x) ∧ (((TY = 0 ∧ x.toInt = 0) ∨ (0 < TY ∧ TY ≤ 76 ∧ 0 < MM ∧ x.toInt = MM) ∨ (0 < TY ∧ (76 < TY ∨ MM = -1) ∧ x.toInt < 0)) ∧ ((0 < x.toInt ∧ (M'.1 175 4).toInt = TH + x.toInt ∧ (M'.1 175 48).toInt = CAZq + 1) ∨ (x.toInt ≤ 0 ∧ (M'.1 175 4).toInt = TH ∧ (M'.1 175 48).toInt = CAZq)))) ∧ li_fs (fun i k => i = 179 ∨ i = 182 ∨ i = 1000 ∨ (i = 175 ∧ k = 10) ∨ (i = 175 ∧ k = 12) ∨ (i = 175 ∧ k = 13) ∨ (i = 175 ∧ k = 14) ∨ (i = 175 ∧ k = 15) ∨ (i = 175 ∧ k = 23) ∨ (i = 175 ∧ k = 4) ∨ (i = 175 ∧ k = 48) ∨ (i = 175 ∧ k = 7)) M0 M' ∧ li_J M' ∧ (M'.1 175 7).toInt = 0) := by
  refine li_enter (by decide +kernel) (Nat.le_of_ble_eq_true rfl) ?_
  show li_T l Z YX12_things d 0 [(0, .ref (Z.2.2 175))] [] M0 _
  have hf : li_fs (fun i k => i = 179 ∨ i = 182 ∨ i = 1000 ∨ (i = 175 ∧ k = 10) ∨ (i = 175 ∧ k = 12) ∨ (i = 175 ∧ k = 13) ∨ (i = 175 ∧ k = 14) ∨ (i = 175 ∧ k = 15) ∨ (i = 175 ∧ k = 23) ∨ (i = 175 ∧ k = 4) ∨ (i = 175 ∧ k = 48) ∨ (i = 175 ∧ k = 7)) M0 M0 := li_fs_refl
  have rM0_1 := J_sl1 (M := M0) hJ
  have rM0_4 := J_sl4 (M := M0) hJ
  have rM0_7 := J_sl7 (M := M0) hJ
  have rM0_12 := J_sl12 (M := M0) hJ
  have rM0_13 := J_sl13 (M := M0) hJ
  have rM0_14 := J_sl14 (M := M0) hJ
  have rM0_15 := J_sl15 (M := M0) hJ
  refine li_aload_n 0 dX12_things_0 rfl ?_
  refine li_iconst 0 dX12_things_1 (by decide) ?_
  refine li_puti (k := 10) (N := 52) (T := TX12) (C0 := RX12) dX12_things_2 (by decide) sh_175 rfl rfl (by decide) li_in12 tyX12_ok nmX12 rfl rfl rfl rfl w_1414 ?_
  refine li_nm (fun M1Zq eM1 => ?_)
  have hf := li_fs_ui hf (Or.inr (Or.inr (Or.inr (Or.inl ⟨rfl, rfl⟩)))) eM1
  have z0 : (0 : Int32).toInt = 0 := rfl
  have hJ := hJ.put (k := 10) (by decide) (rg_free rfl) eM1
  have rM1_1 := J_sl1 (M := M1Zq) hJ
  have rM1_4 := J_sl4 (M := M1Zq) hJ
  have rM1_7 := J_sl7 (M := M1Zq) hJ
  have rM1_12 := J_sl12 (M := M1Zq) hJ
  have rM1_13 := J_sl13 (M := M1Zq) hJ
  have rM1_14 := J_sl14 (M := M1Zq) hJ
  have rM1_15 := J_sl15 (M := M1Zq) hJ
  have mM1_1 : (M1Zq.1 175 1).toInt = (M0.1 175 1).toInt := by rw [eM1, li_ui_at, if_pos rfl, if_neg (by decide)]
  have mM1_4 : (M1Zq.1 175 4).toInt = (M0.1 175 4).toInt := by rw [eM1, li_ui_at, if_pos rfl, if_neg (by decide)]
  have mM1_7 : (M1Zq.1 175 7).toInt = (M0.1 175 7).toInt := by rw [eM1, li_ui_at, if_pos rfl, if_neg (by decide)]
  have mM1_12 : (M1Zq.1 175 12).toInt = (M0.1 175 12).toInt := by rw [eM1, li_ui_at, if_pos rfl, if_neg (by decide)]
  have mM1_13 : (M1Zq.1 175 13).toInt = (M0.1 175 13).toInt := by rw [eM1, li_ui_at, if_pos rfl, if_neg (by decide)]
  have mM1_14 : (M1Zq.1 175 14).toInt = (M0.1 175 14).toInt := by rw [eM1, li_ui_at, if_pos rfl, if_neg (by decide)]
  have mM1_15 : (M1Zq.1 175 15).toInt = (M0.1 175 15).toInt := by rw [eM1, li_ui_at, if_pos rfl, if_neg (by decide)]
  have mM1_48 : (M1Zq.1 175 48).toInt = (M0.1 175 48).toInt := by rw [eM1, li_ui_at, if_pos rfl, if_neg (by decide)]
  have Puh_M1 : li_uh (M1Zq.1 180) (min TY 76) (PEZq) (8 - TH) (0) (0) (MM) := li_uh_tr (li_cell_ui eM1 (by decide)) (Int.le_antisymm (by omega) (by omega)) (Int.le_antisymm (by omega) (by omega)) (Int.le_antisymm (by omega) (by omega)) (Int.le_antisymm (by omega) (by omega)) (Int.le_antisymm (by omega) (by omega)) (Int.le_antisymm (by omega) (by omega)) Puh_M0
  refine li_aload_n 0 dX12_things_5 rfl ?_
  refine li_aload_n 0 dX12_things_6 rfl ?_
  refine li_getr (k := 6) (N := 52) (T := TX12) (C0 := RX12) dX12_things_7 (by decide) sh_175 rfl rfl (by decide) (by decide) li_in12 w_1410 ?_
  refine li_aload_n 0 dX12_things_10 rfl ?_
  refine li_geti (k := 7) (N := 52) (T := TX12) (C0 := RX12) dX12_things_11 (by decide) sh_175 rfl rfl (by decide) li_in12 w_1411 ?_
  refine li_top (fun x2Zq ex2Zq => ?_)
  have gx2 : 0 ≤ x2Zq.toInt ∧ x2Zq.toInt ≤ 80 := by rw [ex2Zq]; exact J_sl7 hJ
  have mx2 : x2Zq.toInt = (M1Zq.1 175 7).toInt := tl_slot ex2Zq
  refine li_bipush 76 dX12_things_14 (by decide) ?_
  have z76 : (76 : Int32).toInt = 76 := rfl
  refine li_callV (n := 3) (As := [.ref (Z.2.2 180), .int x2Zq, .int 76]) dX12_things_16 (k_X12_begin (d - 1) (by first | (unfold li_rq; decide) | (unfold li_rq; omega)) x2Zq 76 M1Zq hJ (show 0 ≤ (x2Zq : Int32).toInt ∧ (x2Zq : Int32).toInt ≤ (li_qn 180 : Int) by have := li_qn_fix; omega) (by omega)) (by omega) (Nat.le_of_ble_eq_true rfl) w_1577 w_1579 w_42 w_112 w_1580 (by decide +kernel) rfl (by decide) sh_175 rfl rfl (Nat.le_of_ble_eq_true rfl) (fun r M4Zq h5 => ?_)
  obtain ⟨rfl, h5, jM4, nM4⟩ := h5
  have hf := li_fs_trans hf h5 (fun i k => fun hZq => Or.elim hZq (fun hZq => Or.inr (Or.inr (Or.inr (Or.inr (Or.inl hZq))))) (fun hZq => Or.elim hZq (fun hZq => Or.inr (Or.inr (Or.inr (Or.inr (Or.inr (Or.inl hZq)))))) (fun hZq => Or.elim hZq (fun hZq => Or.inr (Or.inr (Or.inr (Or.inr (Or.inr (Or.inr (Or.inl hZq))))))) (fun hZq => Or.elim hZq (fun hZq => Or.inr (Or.inr (Or.inr (Or.inr (Or.inr (Or.inr (Or.inr (Or.inl hZq)))))))) (fun hZq => Or.inr (Or.inr (Or.inl hZq)))))))
  have hJ := jM4
  have rM4_1 := J_sl1 (M := M4Zq) hJ
  have rM4_4 := J_sl4 (M := M4Zq) hJ
  have rM4_7 := J_sl7 (M := M4Zq) hJ
  have rM4_12 := J_sl12 (M := M4Zq) hJ
  have rM4_13 := J_sl13 (M := M4Zq) hJ
  have rM4_14 := J_sl14 (M := M4Zq) hJ
  have rM4_15 := J_sl15 (M := M4Zq) hJ
  have mM4_1 : (M4Zq.1 175 1).toInt = (M1Zq.1 175 1).toInt := tl_slot (h5.1 175 1 (show ¬ ((175 = 175 ∧ 1 = 12) ∨ (175 = 175 ∧ 1 = 13) ∨ (175 = 175 ∧ 1 = 14) ∨ (175 = 175 ∧ 1 = 15) ∨ 175 = 1000) by decide))
  have mM4_4 : (M4Zq.1 175 4).toInt = (M1Zq.1 175 4).toInt := tl_slot (h5.1 175 4 (show ¬ ((175 = 175 ∧ 4 = 12) ∨ (175 = 175 ∧ 4 = 13) ∨ (175 = 175 ∧ 4 = 14) ∨ (175 = 175 ∧ 4 = 15) ∨ 175 = 1000) by decide))
  have mM4_7 : (M4Zq.1 175 7).toInt = (M1Zq.1 175 7).toInt := tl_slot (h5.1 175 7 (show ¬ ((175 = 175 ∧ 7 = 12) ∨ (175 = 175 ∧ 7 = 13) ∨ (175 = 175 ∧ 7 = 14) ∨ (175 = 175 ∧ 7 = 15) ∨ 175 = 1000) by decide))
  have mM4_48 : (M4Zq.1 175 48).toInt = (M1Zq.1 175 48).toInt := tl_slot (h5.1 175 48 (show ¬ ((175 = 175 ∧ 48 = 12) ∨ (175 = 175 ∧ 48 = 13) ∨ (175 = 175 ∧ 48 = 14) ∨ (175 = 175 ∧ 48 = 15) ∨ 175 = 1000) by decide))
  have Puh_M4 : li_uh (M4Zq.1 180) (min TY 76) (PEZq) (8 - TH) (0) (0) (MM) := li_uh_tr (funext fun i => h5.1 180 i (show ¬ ((180 = 175 ∧ i = 12) ∨ (180 = 175 ∧ i = 13) ∨ (180 = 175 ∧ i = 14) ∨ (180 = 175 ∧ i = 15) ∨ 180 = 1000) by first | (simp; done) | omega)) (Int.le_antisymm (by omega) (by omega)) (Int.le_antisymm (by omega) (by omega)) (Int.le_antisymm (by omega) (by omega)) (Int.le_antisymm (by omega) (by omega)) (Int.le_antisymm (by omega) (by omega)) (Int.le_antisymm (by omega) (by omega)) Puh_M1
  have bM4 : M4Zq.2.2 0 = some 180 := nM4.2.2.2.2
  refine li_aload_n 0 dX12_things_19 rfl ?_
  refine li_iconst 0 dX12_things_20 (by decide) ?_
  refine li_puti (k := 7) (N := 52) (T := TX12) (C0 := RX12) dX12_things_21 (by decide) sh_175 rfl rfl (by decide) li_in12 tyX12_ok nmX12 rfl rfl rfl rfl w_1411 ?_
  refine li_nm (fun M6Zq eM6 => ?_)
  have hf := li_fs_ui hf (Or.inr (Or.inr (Or.inr (Or.inr (Or.inr (Or.inr (Or.inr (Or.inr (Or.inr (Or.inr (Or.inr (⟨rfl, rfl⟩)))))))))))) eM6
  have z0 : (0 : Int32).toInt = 0 := rfl
  have hJ := J_pt7 hJ (show 0 ≤ (0 : Int32).toInt ∧ (0 : Int32).toInt ≤ 80 from ⟨(by omega), (by omega)⟩) eM6
  have rM6_1 := J_sl1 (M := M6Zq) hJ
  have rM6_4 := J_sl4 (M := M6Zq) hJ
  have rM6_7 := J_sl7 (M := M6Zq) hJ
  have rM6_12 := J_sl12 (M := M6Zq) hJ
  have rM6_13 := J_sl13 (M := M6Zq) hJ
  have rM6_14 := J_sl14 (M := M6Zq) hJ
  have rM6_15 := J_sl15 (M := M6Zq) hJ
  have mM6_1 : (M6Zq.1 175 1).toInt = (M4Zq.1 175 1).toInt := by rw [eM6, li_ui_at, if_pos rfl, if_neg (by decide)]
  have mM6_4 : (M6Zq.1 175 4).toInt = (M4Zq.1 175 4).toInt := by rw [eM6, li_ui_at, if_pos rfl, if_neg (by decide)]
  have mM6_7 : (M6Zq.1 175 7).toInt = 0 := by rw [eM6, li_ui_at, if_pos rfl, if_pos rfl]; rfl
  have mM6_12 : (M6Zq.1 175 12).toInt = (M4Zq.1 175 12).toInt := by rw [eM6, li_ui_at, if_pos rfl, if_neg (by decide)]
  have mM6_13 : (M6Zq.1 175 13).toInt = (M4Zq.1 175 13).toInt := by rw [eM6, li_ui_at, if_pos rfl, if_neg (by decide)]
  have mM6_14 : (M6Zq.1 175 14).toInt = (M4Zq.1 175 14).toInt := by rw [eM6, li_ui_at, if_pos rfl, if_neg (by decide)]
  have mM6_15 : (M6Zq.1 175 15).toInt = (M4Zq.1 175 15).toInt := by rw [eM6, li_ui_at, if_pos rfl, if_neg (by decide)]
  have mM6_48 : (M6Zq.1 175 48).toInt = (M4Zq.1 175 48).toInt := by rw [eM6, li_ui_at, if_pos rfl, if_neg (by decide)]
  have Puh_M6 : li_uh (M6Zq.1 180) (min TY 76) (PEZq) (8 - TH) (0) (0) (MM) := li_uh_tr (li_cell_ui eM6 (by decide)) (Int.le_antisymm (by omega) (by omega)) (Int.le_antisymm (by omega) (by omega)) (Int.le_antisymm (by omega) (by omega)) (Int.le_antisymm (by omega) (by omega)) (Int.le_antisymm (by omega) (by omega)) (Int.le_antisymm (by omega) (by omega)) Puh_M4
  have bM6 : M6Zq.2.2 0 = some 180 := by rw [eM6]; exact bM4
  refine li_aload_n 0 dX12_things_24 rfl ?_
  refine li_geti (k := 12) (N := 52) (T := TX12) (C0 := RX12) dX12_things_25 (by decide) sh_175 rfl rfl (by decide) li_in12 w_1416 ?_
  refine li_top (fun x7 ex7 => ?_)
  have gx7 : 0 ≤ x7.toInt ∧ x7.toInt ≤ 80 := by rw [ex7]; exact J_sl12 hJ
  have mx7 : x7.toInt = (M6Zq.1 175 12).toInt := tl_slot ex7
  refine li_if_ne 33 dX12_things_28 (by decide) (fun c8Zq => ?_) (fun c8Zq => ?_)
  · have tc8 : ¬ x7.toInt = 0 := tl_ne c8Zq
    refine li_iconst 0 dX12_things_33 (by decide) ?_
    refine li_istore_n [(1, .int 0), (0, .ref (Z.2.2 175))] dX12_things_34 (by decide) rfl ?_
    refine li_iconst 1 dX12_things_35 (by decide) ?_
    refine li_istore_n [(2, .int 1), (1, .int 0), (0, .ref (Z.2.2 175))] dX12_things_36 (by decide) rfl ?_
    have J90 : ∀ (x9 : Int32) (x10 : Int32) (M11 : li_M), li_fs (fun i k => i = 179 ∨ i = 182 ∨ i = 1000 ∨ (i = 175 ∧ k = 10) ∨ (i = 175 ∧ k = 12) ∨ (i = 175 ∧ k = 13) ∨ (i = 175 ∧ k = 14) ∨ (i = 175 ∧ k = 15) ∨ (i = 175 ∧ k = 23) ∨ (i = 175 ∧ k = 4) ∨ (i = 175 ∧ k = 48) ∨ (i = 175 ∧ k = 7)) M0 M11 → li_J M11 → 1 ≤ (x10 : Int32).toInt ∧ (M11.1 175 4).toInt + (x10 : Int32).toInt ≤ 9 ∧ (M11.1 175 4).toInt + (x10 : Int32).toInt ≤ 9 + (M11.1 175 15).toInt ∧ (¬ (M11.1 175 15).toInt = -1 → MM = -1) ∧ ((M11.1 175 15).toInt = -1 → ((min TY 76) ≤ (M11.1 175 14).toInt ∧ MM = (x10 : Int32).toInt) ∨ ((M11.1 175 14).toInt < (min TY 76) ∧ MM = -1)) ∧ (M11.1 175 14).toInt ≤ (min TY 76) ∧ (M11.1 175 12).toInt = TY ∧ (M11.1 175 13).toInt = 76 ∧ (M11.1 175 1).toInt = PEZq ∧ (M11.1 175 4).toInt = TH ∧ 1 ≤ TY ∧ (M11.1 175 48).toInt = CAZq ∧ (M11.1 175 7).toInt = 0 → li_cq (M11.1 182) ((M11.1 175 15).toInt) ((x10 : Int32).toInt) → M11.2.2 0 = some 180 → li_T l Z YX12_things d 90 [(2, .int x9), (1, .int x10), (0, .ref (Z.2.2 175))] [] M11 (fun r M' => (∃ x : Int32, r = some (.int x) ∧ (((TY = 0 ∧ x.toInt = 0) ∨ (0 < TY ∧ TY ≤ 76 ∧ 0 < MM ∧ x.toInt = MM) ∨ (0 < TY ∧ (76 < TY ∨ MM = -1) ∧ x.toInt < 0)) ∧ ((0 < x.toInt ∧ (M'.1 175 4).toInt = TH + x.toInt ∧ (M'.1 175 48).toInt = CAZq + 1) ∨ (x.toInt ≤ 0 ∧ (M'.1 175 4).toInt = TH ∧ (M'.1 175 48).toInt = CAZq)))) ∧ li_fs (fun i k => i = 179 ∨ i = 182 ∨ i = 1000 ∨ (i = 175 ∧ k = 10) ∨ (i = 175 ∧ k = 12) ∨ (i = 175 ∧ k = 13) ∨ (i = 175 ∧ k = 14) ∨ (i = 175 ∧ k = 15) ∨ (i = 175 ∧ k = 23) ∨ (i = 175 ∧ k = 4) ∨ (i = 175 ∧ k = 48) ∨ (i = 175 ∧ k = 7)) M0 M' ∧ li_J M' ∧ (M'.1 175 7).toInt = 0) := k10_X12_things_J90 d hdZq M0 TY PEZq TH CAZq hTY hPEZq hTH hCA hCB MM Puh_M0
    have L37 : ∀ (n : Nat) (x44 : Int32) (x45 : Int32) (M46 : li_M), (10 - (x45 : Int32).toInt).toNat < n → li_fs (fun i k => i = 179 ∨ i = 182 ∨ i = 1000 ∨ (i = 175 ∧ k = 10) ∨ (i = 175 ∧ k = 12) ∨ (i = 175 ∧ k = 13) ∨ (i = 175 ∧ k = 14) ∨ (i = 175 ∧ k = 15) ∨ (i = 175 ∧ k = 23) ∨ (i = 175 ∧ k = 4) ∨ (i = 175 ∧ k = 48) ∨ (i = 175 ∧ k = 7)) M0 M46 → li_J M46 → 0 ≤ (x45 : Int32).toInt ∧ (M46.1 175 4).toInt + (x45 : Int32).toInt ≤ 9 ∧ (M46.1 175 4).toInt + (x45 : Int32).toInt ≤ 9 + (M46.1 175 15).toInt ∧ ((x44 : Int32).toInt = 0 ∨ (x44 : Int32).toInt = 1) ∧ (¬ (M46.1 175 15).toInt = -1 → (x44 : Int32).toInt = 0 ∧ MM = -1) ∧ ((x45 : Int32).toInt = 0 → (x44 : Int32).toInt = 1 ∧ (M46.1 175 15).toInt = -1) ∧ ((M46.1 175 15).toInt = -1 → (x44 : Int32).toInt = 0 → ((min TY 76) ≤ (M46.1 175 14).toInt ∧ MM = (x45 : Int32).toInt) ∨ ((M46.1 175 14).toInt < (min TY 76) ∧ MM = -1)) ∧ (M46.1 175 14).toInt ≤ (min TY 76) ∧ (M46.1 175 12).toInt = TY ∧ (M46.1 175 13).toInt = 76 ∧ (M46.1 175 1).toInt = PEZq ∧ (M46.1 175 4).toInt = TH ∧ 1 ≤ TY ∧ (M46.1 175 48).toInt = CAZq ∧ (M46.1 175 7).toInt = 0 → li_cq (M46.1 182) ((M46.1 175 15).toInt) ((x45 : Int32).toInt) → li_uw (M46.1 180) (min TY 76) (PEZq) (8 - TH - (x45 : Int32).toInt) ((M46.1 175 14).toInt) ((x45 : Int32).toInt) (MM) ((M46.1 175 15).toInt) ((x44 : Int32).toInt) → M46.2.2 0 = some 180 → li_T l Z YX12_things d 37 [(2, .int x44), (1, .int x45), (0, .ref (Z.2.2 175))] [] M46 (fun r M' => (∃ x : Int32, r = some (.int x) ∧ (((TY = 0 ∧ x.toInt = 0) ∨ (0 < TY ∧ TY ≤ 76 ∧ 0 < MM ∧ x.toInt = MM) ∨ (0 < TY ∧ (76 < TY ∨ MM = -1) ∧ x.toInt < 0)) ∧ ((0 < x.toInt ∧ (M'.1 175 4).toInt = TH + x.toInt ∧ (M'.1 175 48).toInt = CAZq + 1) ∨ (x.toInt ≤ 0 ∧ (M'.1 175 4).toInt = TH ∧ (M'.1 175 48).toInt = CAZq)))) ∧ li_fs (fun i k => i = 179 ∨ i = 182 ∨ i = 1000 ∨ (i = 175 ∧ k = 10) ∨ (i = 175 ∧ k = 12) ∨ (i = 175 ∧ k = 13) ∨ (i = 175 ∧ k = 14) ∨ (i = 175 ∧ k = 15) ∨ (i = 175 ∧ k = 23) ∨ (i = 175 ∧ k = 4) ∨ (i = 175 ∧ k = 48) ∨ (i = 175 ∧ k = 7)) M0 M' ∧ li_J M' ∧ (M'.1 175 7).toInt = 0) := by
      try clear tc8
      try clear mx7
      try clear gx7
      try clear ex7
      try clear bM6
      try clear mM6_48
      try clear mM6_15
      try clear mM6_14
      try clear mM6_13
      try clear mM6_12
      try clear mM6_7
      try clear mM6_4
      try clear mM6_1
      try clear rM6_15
      try clear rM6_14
      try clear rM6_13
      try clear rM6_12
      try clear rM6_7
      try clear rM6_4
      try clear rM6_1
      try clear eM6
      try clear bM4
      try clear mM4_48
      try clear mM4_7
      try clear mM4_4
      try clear mM4_1
      try clear rM4_15
      try clear rM4_14
      try clear rM4_13
      try clear rM4_12
      try clear rM4_7
      try clear rM4_4
      try clear rM4_1
      try clear h5
      try clear jM4
      try clear nM4
      try clear mx2
      try clear gx2
      try clear ex2Zq
      try clear mM1_48
      try clear mM1_15
      try clear mM1_14
      try clear mM1_13
      try clear mM1_12
      try clear mM1_7
      try clear mM1_4
      try clear mM1_1
      try clear rM1_15
      try clear rM1_14
      try clear rM1_13
      try clear rM1_12
      try clear rM1_7
      try clear rM1_4
      try clear rM1_1
      try clear eM1
      try clear rM0_15
      try clear rM0_14
      try clear rM0_13
      try clear rM0_12
      try clear rM0_7
      try clear rM0_4
      try clear rM0_1
      intro n
      induction n with
      | zero => intro x44 x45 M46 hn; exact absurd hn (Nat.not_lt_zero _)
      | succ n ih37 =>
        intro x44 x45 M46 hn hf hJ hiZq Pcq_M46 Puw_M46 bM46
        have gx44 := tl_rg x44
        have gx45 := tl_rg x45
        have rM46_1 := J_sl1 (M := M46) hJ
        have rM46_4 := J_sl4 (M := M46) hJ
        have rM46_7 := J_sl7 (M := M46) hJ
        have rM46_12 := J_sl12 (M := M46) hJ
        have rM46_13 := J_sl13 (M := M46) hJ
        have rM46_14 := J_sl14 (M := M46) hJ
        have rM46_15 := J_sl15 (M := M46) hJ
        have mM46_1 : (M46.1 175 1).toInt = (M0.1 175 1).toInt := tl_slot (hf.1 175 1 (show ¬ (175 = 179 ∨ 175 = 182 ∨ 175 = 1000 ∨ (175 = 175 ∧ 1 = 10) ∨ (175 = 175 ∧ 1 = 12) ∨ (175 = 175 ∧ 1 = 13) ∨ (175 = 175 ∧ 1 = 14) ∨ (175 = 175 ∧ 1 = 15) ∨ (175 = 175 ∧ 1 = 23) ∨ (175 = 175 ∧ 1 = 4) ∨ (175 = 175 ∧ 1 = 48) ∨ (175 = 175 ∧ 1 = 7)) by decide))
        refine li_iload_n 0 dX12_things_37 rfl ?_
        refine li_if_eq 90 dX12_things_38 (by decide) (fun c47Zq => ?_) (fun c47Zq => ?_)
        · have tc47 : x44.toInt = 0 := tl_eq c47Zq
          refine li_pick [0, 1, 2] [(2, .int x44), (1, .int x45), (0, .ref (Z.2.2 175))] rfl ?_
          exact J90 x44 x45 M46 hf hJ ⟨(by omega), (by omega), (by omega), (fun hq0 => (Int.le_antisymm (by omega) (by omega))), (fun hq0 => (by omega)), (by omega), (Int.le_antisymm (by omega) (by omega)), (Int.le_antisymm (by omega) (by omega)), (Int.le_antisymm (by omega) (by omega)), (Int.le_antisymm (by omega) (by omega)), (by omega), (Int.le_antisymm (by omega) (by omega)), (Int.le_antisymm (by omega) (by omega))⟩ (by first | exact li_cq_tr rfl (fun h9 => by omega) (by omega) Pcq_M46 | exact li_cq_bad (by omega) | exact li_cq_0 (by omega)) bM46
        · have tc47 : ¬ x44.toInt = 0 := tl_ne c47Zq
          refine li_aload_n 2 dX12_things_41 rfl ?_
          refine li_callV (n := 0) (As := []) dX12_things_42 (k_X12_fine (d - 1) (by omega)  M46 hJ ) (by omega) (Nat.le_of_ble_eq_true rfl) w_1581 w_1583 w_43 w_112 w_1584 (by decide +kernel) rfl (by decide) sh_175 rfl rfl (Nat.le_of_ble_eq_true rfl) (fun r M49 h50 => ?_)
          obtain ⟨qx48, h50, jM49⟩ := h50
          have hf := li_fs_trans hf h50 (fun i k hZq => False.elim hZq)
          have kM49 : (li_hr M49).toInt = (li_hr M46).toInt := li_hr_fs h50 id id id id (fun _ _ _ => id) (by assumption)
          have hJ := jM49
          have rM49_1 := J_sl1 (M := M49) hJ
          have rM49_4 := J_sl4 (M := M49) hJ
          have rM49_7 := J_sl7 (M := M49) hJ
          have rM49_12 := J_sl12 (M := M49) hJ
          have rM49_13 := J_sl13 (M := M49) hJ
          have rM49_14 := J_sl14 (M := M49) hJ
          have rM49_15 := J_sl15 (M := M49) hJ
          have mM49_1 : (M49.1 175 1).toInt = (M46.1 175 1).toInt := tl_slot (h50.1 175 1 id)
          have mM49_4 : (M49.1 175 4).toInt = (M46.1 175 4).toInt := tl_slot (h50.1 175 4 id)
          have mM49_7 : (M49.1 175 7).toInt = (M46.1 175 7).toInt := tl_slot (h50.1 175 7 id)
          have mM49_12 : (M49.1 175 12).toInt = (M46.1 175 12).toInt := tl_slot (h50.1 175 12 id)
          have mM49_13 : (M49.1 175 13).toInt = (M46.1 175 13).toInt := tl_slot (h50.1 175 13 id)
          have mM49_14 : (M49.1 175 14).toInt = (M46.1 175 14).toInt := tl_slot (h50.1 175 14 id)
          have mM49_15 : (M49.1 175 15).toInt = (M46.1 175 15).toInt := tl_slot (h50.1 175 15 id)
          have mM49_48 : (M49.1 175 48).toInt = (M46.1 175 48).toInt := tl_slot (h50.1 175 48 id)
          have Puw_M49 : li_uw (M49.1 180) (min TY 76) (PEZq) (8 - TH - (x45 : Int32).toInt) ((M49.1 175 14).toInt) ((x45 : Int32).toInt) (MM) ((M49.1 175 15).toInt) ((x44 : Int32).toInt) := li_uw_tr (funext fun i => h50.1 180 i id) (Int.le_antisymm (by omega) (by omega)) (Int.le_antisymm (by omega) (by omega)) (Int.le_antisymm (by omega) (by omega)) (Int.le_antisymm (by omega) (by omega)) (Int.le_antisymm (by omega) (by omega)) (Int.le_antisymm (by omega) (by omega)) (Int.le_antisymm (by omega) (by omega)) (Int.le_antisymm (by omega) (by omega)) Puw_M46
          have Pcq_M49 : li_cq (M49.1 182) ((M49.1 175 15).toInt) ((x45 : Int32).toInt) := li_cq_tr (funext fun i => h50.1 182 i id) (fun h9 => by omega) (by omega) Pcq_M46
          have bM49 : M49.2.2 0 = some 180 := (h50.2.2 0 (fun h9 => by first | exact (h9 : False).elim | (simp at h9; done) | omega)).trans bM46
          rcases qx48 with ⟨rfl, qx48⟩ | ⟨rfl, qx48⟩
          · skip
            refine li_if_eq 90 dX12_things_45 (by decide) (fun c => absurd c (by decide)) (fun c => ?_)
            refine li_aload_n 2 dX12_things_48 rfl ?_
            refine li_geti (k := 4) (N := 52) (T := TX12) (C0 := RX12) dX12_things_49 (by decide) sh_175 rfl rfl (by decide) li_in12 w_1408 ?_
            refine li_top (fun x52 ex52 => ?_)
            have gx52 : 0 ≤ x52.toInt ∧ x52.toInt ≤ 8 := by rw [ex52]; exact J_sl4 hJ
            have mx52 : x52.toInt = (M49.1 175 4).toInt := tl_slot ex52
            refine li_iload_n 1 dX12_things_52 rfl ?_
            refine li_iadd dX12_things_53 ?_
            refine li_top (fun x53 ex53 => ?_)
            try (have tx53 : x53.toInt = (x52 : Int32).toInt + (x45 : Int32).toInt := tl_add ex53 ⟨by omega, by omega⟩)
            refine li_bipush 8 dX12_things_54 (by decide) ?_
            have J77 : ∀  (M55 : li_M), li_fs (fun i k => i = 179 ∨ i = 182 ∨ i = 1000 ∨ (i = 175 ∧ k = 10) ∨ (i = 175 ∧ k = 12) ∨ (i = 175 ∧ k = 13) ∨ (i = 175 ∧ k = 14) ∨ (i = 175 ∧ k = 15) ∨ (i = 175 ∧ k = 23) ∨ (i = 175 ∧ k = 4) ∨ (i = 175 ∧ k = 48) ∨ (i = 175 ∧ k = 7)) M0 M55 → li_J M55 → 0 ≤ (x45 : Int32).toInt ∧ (M55.1 175 4).toInt + (x45 : Int32).toInt ≤ 8 ∧ (M55.1 175 4).toInt + (x45 : Int32).toInt ≤ 8 + (M55.1 175 15).toInt ∧ (¬ (M55.1 175 15).toInt = -1 → MM = -1) ∧ ((M55.1 175 15).toInt = -1 → (li_hr M55).toInt = 59 ∨ ((min TY 76) ≤ (M55.1 175 14).toInt ∧ MM = (x45 : Int32).toInt + 1) ∨ ((M55.1 175 14).toInt < (min TY 76) ∧ MM = -1)) ∧ (M55.1 175 14).toInt ≤ (min TY 76) ∧ (M55.1 175 12).toInt = TY ∧ (M55.1 175 13).toInt = 76 ∧ (M55.1 175 1).toInt = PEZq ∧ (M55.1 175 4).toInt = TH ∧ 1 ≤ TY ∧ (M55.1 175 48).toInt = CAZq ∧ (M55.1 175 7).toInt = 0 → li_cq (M55.1 182) ((M55.1 175 15).toInt) ((x45 : Int32).toInt + 1) → li_ux (M55.1 180) (min TY 76) (PEZq) (8 - TH - (x45 : Int32).toInt - 1) ((M55.1 175 14).toInt) ((x45 : Int32).toInt + 1) (MM) ((M55.1 175 15).toInt) ((li_hr M55).toInt) → M55.2.2 0 = some 180 → li_T l Z YX12_things d 77 [(2, .int x44), (1, .int x45), (0, .ref (Z.2.2 175))] [] M55 (fun r M' => (∃ x : Int32, r = some (.int x) ∧ (((TY = 0 ∧ x.toInt = 0) ∨ (0 < TY ∧ TY ≤ 76 ∧ 0 < MM ∧ x.toInt = MM) ∨ (0 < TY ∧ (76 < TY ∨ MM = -1) ∧ x.toInt < 0)) ∧ ((0 < x.toInt ∧ (M'.1 175 4).toInt = TH + x.toInt ∧ (M'.1 175 48).toInt = CAZq + 1) ∨ (x.toInt ≤ 0 ∧ (M'.1 175 4).toInt = TH ∧ (M'.1 175 48).toInt = CAZq)))) ∧ li_fs (fun i k => i = 179 ∨ i = 182 ∨ i = 1000 ∨ (i = 175 ∧ k = 10) ∨ (i = 175 ∧ k = 12) ∨ (i = 175 ∧ k = 13) ∨ (i = 175 ∧ k = 14) ∨ (i = 175 ∧ k = 15) ∨ (i = 175 ∧ k = 23) ∨ (i = 175 ∧ k = 4) ∨ (i = 175 ∧ k = 48) ∨ (i = 175 ∧ k = 7)) M0 M' ∧ li_J M' ∧ (M'.1 175 7).toInt = 0) := by
              try clear tx53
              try clear ex53
              try clear mx52
              try clear gx52
              try clear ex52
              try clear c
              try clear bM49
              try clear mM49_48
              try clear mM49_15
              try clear mM49_14
              try clear mM49_13
              try clear mM49_12
              try clear mM49_7
              try clear mM49_4
              try clear mM49_1
              try clear rM49_15
              try clear rM49_14
              try clear rM49_13
              try clear rM49_12
              try clear rM49_7
              try clear rM49_4
              try clear rM49_1
              try clear kM49
              try clear qx48
              try clear h50
              try clear jM49
              try clear tc47
              try clear c47Zq
              try clear mM46_1
              try clear rM46_15
              try clear rM46_14
              try clear rM46_13
              try clear rM46_12
              try clear rM46_7
              try clear rM46_4
              try clear rM46_1
              try clear tc8
              try clear mx7
              try clear gx7
              try clear ex7
              try clear bM6
              try clear mM6_48
              try clear mM6_15
              try clear mM6_14
              try clear mM6_13
              try clear mM6_12
              try clear mM6_7
              try clear mM6_4
              try clear mM6_1
              try clear rM6_15
              try clear rM6_14
              try clear rM6_13
              try clear rM6_12
              try clear rM6_7
              try clear rM6_4
              try clear rM6_1
              try clear eM6
              try clear bM4
              try clear mM4_48
              try clear mM4_7
              try clear mM4_4
              try clear mM4_1
              try clear rM4_15
              try clear rM4_14
              try clear rM4_13
              try clear rM4_12
              try clear rM4_7
              try clear rM4_4
              try clear rM4_1
              try clear h5
              try clear jM4
              try clear nM4
              try clear mx2
              try clear gx2
              try clear ex2Zq
              try clear mM1_48
              try clear mM1_15
              try clear mM1_14
              try clear mM1_13
              try clear mM1_12
              try clear mM1_7
              try clear mM1_4
              try clear mM1_1
              try clear rM1_15
              try clear rM1_14
              try clear rM1_13
              try clear rM1_12
              try clear rM1_7
              try clear rM1_4
              try clear rM1_1
              try clear eM1
              try clear rM0_15
              try clear rM0_14
              try clear rM0_13
              try clear rM0_12
              try clear rM0_7
              try clear rM0_4
              try clear rM0_1
              try clear hiZq
              intro  M55 hf hJ hiZq Pcq_M55 Pux_M55 bM55
              have rM55_1 := J_sl1 (M := M55) hJ
              have rM55_4 := J_sl4 (M := M55) hJ
              have rM55_7 := J_sl7 (M := M55) hJ
              have rM55_12 := J_sl12 (M := M55) hJ
              have rM55_13 := J_sl13 (M := M55) hJ
              have rM55_14 := J_sl14 (M := M55) hJ
              have rM55_15 := J_sl15 (M := M55) hJ
              have mM55_1 : (M55.1 175 1).toInt = (M0.1 175 1).toInt := tl_slot (hf.1 175 1 (show ¬ (175 = 179 ∨ 175 = 182 ∨ 175 = 1000 ∨ (175 = 175 ∧ 1 = 10) ∨ (175 = 175 ∧ 1 = 12) ∨ (175 = 175 ∧ 1 = 13) ∨ (175 = 175 ∧ 1 = 14) ∨ (175 = 175 ∧ 1 = 15) ∨ (175 = 175 ∧ 1 = 23) ∨ (175 = 175 ∧ 1 = 4) ∨ (175 = 175 ∧ 1 = 48) ∨ (175 = 175 ∧ 1 = 7)) by decide))
              obtain ⟨x56, ex56⟩ : ∃ y : Int32, y = x45 + 1 := ⟨_, rfl⟩
              have z1 : (1 : Int32).toInt = 1 := rfl
              try (have tx56 : x56.toInt = (x45 : Int32).toInt + (1 : Int32).toInt := tl_add ex56 ⟨by omega, by omega⟩)
              refine li_iinc 1 [(1, .int x56), (2, .int x44), (0, .ref (Z.2.2 175))] x56 dX12_things_77 rfl (by rw [ex56]; rfl) (by decide) rfl ?_
              refine li_aload_n 2 dX12_things_80 rfl ?_
              refine li_bipush 59 dX12_things_81 (by decide) ?_
              have z59Zq : (59 : Int32).toInt = 59 := rfl
              refine li_callV (n := 1) (As := [.int 59]) dX12_things_83 (k_X12_passes (d - 1) (by omega) 59 M55 hJ (by omega)) (by omega) (Nat.le_of_ble_eq_true rfl) w_1605 w_1607 w_49 w_112 w_1608 (by decide +kernel) rfl (by decide) sh_175 rfl rfl (Nat.le_of_ble_eq_true rfl) (fun r M58 h59 => ?_)
              obtain ⟨qx57, h59, jM58⟩ := h59
              have hf := li_fs_trans hf h59 (fun i k => fun hZq => Or.inr (Or.inr (Or.inr (Or.inr (Or.inr (Or.inr (Or.inl hZq)))))))
              have hJ := jM58
              have rM58_1 := J_sl1 (M := M58) hJ
              have rM58_4 := J_sl4 (M := M58) hJ
              have rM58_7 := J_sl7 (M := M58) hJ
              have rM58_12 := J_sl12 (M := M58) hJ
              have rM58_13 := J_sl13 (M := M58) hJ
              have rM58_14 := J_sl14 (M := M58) hJ
              have rM58_15 := J_sl15 (M := M58) hJ
              have mM58_1 : (M58.1 175 1).toInt = (M55.1 175 1).toInt := tl_slot (h59.1 175 1 (show ¬ ((175 = 175 ∧ 1 = 14)) by decide))
              have mM58_4 : (M58.1 175 4).toInt = (M55.1 175 4).toInt := tl_slot (h59.1 175 4 (show ¬ ((175 = 175 ∧ 4 = 14)) by decide))
              have mM58_7 : (M58.1 175 7).toInt = (M55.1 175 7).toInt := tl_slot (h59.1 175 7 (show ¬ ((175 = 175 ∧ 7 = 14)) by decide))
              have mM58_12 : (M58.1 175 12).toInt = (M55.1 175 12).toInt := tl_slot (h59.1 175 12 (show ¬ ((175 = 175 ∧ 12 = 14)) by decide))
              have mM58_13 : (M58.1 175 13).toInt = (M55.1 175 13).toInt := tl_slot (h59.1 175 13 (show ¬ ((175 = 175 ∧ 13 = 14)) by decide))
              have mM58_15 : (M58.1 175 15).toInt = (M55.1 175 15).toInt := tl_slot (h59.1 175 15 (show ¬ ((175 = 175 ∧ 15 = 14)) by decide))
              have mM58_48 : (M58.1 175 48).toInt = (M55.1 175 48).toInt := tl_slot (h59.1 175 48 (show ¬ ((175 = 175 ∧ 48 = 14)) by decide))
              have Pcq_M58 : li_cq (M58.1 182) ((M58.1 175 15).toInt) ((x45 : Int32).toInt + 1) := li_cq_tr (funext fun i => h59.1 182 i (show ¬ ((182 = 175 ∧ i = 14)) by first | (simp; done) | omega)) (fun h9 => by omega) (by omega) Pcq_M55
              have bM58 : M58.2.2 0 = some 180 := (h59.2.2 0 (fun h9 => by first | exact (h9 : False).elim | (simp at h9; done) | omega)).trans bM55
              have ux1 : li_ux (M58.1 180) (min TY 76) (PEZq) (8 - TH - (x45 : Int32).toInt - 1) ((M55.1 175 14).toInt) ((x45 : Int32).toInt + 1) (MM) ((M55.1 175 15).toInt) ((li_hr M55).toInt) := by rw [show M58.1 180 = M55.1 180 from (funext fun i => h59.1 180 i (show ¬ ((180 = 175 ∧ i = 14)) by first | (simp; done) | omega))]; exact Pux_M55
              rcases qx57 with ⟨rfl, qx57⟩ | ⟨rfl, qx57⟩
              · skip
                refine li_istore_n [(2, .int 1), (1, .int x56), (0, .ref (Z.2.2 175))] dX12_things_86 (by decide) rfl ?_
                refine li_goto 37 dX12_things_87 (by decide) ?_
                refine li_pick [0, 1, 2] [(2, .int 1), (1, .int x56), (0, .ref (Z.2.2 175))] rfl ?_
                have z1 : (1 : Int32).toInt = 1 := rfl
                exact ih37 1 x56 M58 (by omega) hf hJ ⟨(by omega), (by omega), (by omega), (by omega), (fun hq0 => ⟨(Int.le_antisymm (by omega) (by omega)), (Int.le_antisymm (by omega) (by omega))⟩), (fun hq0 => ⟨(Int.le_antisymm (by omega) (by omega)), (Int.le_antisymm (by omega) (by omega))⟩), (fun hq0 hq1 => (by omega)), (by omega), (Int.le_antisymm (by omega) (by omega)), (Int.le_antisymm (by omega) (by omega)), (Int.le_antisymm (by omega) (by omega)), (Int.le_antisymm (by omega) (by omega)), (by omega), (Int.le_antisymm (by omega) (by omega)), (Int.le_antisymm (by omega) (by omega))⟩ (by first | exact li_cq_tr rfl (fun h9 => by omega) (by omega) Pcq_M58 | exact li_cq_bad (by omega) | exact li_cq_0 (by omega)) (by first | exact li_uw_ux ux1 rfl (Int.le_antisymm (by omega) (by omega)) (Int.le_antisymm (by omega) (by omega)) (Int.le_antisymm (by omega) (by omega)) (Int.le_antisymm (by omega) (by omega)) (fun h8 h7 => ⟨Int.le_antisymm (by omega) (by omega), Int.le_antisymm (by omega) (by omega), Int.le_antisymm (by omega) (by omega)⟩) | exact li_uw_0 Puh_M58 rfl (Int.le_antisymm (by omega) (by omega)) (Int.le_antisymm (by omega) (by omega)) (Int.le_antisymm (by omega) (by omega)) (Int.le_antisymm (by omega) (by omega)) (Int.le_antisymm (by omega) (by omega))) bM58
              · skip
                refine li_istore_n [(2, .int 0), (1, .int x56), (0, .ref (Z.2.2 175))] dX12_things_86 (by decide) rfl ?_
                refine li_goto 37 dX12_things_87 (by decide) ?_
                refine li_pick [0, 1, 2] [(2, .int 0), (1, .int x56), (0, .ref (Z.2.2 175))] rfl ?_
                have z0 : (0 : Int32).toInt = 0 := rfl
                exact ih37 0 x56 M58 (by omega) hf hJ ⟨(by omega), (by omega), (by omega), (by omega), (fun hq0 => ⟨(Int.le_antisymm (by omega) (by omega)), (Int.le_antisymm (by omega) (by omega))⟩), (fun hq0 => ⟨(Int.le_antisymm (by omega) (by omega)), (Int.le_antisymm (by omega) (by omega))⟩), (fun hq0 hq1 => (by omega)), (by omega), (Int.le_antisymm (by omega) (by omega)), (Int.le_antisymm (by omega) (by omega)), (Int.le_antisymm (by omega) (by omega)), (Int.le_antisymm (by omega) (by omega)), (by omega), (Int.le_antisymm (by omega) (by omega)), (Int.le_antisymm (by omega) (by omega))⟩ (by first | exact li_cq_tr rfl (fun h9 => by omega) (by omega) Pcq_M58 | exact li_cq_bad (by omega) | exact li_cq_0 (by omega)) (by first | exact li_uw_ux ux1 rfl (Int.le_antisymm (by omega) (by omega)) (Int.le_antisymm (by omega) (by omega)) (Int.le_antisymm (by omega) (by omega)) (Int.le_antisymm (by omega) (by omega)) (fun h8 h7 => ⟨Int.le_antisymm (by omega) (by omega), Int.le_antisymm (by omega) (by omega), Int.le_antisymm (by omega) (by omega)⟩) | exact li_uw_0 Puh_M58 rfl (Int.le_antisymm (by omega) (by omega)) (Int.le_antisymm (by omega) (by omega)) (Int.le_antisymm (by omega) (by omega)) (Int.le_antisymm (by omega) (by omega)) (Int.le_antisymm (by omega) (by omega))) bM58
            refine li_icmp_ne 70 dX12_things_56 (by decide) (fun c54 => ?_) (fun c54 => ?_)
            · have tc54 : ¬ x53.toInt = 8 := tl_ne c54
              refine li_aload_n 2 dX12_things_70 rfl ?_
              refine li_iconst 5 dX12_things_71 (by decide) ?_
              refine li_iload_n 1 dX12_things_72 rfl ?_
              refine li_imul dX12_things_73 ?_
              refine li_top (fun x60 ex60 => ?_)
              have z5 : (5 : Int32).toInt = 5 := rfl
              try (have tx60 : x60.toInt = 5 * (x45 : Int32).toInt := tl_mul ex60 (show -2147483648 ≤ 5 * (x45 : Int32).toInt ∧ 5 * (x45 : Int32).toInt ≤ 2147483647 from ⟨(by omega), (by omega)⟩))
              have hf74 := hf
              have tl0 := Puw_M49 (by omega) (by omega)
              obtain ⟨R1, Q1Zq, nq1⟩ : ∃ r q, li_mq (M49.1 180) (min TY 76) (2) (-1) ((M49.1 175 14).toInt + 2) r q := li_nq_self
              obtain ⟨R2, Q2Zq, nq2⟩ : ∃ r q, li_mq (M49.1 180) (min TY 76) (2) (-1) (Q1Zq + 1) r q := li_nq_self
              obtain ⟨R3, Q3, nq3⟩ : ∃ r q, li_mq (M49.1 180) (min TY 76) (2) (-1) (Q2Zq + 1) r q := li_nq_self
              have stq := li_tl_r tl0 (by omega) nq1 nq2 nq3
              have em7n : min (M49.1 175 12).toInt (M49.1 175 13).toInt = min TY 76 := by rw [show (M49.1 175 12).toInt = TY from Int.le_antisymm (by omega) (by omega), show (M49.1 175 13).toInt = 76 from Int.le_antisymm (by omega) (by omega)]
              refine li_callV (n := 1) (As := [.int x60]) dX12_things_74 (k10_X12_readThing (d - 1) (by omega) x60 M49 hJ ⟨by omega, by omega⟩ bM49 (Int.le_antisymm (by omega) (by omega)) PEZq (min TY 76) (Int.le_antisymm (by omega) (by omega)) em7n (by omega) R1 Q1Zq R2 Q2Zq R3 Q3 nq1 nq2 nq3) (by omega) (Nat.le_of_ble_eq_true rfl) w_1613 w_1615 w_50 w_112 w_1616 (by decide +kernel) rfl (by decide) sh_175 rfl rfl (Nat.le_of_ble_eq_true rfl) (fun r M62 h63 => ?_)
              obtain ⟨rfl, h63, jM62, nM62⟩ := h63
              have hf := li_fs_trans hf h63 (fun i k => fun hZq => Or.elim hZq (fun hZq => Or.inr (Or.inl hZq.1)) (fun hZq => Or.elim hZq (fun hZq => Or.inr (Or.inr (Or.inr (Or.inr (Or.inr (Or.inr (Or.inl hZq))))))) (fun hZq => Or.inr (Or.inr (Or.inr (Or.inr (Or.inr (Or.inr (Or.inr (Or.inl hZq))))))))))
              have hJ := jM62
              have rM62_1 := J_sl1 (M := M62) hJ
              have rM62_4 := J_sl4 (M := M62) hJ
              have rM62_7 := J_sl7 (M := M62) hJ
              have rM62_12 := J_sl12 (M := M62) hJ
              have rM62_13 := J_sl13 (M := M62) hJ
              have rM62_14 := J_sl14 (M := M62) hJ
              have rM62_15 := J_sl15 (M := M62) hJ
              have mM62_1 : (M62.1 175 1).toInt = (M49.1 175 1).toInt := tl_slot (h63.1 175 1 (show ¬ ((175 = 182 ∧ (x60 : Int32).toInt ≤ ((1 : Nat) : Int) ∧ ((1 : Nat) : Int) < (x60 : Int32).toInt + 5) ∨ (175 = 175 ∧ 1 = 14) ∨ (175 = 175 ∧ 1 = 15)) by first | (simp; done) | omega))
              have mM62_4 : (M62.1 175 4).toInt = (M49.1 175 4).toInt := tl_slot (h63.1 175 4 (show ¬ ((175 = 182 ∧ (x60 : Int32).toInt ≤ ((4 : Nat) : Int) ∧ ((4 : Nat) : Int) < (x60 : Int32).toInt + 5) ∨ (175 = 175 ∧ 4 = 14) ∨ (175 = 175 ∧ 4 = 15)) by first | (simp; done) | omega))
              have mM62_7 : (M62.1 175 7).toInt = (M49.1 175 7).toInt := tl_slot (h63.1 175 7 (show ¬ ((175 = 182 ∧ (x60 : Int32).toInt ≤ ((7 : Nat) : Int) ∧ ((7 : Nat) : Int) < (x60 : Int32).toInt + 5) ∨ (175 = 175 ∧ 7 = 14) ∨ (175 = 175 ∧ 7 = 15)) by first | (simp; done) | omega))
              have mM62_12 : (M62.1 175 12).toInt = (M49.1 175 12).toInt := tl_slot (h63.1 175 12 (show ¬ ((175 = 182 ∧ (x60 : Int32).toInt ≤ ((12 : Nat) : Int) ∧ ((12 : Nat) : Int) < (x60 : Int32).toInt + 5) ∨ (175 = 175 ∧ 12 = 14) ∨ (175 = 175 ∧ 12 = 15)) by first | (simp; done) | omega))
              have mM62_13 : (M62.1 175 13).toInt = (M49.1 175 13).toInt := tl_slot (h63.1 175 13 (show ¬ ((175 = 182 ∧ (x60 : Int32).toInt ≤ ((13 : Nat) : Int) ∧ ((13 : Nat) : Int) < (x60 : Int32).toInt + 5) ∨ (175 = 175 ∧ 13 = 14) ∨ (175 = 175 ∧ 13 = 15)) by first | (simp; done) | omega))
              have mM62_48 : (M62.1 175 48).toInt = (M49.1 175 48).toInt := tl_slot (h63.1 175 48 (show ¬ ((175 = 182 ∧ (x60 : Int32).toInt ≤ ((48 : Nat) : Int) ∧ ((48 : Nat) : Int) < (x60 : Int32).toInt + 5) ∨ (175 = 175 ∧ 48 = 14) ∨ (175 = 175 ∧ 48 = 15)) by first | (simp; done) | omega))
              have bM62 : M62.2.2 0 = some 180 := (h63.2.2 0 (fun h9 => by first | exact (h9 : False).elim | (simp at h9; done) | omega)).trans bM49
              have Pcq_M62 : li_cq (M62.1 182) ((M62.1 175 15).toInt) ((x45 : Int32).toInt + 1) := li_cq_step h63 (fun i (h9 : (182 = 182 ∧ (x60 : Int32).toInt ≤ ((i : Nat) : Int) ∧ ((i : Nat) : Int) < (x60 : Int32).toInt + 5) ∨ (182 = 175 ∧ i = 14) ∨ (182 = 175 ∧ i = 15)) => by omega) (by omega) (by omega) ⟨nM62.2.1, nM62.2.2.1, nM62.2.2.2.1, nM62.2.2.2.2.1⟩ (fun h9 => by omega) Pcq_M49
              have em74 : min (M62.1 175 12).toInt (M62.1 175 13).toInt = min TY 76 := by rw [show (M62.1 175 12).toInt = TY from Int.le_antisymm (by omega) (by omega), show (M62.1 175 13).toInt = 76 from Int.le_antisymm (by omega) (by omega)]
              have ch4 : (M62.1 175 14).toInt = Q3 → (li_hr M62).toInt = rd_ch (li_by (M49.1 180)) (min TY 76) Q3 := fun h9 => hr_pt bM62 (by omega) (fs_180 hf74 hf (fun i => (show ¬ (180 = 179 ∨ 180 = 182 ∨ 180 = 1000 ∨ (180 = 175 ∧ i = 10) ∨ (180 = 175 ∧ i = 12) ∨ (180 = 175 ∧ i = 13) ∨ (180 = 175 ∧ i = 14) ∨ (180 = 175 ∧ i = 15) ∨ (180 = 175 ∧ i = 23) ∨ (180 = 175 ∧ i = 4) ∨ (180 = 175 ∧ i = 48) ∨ (180 = 175 ∧ i = 7)) by first | (simp; done) | omega))) em74 h9
              have go74 : (M62.1 175 15).toInt = -1 → Q3 < min TY 76 → rd_ch (li_by (M49.1 180)) (min TY 76) Q3 = 59 → li_tl (li_by (M49.1 180)) (min TY 76) PEZq (8 - TH - (x45 : Int32).toInt - 1) (Q3 + 1) ((x45 : Int32).toInt + 1) MM := fun h9 h8 h7 => li_tl_tr rfl rfl rfl (Int.le_antisymm (by omega) (by omega)) rfl rfl rfl (li_tl_go tl0 (by omega) nq1 nq2 nq3 ⟨(by rcases nM62.2.2.2.2.2.1 with c | c; exact c.2.1; exact absurd h9 c.1), h8, h7⟩)
              have s74 : (¬ (M62.1 175 15).toInt = -1 ∧ MM = -1) ∨ ((M62.1 175 15).toInt = -1 ∧ (M62.1 175 14).toInt = Q3 ∧ ((min TY 76 ≤ Q3 ∧ rd_ch (li_by (M49.1 180)) (min TY 76) Q3 = -1 ∧ MM = (x45 : Int32).toInt + 1) ∨ (Q3 < min TY 76 ∧ ¬ rd_ch (li_by (M49.1 180)) (min TY 76) Q3 = 59 ∧ MM = -1) ∨ (Q3 < min TY 76 ∧ rd_ch (li_by (M49.1 180)) (min TY 76) Q3 = 59))) := by
                rcases nM62.2.2.2.2.2.1 with ⟨c0, c1, c2⟩ | ⟨c0, c1⟩
                · rcases stq with t | t | t | t
                  · exact absurd c1 t.1
                  · exact Or.inr ⟨c0, c2, Or.inl ⟨t.2.1, t.2.2.1, t.2.2.2⟩⟩
                  · exact Or.inr ⟨c0, c2, Or.inr (Or.inl ⟨t.2.1, t.2.2.1, t.2.2.2⟩)⟩
                  · exact Or.inr ⟨c0, c2, Or.inr (Or.inr ⟨t.2.1, t.2.2⟩)⟩
                · rcases stq with t | t | t | t
                  · exact Or.inl ⟨c0, t.2⟩
                  · exact absurd t.1 c1
                  · exact absurd t.1 c1
                  · exact absurd t.1 c1
              have a74 : (M49.1 175 14).toInt ≤ (M62.1 175 14).toInt ∧ (M62.1 175 14).toInt ≤ min TY 76 ∧ -1 ≤ (M62.1 175 15).toInt := ⟨by omega, nM62.2.2.2.2.2.2.2, by omega⟩
              have q74 : (M62.1 175 15).toInt = -1 → (M62.1 175 14).toInt = Q3 := fun h9 => by rcases s74 with c | c; exact absurd h9 c.1; exact c.2.1
              have r74 : (M62.1 175 15).toInt = -1 → rd_ch (li_by (M49.1 180)) (min TY 76) Q3 = 59 → Q3 < min TY 76 := fun h9 h8 => by
                rcases s74 with c | ⟨_, _, t⟩
                · exact absurd h9 c.1
                · rcases t with t | t | t
                  · exact absurd (t.2.1.symm.trans h8) (by decide)
                  · exact absurd h8 t.2.1
                  · exact t.1
              clear nM62 stq
              have Pux_M62 : li_ux (M62.1 180) (min TY 76) (PEZq) (8 - TH - (x45 : Int32).toInt - 1) ((M62.1 175 14).toInt) ((x45 : Int32).toInt + 1) (MM) ((M62.1 175 15).toInt) ((li_hr M62).toInt) := fun h8 h7 => li_tl_tr (congrArg li_by (fs_180 hf74 hf (fun i => (show ¬ (180 = 179 ∨ 180 = 182 ∨ 180 = 1000 ∨ (180 = 175 ∧ i = 10) ∨ (180 = 175 ∧ i = 12) ∨ (180 = 175 ∧ i = 13) ∨ (180 = 175 ∧ i = 14) ∨ (180 = 175 ∧ i = 15) ∨ (180 = 175 ∧ i = 23) ∨ (180 = 175 ∧ i = 4) ∨ (180 = 175 ∧ i = 48) ∨ (180 = 175 ∧ i = 7)) by first | (simp; done) | omega)))) rfl rfl rfl (by rw [q74 h8]) rfl rfl (go74 h8 (r74 h8 ((ch4 (q74 h8)).symm.trans h7)) ((ch4 (q74 h8)).symm.trans h7))
              refine li_pick [0, 1, 2] [(2, .int x44), (1, .int x45), (0, .ref (Z.2.2 175))] rfl ?_
              exact J77  M62 hf hJ ⟨(by omega), (by omega), (by omega), (fun hq0 => (Int.le_antisymm (by omega) (by omega))), (fun hq0 => (by omega)), (by omega), (Int.le_antisymm (by omega) (by omega)), (Int.le_antisymm (by omega) (by omega)), (Int.le_antisymm (by omega) (by omega)), (Int.le_antisymm (by omega) (by omega)), (by omega), (Int.le_antisymm (by omega) (by omega)), (Int.le_antisymm (by omega) (by omega))⟩ (by first | exact li_cq_tr rfl (fun h9 => by omega) (by omega) Pcq_M62 | exact li_cq_bad (by omega) | exact li_cq_0 (by omega)) (by first | exact li_ux_tr rfl (Int.le_antisymm (by omega) (by omega)) (Int.le_antisymm (by omega) (by omega)) (Int.le_antisymm (by omega) (by omega)) (Int.le_antisymm (by omega) (by omega)) (Int.le_antisymm (by omega) (by omega)) (Int.le_antisymm (by omega) (by omega)) (Int.le_antisymm (by omega) (by omega)) (Int.le_antisymm (by omega) (by omega)) Pux_M62 | exact li_ux_no (by omega)) bM62
            · have tc54 : x53.toInt = 8 := tl_eq c54
              refine li_aload_n 2 dX12_things_59 rfl ?_
              refine li_aload_n 2 dX12_things_60 rfl ?_
              refine li_geti (k := 14) (N := 52) (T := TX12) (C0 := RX12) dX12_things_61 (by decide) sh_175 rfl rfl (by decide) li_in12 w_1418 ?_
              refine li_top (fun x64 ex64 => ?_)
              have gx64 : 0 ≤ x64.toInt ∧ x64.toInt ≤ 81 := by rw [ex64]; exact J_sl14 hJ
              have mx64 : x64.toInt = (M49.1 175 14).toInt := tl_slot ex64
              refine li_callV (n := 1) (As := [.int x64]) dX12_things_64 (k_X12_fault (d - 1) (by omega) x64 M49 hJ ⟨by omega, by omega⟩) (by omega) (Nat.le_of_ble_eq_true rfl) w_1585 w_1587 w_44 w_112 w_1588 (by decide +kernel) rfl (by decide) sh_175 rfl rfl (Nat.le_of_ble_eq_true rfl) (fun r M66 h67 => ?_)
              obtain ⟨rfl, h67, jM66, nM66⟩ := h67
              have hf := li_fs_trans hf h67 (fun i k => fun hZq => Or.inr (Or.inr (Or.inr (Or.inr (Or.inr (Or.inr (Or.inr (Or.inl hZq))))))))
              have kM66 : (li_hr M66).toInt = (li_hr M49).toInt := li_hr_fs h67 (show ¬ ((175 = 175 ∧ 12 = 15)) by decide) (show ¬ ((175 = 175 ∧ 13 = 15)) by decide) (show ¬ ((175 = 175 ∧ 14 = 15)) by decide) (show ¬ ((1000 = 175 ∧ 0 = 15)) by decide) (fun q i hZq => (show ¬ ((q = 175 ∧ i = 15)) by first | (unfold li_rq at hZq; rcases hZq with rfl | rfl | rfl <;> simp; done) | (unfold li_rq at hZq; omega))) (by assumption)
              have hJ := jM66
              have rM66_1 := J_sl1 (M := M66) hJ
              have rM66_4 := J_sl4 (M := M66) hJ
              have rM66_7 := J_sl7 (M := M66) hJ
              have rM66_12 := J_sl12 (M := M66) hJ
              have rM66_13 := J_sl13 (M := M66) hJ
              have rM66_14 := J_sl14 (M := M66) hJ
              have rM66_15 := J_sl15 (M := M66) hJ
              have mM66_1 : (M66.1 175 1).toInt = (M49.1 175 1).toInt := tl_slot (h67.1 175 1 (show ¬ ((175 = 175 ∧ 1 = 15)) by decide))
              have mM66_4 : (M66.1 175 4).toInt = (M49.1 175 4).toInt := tl_slot (h67.1 175 4 (show ¬ ((175 = 175 ∧ 4 = 15)) by decide))
              have mM66_7 : (M66.1 175 7).toInt = (M49.1 175 7).toInt := tl_slot (h67.1 175 7 (show ¬ ((175 = 175 ∧ 7 = 15)) by decide))
              have mM66_12 : (M66.1 175 12).toInt = (M49.1 175 12).toInt := tl_slot (h67.1 175 12 (show ¬ ((175 = 175 ∧ 12 = 15)) by decide))
              have mM66_13 : (M66.1 175 13).toInt = (M49.1 175 13).toInt := tl_slot (h67.1 175 13 (show ¬ ((175 = 175 ∧ 13 = 15)) by decide))
              have mM66_14 : (M66.1 175 14).toInt = (M49.1 175 14).toInt := tl_slot (h67.1 175 14 (show ¬ ((175 = 175 ∧ 14 = 15)) by decide))
              have mM66_48 : (M66.1 175 48).toInt = (M49.1 175 48).toInt := tl_slot (h67.1 175 48 (show ¬ ((175 = 175 ∧ 48 = 15)) by decide))
              have Pcq_M66 : li_cq (M66.1 182) ((M66.1 175 15).toInt) ((x45 : Int32).toInt) := li_cq_tr (funext fun i => h67.1 182 i (show ¬ ((182 = 175 ∧ i = 15)) by first | (simp; done) | omega)) (fun h9 => by omega) (by omega) Pcq_M49
              have bM66 : M66.2.2 0 = some 180 := (h67.2.2 0 (fun h9 => by first | exact (h9 : False).elim | (simp at h9; done) | omega)).trans bM49
              have uz := li_tl_z (Puw_M49 (by omega) (by omega)) (by omega)
              refine li_goto 77 dX12_things_67 (by decide) ?_
              refine li_pick [0, 1, 2] [(2, .int x44), (1, .int x45), (0, .ref (Z.2.2 175))] rfl ?_
              exact J77  M66 hf hJ ⟨(by omega), (by omega), (by omega), (fun hq0 => (Int.le_antisymm (by omega) (by omega))), (fun hq0 => (by omega)), (by omega), (Int.le_antisymm (by omega) (by omega)), (Int.le_antisymm (by omega) (by omega)), (Int.le_antisymm (by omega) (by omega)), (Int.le_antisymm (by omega) (by omega)), (by omega), (Int.le_antisymm (by omega) (by omega)), (Int.le_antisymm (by omega) (by omega))⟩ (by first | exact li_cq_tr rfl (fun h9 => by omega) (by omega) Pcq_M66 | exact li_cq_bad (by omega) | exact li_cq_0 (by omega)) (by first | exact li_ux_no (by omega)) bM66
          · skip
            refine li_if_eq 90 dX12_things_45 (by decide) (fun c => ?_) (fun c => absurd rfl c)
            refine li_pick [0, 1, 2] [(2, .int x44), (1, .int x45), (0, .ref (Z.2.2 175))] rfl ?_
            exact J90 x44 x45 M49 hf hJ ⟨(by omega), (by omega), (by omega), (fun hq0 => (Int.le_antisymm (by omega) (by omega))), (fun hq0 => (by omega)), (by omega), (Int.le_antisymm (by omega) (by omega)), (Int.le_antisymm (by omega) (by omega)), (Int.le_antisymm (by omega) (by omega)), (Int.le_antisymm (by omega) (by omega)), (by omega), (Int.le_antisymm (by omega) (by omega)), (Int.le_antisymm (by omega) (by omega))⟩ (by first | exact li_cq_tr rfl (fun h9 => by omega) (by omega) Pcq_M49 | exact li_cq_bad (by omega) | exact li_cq_0 (by omega)) bM49
    have z1 : (1 : Int32).toInt = 1 := rfl
    have z0 : (0 : Int32).toInt = 0 := rfl
    exact L37 _ 1 0 M6Zq (Nat.lt_succ_self _) hf hJ ⟨(by omega), (by omega), (by omega), (by omega), (fun hq0 => ⟨(Int.le_antisymm (by omega) (by omega)), (Int.le_antisymm (by omega) (by omega))⟩), (fun hq0 => ⟨(Int.le_antisymm (by omega) (by omega)), (Int.le_antisymm (by omega) (by omega))⟩), (fun hq0 hq1 => (by omega)), (by omega), (Int.le_antisymm (by omega) (by omega)), (Int.le_antisymm (by omega) (by omega)), (Int.le_antisymm (by omega) (by omega)), (Int.le_antisymm (by omega) (by omega)), (by omega), (Int.le_antisymm (by omega) (by omega)), (Int.le_antisymm (by omega) (by omega))⟩ (by first | exact li_cq_bad (by omega) | exact li_cq_0 (by omega)) (by first | exact li_uw_ux ux1 rfl (Int.le_antisymm (by omega) (by omega)) (Int.le_antisymm (by omega) (by omega)) (Int.le_antisymm (by omega) (by omega)) (Int.le_antisymm (by omega) (by omega)) (fun h8 h7 => ⟨Int.le_antisymm (by omega) (by omega), Int.le_antisymm (by omega) (by omega), Int.le_antisymm (by omega) (by omega)⟩) | exact li_uw_0 Puh_M6 rfl (Int.le_antisymm (by omega) (by omega)) (Int.le_antisymm (by omega) (by omega)) (Int.le_antisymm (by omega) (by omega)) (Int.le_antisymm (by omega) (by omega)) (Int.le_antisymm (by omega) (by omega))) bM6
  · have tc8 : x7.toInt = 0 := tl_eq c8Zq
    refine li_iconst 0 dX12_things_31 (by decide) ?_
    have z0 : (0 : Int32).toInt = 0 := rfl
    exact li_iret dX12_things_32 rfl rfl ⟨⟨_, rfl, (by refine ⟨?_, ?_⟩ <;> omega)⟩, hf, hJ, (by omega)⟩
