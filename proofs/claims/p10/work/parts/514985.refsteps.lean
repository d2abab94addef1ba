set_option maxRecDepth 100000 in
set_option maxHeartbeats 4000000 in
theorem k8_X12_people {l : Launch} {Z : li_Z} (d : Nat) (hdZq : 5 ≤ d) (M0 : li_M) (hJ : li_J M0) (TY PEZq : Int) (hTY : TY = (M0.1 175 7).toInt) (hPEZq : PEZq = (M0.1 175 1).toInt) (OK QQ MM : Int) (Ppl_M0 : li_pl (M0.1 180) (min TY 76) (6 - PEZq) (0) (0) (OK) (QQ) (MM)) (g7 : Nat → Int32) (hg7 : M0.1 177 = g7) (hBZq : Nat → Int32) (hhB : li_by (M0.1 180) = hBZq) : li_Met l Z YX12_people d [.ref (Z.2.2 175)] M0 (fun r M' => (∃ x : Int32, r = some (.int x) ∧ ((((TY = 0 ∧ x.toInt = 0) ∨ (0 < TY ∧ OK = 1 ∧ TY ≤ 76 ∧ x.toInt = MM) ∨ (0 < TY ∧ OK = 1 ∧ 76 < TY ∧ x.toInt = -77) ∨ (0 < TY ∧ OK = 0 ∧ x.toInt = -1 - QQ ∧ 0 ≤ QQ)) ∧ ((0 < x.toInt ∧ (M'.1 175 1).toInt = PEZq + x.toInt) ∨ (x.toInt ≤ 0 ∧ (M'.1 175 1).toInt = PEZq))) ∧ li_ss (M'.1 177) g7 hBZq (min TY 76) PEZq (x.toInt))) ∧ li_fs (fun i k => i = 176 ∨ i = 177 ∨ i = 178 ∨ i = 182 ∨ i = 1000 ∨ (i = 175 ∧ k = 1) ∨ (i = 175 ∧ k = 10) ∨ (i = 175 ∧ k = 12) ∨ (i = 175 ∧ k = 13) ∨ (i = 175 ∧ k = 14) ∨ (i = 175 ∧ k = 15) ∨ (i = 175 ∧ k = 23) ∨ (i = 175 ∧ k = 48) ∨ (i = 175 ∧ k = 7)) M0 M' ∧ li_J M' ∧ (M'.1 175 7).toInt = 0) := by
  refine li_enter (by decide +kernel) (Nat.le_of_ble_eq_true rfl) ?_
  show li_T l Z YX12_people d 0 [(0, .ref (Z.2.2 175))] [] M0 _
  have hf : li_fs (fun i k => i = 176 ∨ i = 177 ∨ i = 178 ∨ i = 182 ∨ i = 1000 ∨ (i = 175 ∧ k = 1) ∨ (i = 175 ∧ k = 10) ∨ (i = 175 ∧ k = 12) ∨ (i = 175 ∧ k = 13) ∨ (i = 175 ∧ k = 14) ∨ (i = 175 ∧ k = 15) ∨ (i = 175 ∧ k = 23) ∨ (i = 175 ∧ k = 48) ∨ (i = 175 ∧ k = 7)) M0 M0 := li_fs_refl
  have rM0_1 := J_sl1 (M := M0) hJ
  have rM0_7 := J_sl7 (M := M0) hJ
  have rM0_12 := J_sl12 (M := M0) hJ
  have rM0_13 := J_sl13 (M := M0) hJ
  have rM0_14 := J_sl14 (M := M0) hJ
  have rM0_15 := J_sl15 (M := M0) hJ
  have Pce_M0 : li_ce (M0.1 177) (g7) := hg7
  refine li_aload_n 0 dX12_people_0 rfl ?_
  refine li_iconst 0 dX12_people_1 (by decide) ?_
  refine li_puti (k := 10) (N := 52) (T := TX12) (C0 := RX12) dX12_people_2 (by decide) sh_175 rfl rfl (by decide) li_in12 tyX12_ok nmX12 rfl rfl rfl rfl w_1414 ?_
  refine li_nm (fun M1Zq eM1 => ?_)
  have hf := li_fs_ui hf (Or.inr (Or.inr (Or.inr (Or.inr (Or.inr (Or.inr (Or.inl ⟨rfl, rfl⟩))))))) eM1
  have z0 : (0 : Int32).toInt = 0 := rfl
  have hJ := hJ.put (k := 10) (by decide) (rg_free rfl) eM1
  have rM1_1 := J_sl1 (M := M1Zq) hJ
  have rM1_7 := J_sl7 (M := M1Zq) hJ
  have rM1_12 := J_sl12 (M := M1Zq) hJ
  have rM1_13 := J_sl13 (M := M1Zq) hJ
  have rM1_14 := J_sl14 (M := M1Zq) hJ
  have rM1_15 := J_sl15 (M := M1Zq) hJ
  have mM1_1 : (M1Zq.1 175 1).toInt = (M0.1 175 1).toInt := by rw [eM1, li_ui_at, if_pos rfl, if_neg (by decide)]
  have mM1_7 : (M1Zq.1 175 7).toInt = (M0.1 175 7).toInt := by rw [eM1, li_ui_at, if_pos rfl, if_neg (by decide)]
  have mM1_12 : (M1Zq.1 175 12).toInt = (M0.1 175 12).toInt := by rw [eM1, li_ui_at, if_pos rfl, if_neg (by decide)]
  have mM1_13 : (M1Zq.1 175 13).toInt = (M0.1 175 13).toInt := by rw [eM1, li_ui_at, if_pos rfl, if_neg (by decide)]
  have mM1_14 : (M1Zq.1 175 14).toInt = (M0.1 175 14).toInt := by rw [eM1, li_ui_at, if_pos rfl, if_neg (by decide)]
  have mM1_15 : (M1Zq.1 175 15).toInt = (M0.1 175 15).toInt := by rw [eM1, li_ui_at, if_pos rfl, if_neg (by decide)]
  have Ppl_M1 : li_pl (M1Zq.1 180) (min TY 76) (6 - PEZq) (0) (0) (OK) (QQ) (MM) := li_pl_tr (li_cell_ui eM1 (by decide)) (Int.le_antisymm (by omega) (by omega)) (Int.le_antisymm (by omega) (by omega)) (Int.le_antisymm (by omega) (by omega)) (Int.le_antisymm (by omega) (by omega)) (Int.le_antisymm (by omega) (by omega)) (Int.le_antisymm (by omega) (by omega)) (Int.le_antisymm (by omega) (by omega)) Ppl_M0
  have Pce_M1 : li_ce (M1Zq.1 177) (g7) := li_ce_tr (li_cell_ui eM1 (by decide)) rfl Pce_M0
  refine li_aload_n 0 dX12_people_5 rfl ?_
  refine li_aload_n 0 dX12_people_6 rfl ?_
  refine li_getr (k := 6) (N := 52) (T := TX12) (C0 := RX12) dX12_people_7 (by decide) sh_175 rfl rfl (by decide) (by decide) li_in12 w_1410 ?_
  refine li_aload_n 0 dX12_people_10 rfl ?_
  refine li_geti (k := 7) (N := 52) (T := TX12) (C0 := RX12) dX12_people_11 (by decide) sh_175 rfl rfl (by decide) li_in12 w_1411 ?_
  refine li_top (fun x2Zq ex2Zq => ?_)
  have gx2 : 0 ≤ x2Zq.toInt ∧ x2Zq.toInt ≤ 80 := by rw [ex2Zq]; exact J_sl7 hJ
  have mx2 : x2Zq.toInt = (M1Zq.1 175 7).toInt := tl_slot ex2Zq
  refine li_bipush 76 dX12_people_14 (by decide) ?_
  have z76 : (76 : Int32).toInt = 76 := rfl
  refine li_callV (n := 3) (As := [.ref (Z.2.2 180), .int x2Zq, .int 76]) dX12_people_16 (k_X12_begin (d - 1) (by first | (unfold li_rq; decide) | (unfold li_rq; omega)) x2Zq 76 M1Zq hJ (show 0 ≤ (x2Zq : Int32).toInt ∧ (x2Zq : Int32).toInt ≤ (li_qn 180 : Int) by have := li_qn_fix; omega) (by omega)) (by omega) (Nat.le_of_ble_eq_true rfl) w_1577 w_1579 w_42 w_112 w_1580 (by decide +kernel) rfl (by decide) sh_175 rfl rfl (Nat.le_of_ble_eq_true rfl) (fun r M4Zq h5 => ?_)
  obtain ⟨rfl, h5, jM4, nM4⟩ := h5
  have hf := li_fs_trans hf h5 (fun i k => fun hZq => Or.elim hZq (fun hZq => Or.inr (Or.inr (Or.inr (Or.inr (Or.inr (Or.inr (Or.inr (Or.inl hZq)))))))) (fun hZq => Or.elim hZq (fun hZq => Or.inr (Or.inr (Or.inr (Or.inr (Or.inr (Or.inr (Or.inr (Or.inr (Or.inl hZq))))))))) (fun hZq => Or.elim hZq (fun hZq => Or.inr (Or.inr (Or.inr (Or.inr (Or.inr (Or.inr (Or.inr (Or.inr (Or.inr (Or.inl hZq)))))))))) (fun hZq => Or.elim hZq (fun hZq => Or.inr (Or.inr (Or.inr (Or.inr (Or.inr (Or.inr (Or.inr (Or.inr (Or.inr (Or.inr (Or.inl hZq))))))))))) (fun hZq => Or.inr (Or.inr (Or.inr (Or.inr (Or.inl hZq)))))))))
  have hJ := jM4
  have rM4_1 := J_sl1 (M := M4Zq) hJ
  have rM4_7 := J_sl7 (M := M4Zq) hJ
  have rM4_12 := J_sl12 (M := M4Zq) hJ
  have rM4_13 := J_sl13 (M := M4Zq) hJ
  have rM4_14 := J_sl14 (M := M4Zq) hJ
  have rM4_15 := J_sl15 (M := M4Zq) hJ
  have mM4_1 : (M4Zq.1 175 1).toInt = (M1Zq.1 175 1).toInt := tl_slot (h5.1 175 1 (show ¬ ((175 = 175 ∧ 1 = 12) ∨ (175 = 175 ∧ 1 = 13) ∨ (175 = 175 ∧ 1 = 14) ∨ (175 = 175 ∧ 1 = 15) ∨ 175 = 1000) by decide))
  have mM4_7 : (M4Zq.1 175 7).toInt = (M1Zq.1 175 7).toInt := tl_slot (h5.1 175 7 (show ¬ ((175 = 175 ∧ 7 = 12) ∨ (175 = 175 ∧ 7 = 13) ∨ (175 = 175 ∧ 7 = 14) ∨ (175 = 175 ∧ 7 = 15) ∨ 175 = 1000) by decide))
  have Ppl_M4 : li_pl (M4Zq.1 180) (min TY 76) (6 - PEZq) (0) (0) (OK) (QQ) (MM) := li_pl_tr (funext fun i => h5.1 180 i (show ¬ ((180 = 175 ∧ i = 12) ∨ (180 = 175 ∧ i = 13) ∨ (180 = 175 ∧ i = 14) ∨ (180 = 175 ∧ i = 15) ∨ 180 = 1000) by first | (simp; done) | omega)) (Int.le_antisymm (by omega) (by omega)) (Int.le_antisymm (by omega) (by omega)) (Int.le_antisymm (by omega) (by omega)) (Int.le_antisymm (by omega) (by omega)) (Int.le_antisymm (by omega) (by omega)) (Int.le_antisymm (by omega) (by omega)) (Int.le_antisymm (by omega) (by omega)) Ppl_M1
  have Pce_M4 : li_ce (M4Zq.1 177) (g7) := li_ce_tr (funext fun i => h5.1 177 i (show ¬ ((177 = 175 ∧ i = 12) ∨ (177 = 175 ∧ i = 13) ∨ (177 = 175 ∧ i = 14) ∨ (177 = 175 ∧ i = 15) ∨ 177 = 1000) by first | (simp; done) | omega)) rfl Pce_M1
  have bM4 : M4Zq.2.2 0 = some 180 := nM4.2.2.2.2
  refine li_aload_n 0 dX12_people_19 rfl ?_
  refine li_iconst 0 dX12_people_20 (by decide) ?_
  refine li_puti (k := 7) (N := 52) (T := TX12) (C0 := RX12) dX12_people_21 (by decide) sh_175 rfl rfl (by decide) li_in12 tyX12_ok nmX12 rfl rfl rfl rfl w_1411 ?_
  refine li_nm (fun M6Zq eM6 => ?_)
  have hf := li_fs_ui hf (Or.inr (Or.inr (Or.inr (Or.inr (Or.inr (Or.inr (Or.inr (Or.inr (Or.inr (Or.inr (Or.inr (Or.inr (Or.inr (⟨rfl, rfl⟩)))))))))))))) eM6
  have z0 : (0 : Int32).toInt = 0 := rfl
  have hJ := J_pt7 hJ (show 0 ≤ (0 : Int32).toInt ∧ (0 : Int32).toInt ≤ 80 from ⟨(by omega), (by omega)⟩) eM6
  have rM6_1 := J_sl1 (M := M6Zq) hJ
  have rM6_7 := J_sl7 (M := M6Zq) hJ
  have rM6_12 := J_sl12 (M := M6Zq) hJ
  have rM6_13 := J_sl13 (M := M6Zq) hJ
  have rM6_14 := J_sl14 (M := M6Zq) hJ
  have rM6_15 := J_sl15 (M := M6Zq) hJ
  have mM6_1 : (M6Zq.1 175 1).toInt = (M4Zq.1 175 1).toInt := by rw [eM6, li_ui_at, if_pos rfl, if_neg (by decide)]
  have mM6_7 : (M6Zq.1 175 7).toInt = 0 := by rw [eM6, li_ui_at, if_pos rfl, if_pos rfl]; rfl
  have mM6_12 : (M6Zq.1 175 12).toInt = (M4Zq.1 175 12).toInt := by rw [eM6, li_ui_at, if_pos rfl, if_neg (by decide)]
  have mM6_13 : (M6Zq.1 175 13).toInt = (M4Zq.1 175 13).toInt := by rw [eM6, li_ui_at, if_pos rfl, if_neg (by decide)]
  have mM6_14 : (M6Zq.1 175 14).toInt = (M4Zq.1 175 14).toInt := by rw [eM6, li_ui_at, if_pos rfl, if_neg (by decide)]
  have mM6_15 : (M6Zq.1 175 15).toInt = (M4Zq.1 175 15).toInt := by rw [eM6, li_ui_at, if_pos rfl, if_neg (by decide)]
  have Ppl_M6 : li_pl (M6Zq.1 180) (min TY 76) (6 - PEZq) (0) (0) (OK) (QQ) (MM) := li_pl_tr (li_cell_ui eM6 (by decide)) (Int.le_antisymm (by omega) (by omega)) (Int.le_antisymm (by omega) (by omega)) (Int.le_antisymm (by omega) (by omega)) (Int.le_antisymm (by omega) (by omega)) (Int.le_antisymm (by omega) (by omega)) (Int.le_antisymm (by omega) (by omega)) (Int.le_antisymm (by omega) (by omega)) Ppl_M4
  have Pce_M6 : li_ce (M6Zq.1 177) (g7) := li_ce_tr (li_cell_ui eM6 (by decide)) rfl Pce_M4
  have bM6 : M6Zq.2.2 0 = some 180 := by rw [eM6]; exact bM4
  refine li_aload_n 0 dX12_people_24 rfl ?_
  refine li_geti (k := 12) (N := 52) (T := TX12) (C0 := RX12) dX12_people_25 (by decide) sh_175 rfl rfl (by decide) li_in12 w_1416 ?_
  refine li_top (fun x7 ex7 => ?_)
  have gx7 : 0 ≤ x7.toInt ∧ x7.toInt ≤ 80 := by rw [ex7]; exact J_sl12 hJ
  have mx7 : x7.toInt = (M6Zq.1 175 12).toInt := tl_slot ex7
  refine li_if_ne 33 dX12_people_28 (by decide) (fun c8Zq => ?_) (fun c8Zq => ?_)
  · have tc8 : ¬ x7.toInt = 0 := tl_ne c8Zq
    refine li_iconst 0 dX12_people_33 (by decide) ?_
    refine li_istore_n [(1, .int 0), (0, .ref (Z.2.2 175))] dX12_people_34 (by decide) rfl ?_
    refine li_iconst 1 dX12_people_35 (by decide) ?_
    refine li_istore_n [(2, .int 1), (1, .int 0), (0, .ref (Z.2.2 175))] dX12_people_36 (by decide) rfl ?_
    have J117 : ∀ (x9 : Int32) (x10 : Int32) (M11 : li_M), li_fs (fun i k => i = 176 ∨ i = 177 ∨ i = 178 ∨ i = 182 ∨ i = 1000 ∨ (i = 175 ∧ k = 1) ∨ (i = 175 ∧ k = 10) ∨ (i = 175 ∧ k = 12) ∨ (i = 175 ∧ k = 13) ∨ (i = 175 ∧ k = 14) ∨ (i = 175 ∧ k = 15) ∨ (i = 175 ∧ k = 23) ∨ (i = 175 ∧ k = 48) ∨ (i = 175 ∧ k = 7)) M0 M11 → li_J M11 → 1 ≤ (x10 : Int32).toInt ∧ (M11.1 175 1).toInt + (x10 : Int32).toInt ≤ 7 ∧ (M11.1 175 1).toInt + (x10 : Int32).toInt ≤ 7 + (M11.1 175 15).toInt ∧ (¬ (M11.1 175 15).toInt = -1 → OK = 0 ∧ QQ = (M11.1 175 15).toInt) ∧ ((M11.1 175 15).toInt = -1 → ((min TY 76) ≤ (M11.1 175 14).toInt ∧ OK = 1 ∧ QQ = (M11.1 175 14).toInt ∧ MM = (x10 : Int32).toInt) ∨ ((M11.1 175 14).toInt < (min TY 76) ∧ OK = 0 ∧ QQ = (M11.1 175 14).toInt)) ∧ (M11.1 175 14).toInt ≤ (min TY 76) ∧ (M11.1 175 12).toInt = TY ∧ (M11.1 175 13).toInt = 76 ∧ (M11.1 175 1).toInt = PEZq ∧ 0 ≤ PEZq ∧ 1 ≤ TY ∧ (M11.1 175 7).toInt = 0 → li_ce (M11.1 177) (g7) → li_cs (M11.1 182) (hBZq) ((min TY 76)) ((x10 : Int32).toInt) ((M11.1 175 15).toInt) → M11.2.2 0 = some 180 → li_T l Z YX12_people d 117 [(2, .int x9), (1, .int x10), (0, .ref (Z.2.2 175))] [] M11 (fun r M' => (∃ x : Int32, r = some (.int x) ∧ ((((TY = 0 ∧ x.toInt = 0) ∨ (0 < TY ∧ OK = 1 ∧ TY ≤ 76 ∧ x.toInt = MM) ∨ (0 < TY ∧ OK = 1 ∧ 76 < TY ∧ x.toInt = -77) ∨ (0 < TY ∧ OK = 0 ∧ x.toInt = -1 - QQ ∧ 0 ≤ QQ)) ∧ ((0 < x.toInt ∧ (M'.1 175 1).toInt = PEZq + x.toInt) ∨ (x.toInt ≤ 0 ∧ (M'.1 175 1).toInt = PEZq))) ∧ li_ss (M'.1 177) g7 hBZq (min TY 76) PEZq (x.toInt))) ∧ li_fs (fun i k => i = 176 ∨ i = 177 ∨ i = 178 ∨ i = 182 ∨ i = 1000 ∨ (i = 175 ∧ k = 1) ∨ (i = 175 ∧ k = 10) ∨ (i = 175 ∧ k = 12) ∨ (i = 175 ∧ k = 13) ∨ (i = 175 ∧ k = 14) ∨ (i = 175 ∧ k = 15) ∨ (i = 175 ∧ k = 23) ∨ (i = 175 ∧ k = 48) ∨ (i = 175 ∧ k = 7)) M0 M' ∧ li_J M' ∧ (M'.1 175 7).toInt = 0) := k8_X12_people_J117 d hdZq M0 TY PEZq hTY hPEZq OK QQ MM Ppl_M0 g7 hg7 hBZq hhB
    have L37 : ∀ (n : Nat) (x58 : Int32) (x59 : Int32) (M60 : li_M), (8 - (x59 : Int32).toInt).toNat < n → li_fs (fun i k => i = 176 ∨ i = 177 ∨ i = 178 ∨ i = 182 ∨ i = 1000 ∨ (i = 175 ∧ k = 1) ∨ (i = 175 ∧ k = 10) ∨ (i = 175 ∧ k = 12) ∨ (i = 175 ∧ k = 13) ∨ (i = 175 ∧ k = 14) ∨ (i = 175 ∧ k = 15) ∨ (i = 175 ∧ k = 23) ∨ (i = 175 ∧ k = 48) ∨ (i = 175 ∧ k = 7)) M0 M60 → li_J M60 → 0 ≤ (x59 : Int32).toInt ∧ (M60.1 175 1).toInt + (x59 : Int32).toInt ≤ 7 ∧ (M60.1 175 1).toInt + (x59 : Int32).toInt ≤ 7 + (M60.1 175 15).toInt ∧ ((x58 : Int32).toInt = 0 ∨ (x58 : Int32).toInt = 1) ∧ (¬ (M60.1 175 15).toInt = -1 → (x58 : Int32).toInt = 0 ∧ OK = 0 ∧ QQ = (M60.1 175 15).toInt) ∧ ((x59 : Int32).toInt = 0 → (x58 : Int32).toInt = 1 ∧ (M60.1 175 15).toInt = -1) ∧ ((M60.1 175 15).toInt = -1 → (x58 : Int32).toInt = 0 → ((min TY 76) ≤ (M60.1 175 14).toInt ∧ OK = 1 ∧ QQ = (M60.1 175 14).toInt ∧ MM = (x59 : Int32).toInt) ∨ ((M60.1 175 14).toInt < (min TY 76) ∧ OK = 0 ∧ QQ = (M60.1 175 14).toInt)) ∧ ((x59 : Int32).toInt = 0 → (M60.1 175 14).toInt = 0) ∧ (M60.1 175 14).toInt ≤ (min TY 76) ∧ (M60.1 175 12).toInt = TY ∧ (M60.1 175 13).toInt = 76 ∧ (M60.1 175 1).toInt = PEZq ∧ 0 ≤ PEZq ∧ 1 ≤ TY ∧ (M60.1 175 7).toInt = 0 → li_ce (M60.1 177) (g7) → li_cs (M60.1 182) (hBZq) ((min TY 76)) ((x59 : Int32).toInt) ((M60.1 175 15).toInt) → li_pw (M60.1 180) (min TY 76) (6 - PEZq - (x59 : Int32).toInt) ((M60.1 175 14).toInt) ((x59 : Int32).toInt) (OK) (QQ) (MM) ((M60.1 175 15).toInt) ((x58 : Int32).toInt) → li_pj (M60.1 180) (hBZq) ((min TY 76)) ((M60.1 175 14).toInt) ((x59 : Int32).toInt) ((M60.1 175 15).toInt) ((x58 : Int32).toInt) → M60.2.2 0 = some 180 → li_T l Z YX12_people d 37 [(2, .int x58), (1, .int x59), (0, .ref (Z.2.2 175))] [] M60 (fun r M' => (∃ x : Int32, r = some (.int x) ∧ ((((TY = 0 ∧ x.toInt = 0) ∨ (0 < TY ∧ OK = 1 ∧ TY ≤ 76 ∧ x.toInt = MM) ∨ (0 < TY ∧ OK = 1 ∧ 76 < TY ∧ x.toInt = -77) ∨ (0 < TY ∧ OK = 0 ∧ x.toInt = -1 - QQ ∧ 0 ≤ QQ)) ∧ ((0 < x.toInt ∧ (M'.1 175 1).toInt = PEZq + x.toInt) ∨ (x.toInt ≤ 0 ∧ (M'.1 175 1).toInt = PEZq))) ∧ li_ss (M'.1 177) g7 hBZq (min TY 76) PEZq (x.toInt))) ∧ li_fs (fun i k => i = 176 ∨ i = 177 ∨ i = 178 ∨ i = 182 ∨ i = 1000 ∨ (i = 175 ∧ k = 1) ∨ (i = 175 ∧ k = 10) ∨ (i = 175 ∧ k = 12) ∨ (i = 175 ∧ k = 13) ∨ (i = 175 ∧ k = 14) ∨ (i = 175 ∧ k = 15) ∨ (i = 175 ∧ k = 23) ∨ (i = 175 ∧ k = 48) ∨ (i = 175 ∧ k = 7)) M0 M' ∧ li_J M' ∧ (M'.1 175 7).toInt = 0) := by
      try clear tc8
      try clear mx7
      try clear gx7
      try clear ex7
      try clear bM6
      try clear mM6_15
      try clear mM6_14
      try clear mM6_13
      try clear mM6_12
      try clear mM6_7
      try clear mM6_1
      try clear rM6_15
      try clear rM6_14
      try clear rM6_13
      try clear rM6_12
      try clear rM6_7
      try clear rM6_1
      try clear eM6
      try clear bM4
      try clear mM4_7
      try clear mM4_1
      try clear rM4_15
      try clear rM4_14
      try clear rM4_13
      try clear rM4_12
      try clear rM4_7
      try clear rM4_1
      try clear h5
      try clear jM4
      try clear nM4
      try clear mx2
      try clear gx2
      try clear ex2Zq
      try clear mM1_15
      try clear mM1_14
      try clear mM1_13
      try clear mM1_12
      try clear mM1_7
      try clear mM1_1
      try clear rM1_15
      try clear rM1_14
      try clear rM1_13
      try clear rM1_12
      try clear rM1_7
      try clear rM1_1
      try clear eM1
      try clear rM0_15
      try clear rM0_14
      try clear rM0_13
      try clear rM0_12
      try clear rM0_7
      try clear rM0_1
      intro n
      induction n with
      | zero => intro x58 x59 M60 hn; exact absurd hn (Nat.not_lt_zero _)
      | succ n ih37 =>
        intro x58 x59 M60 hn hf hJ hiZq Pce_M60 Pcs_M60 Ppw_M60 Ppj_M60 bM60
        have gx58 := tl_rg x58
        have gx59 := tl_rg x59
        have rM60_1 := J_sl1 (M := M60) hJ
        have rM60_7 := J_sl7 (M := M60) hJ
        have rM60_12 := J_sl12 (M := M60) hJ
        have rM60_13 := J_sl13 (M := M60) hJ
        have rM60_14 := J_sl14 (M := M60) hJ
        have rM60_15 := J_sl15 (M := M60) hJ
        refine li_iload_n 0 dX12_people_37 rfl ?_
        refine li_if_eq 117 dX12_people_38 (by decide) (fun c61 => ?_) (fun c61 => ?_)
        · have tc61 : x58.toInt = 0 := tl_eq c61
          refine li_pick [0, 1, 2] [(2, .int x58), (1, .int x59), (0, .ref (Z.2.2 175))] rfl ?_
          exact J117 x58 x59 M60 hf hJ ⟨(by omega), (by omega), (by omega), (fun hq0 => ⟨(Int.le_antisymm (by omega) (by omega)), (Int.le_antisymm (by omega) (by omega))⟩), (fun hq0 => (by omega)), (by omega), (Int.le_antisymm (by omega) (by omega)), (Int.le_antisymm (by omega) (by omega)), (Int.le_antisymm (by omega) (by omega)), (by omega), (by omega), (Int.le_antisymm (by omega) (by omega))⟩ (by first | exact li_ce_tr rfl rfl Pce_M60) (by first | exact li_cs_tr rfl rfl rfl (by omega) (fun h9 => Int.le_antisymm (by omega) (by omega)) Pcs_M60 | exact li_cs_0 (by omega) | exact li_cs_no (by omega)) bM60
        · have tc61 : ¬ x58.toInt = 0 := tl_ne c61
          refine li_aload_n 2 dX12_people_41 rfl ?_
          refine li_callV (n := 0) (As := []) dX12_people_42 (k_X12_fine (d - 1) (by omega)  M60 hJ ) (by omega) (Nat.le_of_ble_eq_true rfl) w_1581 w_1583 w_43 w_112 w_1584 (by decide +kernel) rfl (by decide) sh_175 rfl rfl (Nat.le_of_ble_eq_true rfl) (fun r M63 h64 => ?_)
          obtain ⟨qx62, h64, jM63⟩ := h64
          have hf := li_fs_trans hf h64 (fun i k hZq => False.elim hZq)
          have kM63 : (li_hr M63).toInt = (li_hr M60).toInt := li_hr_fs h64 id id id id (fun _ _ _ => id) (by assumption)
          have hJ := jM63
          have rM63_1 := J_sl1 (M := M63) hJ
          have rM63_7 := J_sl7 (M := M63) hJ
          have rM63_12 := J_sl12 (M := M63) hJ
          have rM63_13 := J_sl13 (M := M63) hJ
          have rM63_14 := J_sl14 (M := M63) hJ
          have rM63_15 := J_sl15 (M := M63) hJ
          have mM63_1 : (M63.1 175 1).toInt = (M60.1 175 1).toInt := tl_slot (h64.1 175 1 id)
          have mM63_7 : (M63.1 175 7).toInt = (M60.1 175 7).toInt := tl_slot (h64.1 175 7 id)
          have mM63_12 : (M63.1 175 12).toInt = (M60.1 175 12).toInt := tl_slot (h64.1 175 12 id)
          have mM63_13 : (M63.1 175 13).toInt = (M60.1 175 13).toInt := tl_slot (h64.1 175 13 id)
          have mM63_14 : (M63.1 175 14).toInt = (M60.1 175 14).toInt := tl_slot (h64.1 175 14 id)
          have mM63_15 : (M63.1 175 15).toInt = (M60.1 175 15).toInt := tl_slot (h64.1 175 15 id)
          have Ppw_M63 : li_pw (M63.1 180) (min TY 76) (6 - PEZq - (x59 : Int32).toInt) ((M63.1 175 14).toInt) ((x59 : Int32).toInt) (OK) (QQ) (MM) ((M63.1 175 15).toInt) ((x58 : Int32).toInt) := li_pw_tr (funext fun i => h64.1 180 i id) (Int.le_antisymm (by omega) (by omega)) (Int.le_antisymm (by omega) (by omega)) (Int.le_antisymm (by omega) (by omega)) (Int.le_antisymm (by omega) (by omega)) (Int.le_antisymm (by omega) (by omega)) (Int.le_antisymm (by omega) (by omega)) (Int.le_antisymm (by omega) (by omega)) (Int.le_antisymm (by omega) (by omega)) (Int.le_antisymm (by omega) (by omega)) Ppw_M60
          have Pcs_M63 : li_cs (M63.1 182) (hBZq) ((min TY 76)) ((x59 : Int32).toInt) ((M63.1 175 15).toInt) := li_cs_tr (funext fun i => h64.1 182 i id) rfl rfl (by omega) (fun h9 => Int.le_antisymm (by omega) (by omega)) Pcs_M60
          have Pce_M63 : li_ce (M63.1 177) (g7) := li_ce_tr (funext fun i => h64.1 177 i id) rfl Pce_M60
          have Ppj_M63 : li_pj (M63.1 180) (hBZq) ((min TY 76)) ((M63.1 175 14).toInt) ((x59 : Int32).toInt) ((M63.1 175 15).toInt) ((x58 : Int32).toInt) := li_pj_tr (funext fun i => h64.1 180 i id) rfl rfl (Int.le_antisymm (by omega) (by omega)) (Int.le_antisymm (by omega) (by omega)) (fun h9 => Int.le_antisymm (by omega) (by omega)) (fun h9 => Int.le_antisymm (by omega) (by omega)) Ppj_M60
          have bM63 : M63.2.2 0 = some 180 := (h64.2.2 0 (fun h9 => by first | exact (h9 : False).elim | (simp at h9; done) | omega)).trans bM60
          rcases qx62 with ⟨rfl, qx62⟩ | ⟨rfl, qx62⟩
          · skip
            refine li_if_eq 117 dX12_people_45 (by decide) (fun c => absurd c (by decide)) (fun c => ?_)
            refine li_aload_n 2 dX12_people_48 rfl ?_
            refine li_geti (k := 1) (N := 52) (T := TX12) (C0 := RX12) dX12_people_49 (by decide) sh_175 rfl rfl (by decide) li_in12 w_1405 ?_
            refine li_top (fun x66 ex66 => ?_)
            have gx66 : 0 ≤ x66.toInt ∧ x66.toInt ≤ 6 := by rw [ex66]; exact J_sl1 hJ
            have mx66 : x66.toInt = (M63.1 175 1).toInt := tl_slot ex66
            refine li_iload_n 1 dX12_people_52 rfl ?_
            refine li_iadd dX12_people_53 ?_
            refine li_top (fun x67 ex67 => ?_)
            try (have tx67 : x67.toInt = (x66 : Int32).toInt + (x59 : Int32).toInt := tl_add ex67 ⟨by omega, by omega⟩)
            refine li_bipush 6 dX12_people_54 (by decide) ?_
            have J104 : ∀  (M69 : li_M), li_fs (fun i k => i = 176 ∨ i = 177 ∨ i = 178 ∨ i = 182 ∨ i = 1000 ∨ (i = 175 ∧ k = 1) ∨ (i = 175 ∧ k = 10) ∨ (i = 175 ∧ k = 12) ∨ (i = 175 ∧ k = 13) ∨ (i = 175 ∧ k = 14) ∨ (i = 175 ∧ k = 15) ∨ (i = 175 ∧ k = 23) ∨ (i = 175 ∧ k = 48) ∨ (i = 175 ∧ k = 7)) M0 M69 → li_J M69 → 0 ≤ (x59 : Int32).toInt ∧ (M69.1 175 1).toInt + (x59 : Int32).toInt ≤ 6 ∧ (M69.1 175 1).toInt + (x59 : Int32).toInt ≤ 6 + (M69.1 175 15).toInt ∧ (¬ (M69.1 175 15).toInt = -1 → OK = 0 ∧ QQ = (M69.1 175 15).toInt) ∧ ((M69.1 175 15).toInt = -1 → (li_hr M69).toInt = 59 ∨ ((min TY 76) ≤ (M69.1 175 14).toInt ∧ OK = 1 ∧ QQ = (M69.1 175 14).toInt ∧ MM = (x59 : Int32).toInt + 1) ∨ ((M69.1 175 14).toInt < (min TY 76) ∧ OK = 0 ∧ QQ = (M69.1 175 14).toInt)) ∧ (M69.1 175 14).toInt ≤ (min TY 76) ∧ (M69.1 175 12).toInt = TY ∧ (M69.1 175 13).toInt = 76 ∧ (M69.1 175 1).toInt = PEZq ∧ 0 ≤ PEZq ∧ 1 ≤ TY ∧ (M69.1 175 7).toInt = 0 → li_ce (M69.1 177) (g7) → li_cs (M69.1 182) (hBZq) ((min TY 76)) ((x59 : Int32).toInt + 1) ((M69.1 175 15).toInt) → li_px (M69.1 180) (min TY 76) (6 - PEZq - (x59 : Int32).toInt - 1) ((M69.1 175 14).toInt) ((x59 : Int32).toInt + 1) (OK) (QQ) (MM) ((M69.1 175 15).toInt) ((li_hr M69).toInt) → li_py (M69.1 180) (hBZq) ((min TY 76)) ((M69.1 175 14).toInt) ((x59 : Int32).toInt + 1) ((M69.1 175 15).toInt) ((li_hr M69).toInt) → M69.2.2 0 = some 180 → li_T l Z YX12_people d 104 [(2, .int x58), (1, .int x59), (0, .ref (Z.2.2 175))] [] M69 (fun r M' => (∃ x : Int32, r = some (.int x) ∧ ((((TY = 0 ∧ x.toInt = 0) ∨ (0 < TY ∧ OK = 1 ∧ TY ≤ 76 ∧ x.toInt = MM) ∨ (0 < TY ∧ OK = 1 ∧ 76 < TY ∧ x.toInt = -77) ∨ (0 < TY ∧ OK = 0 ∧ x.toInt = -1 - QQ ∧ 0 ≤ QQ)) ∧ ((0 < x.toInt ∧ (M'.1 175 1).toInt = PEZq + x.toInt) ∨ (x.toInt ≤ 0 ∧ (M'.1 175 1).toInt = PEZq))) ∧ li_ss (M'.1 177) g7 hBZq (min TY 76) PEZq (x.toInt))) ∧ li_fs (fun i k => i = 176 ∨ i = 177 ∨ i = 178 ∨ i = 182 ∨ i = 1000 ∨ (i = 175 ∧ k = 1) ∨ (i = 175 ∧ k = 10) ∨ (i = 175 ∧ k = 12) ∨ (i = 175 ∧ k = 13) ∨ (i = 175 ∧ k = 14) ∨ (i = 175 ∧ k = 15) ∨ (i = 175 ∧ k = 23) ∨ (i = 175 ∧ k = 48) ∨ (i = 175 ∧ k = 7)) M0 M' ∧ li_J M' ∧ (M'.1 175 7).toInt = 0) := by
              try clear tx67
              try clear ex67
              try clear mx66
              try clear gx66
              try clear ex66
              try clear c
              try clear bM63
              try clear mM63_15
              try clear mM63_14
              try clear mM63_13
              try clear mM63_12
              try clear mM63_7
              try clear mM63_1
              try clear rM63_15
              try clear rM63_14
              try clear rM63_13
              try clear rM63_12
              try clear rM63_7
              try clear rM63_1
              try clear kM63
              try clear qx62
              try clear h64
              try clear jM63
              try clear tc61
              try clear c61
              try clear rM60_15
              try clear rM60_14
              try clear rM60_13
              try clear rM60_12
              try clear rM60_7
              try clear rM60_1
              try clear tc8
              try clear mx7
              try clear gx7
              try clear ex7
              try clear bM6
              try clear mM6_15
              try clear mM6_14
              try clear mM6_13
              try clear mM6_12
              try clear mM6_7
              try clear mM6_1
              try clear rM6_15
              try clear rM6_14
              try clear rM6_13
              try clear rM6_12
              try clear rM6_7
              try clear rM6_1
              try clear eM6
              try clear bM4
              try clear mM4_7
              try clear mM4_1
              try clear rM4_15
              try clear rM4_14
              try clear rM4_13
              try clear rM4_12
              try clear rM4_7
              try clear rM4_1
              try clear h5
              try clear jM4
              try clear nM4
              try clear mx2
              try clear gx2
              try clear ex2Zq
              try clear mM1_15
              try clear mM1_14
              try clear mM1_13
              try clear mM1_12
              try clear mM1_7
              try clear mM1_1
              try clear rM1_15
              try clear rM1_14
              try clear rM1_13
              try clear rM1_12
              try clear rM1_7
              try clear rM1_1
              try clear eM1
              try clear rM0_15
              try clear rM0_14
              try clear rM0_13
              try clear rM0_12
              try clear rM0_7
              try clear rM0_1
              try clear hiZq
              intro  M69 hf hJ hiZq Pce_M69 Pcs_M69 Ppx_M69 Ppy_M69 bM69
              have rM69_1 := J_sl1 (M := M69) hJ
              have rM69_7 := J_sl7 (M := M69) hJ
              have rM69_12 := J_sl12 (M := M69) hJ
              have rM69_13 := J_sl13 (M := M69) hJ
              have rM69_14 := J_sl14 (M := M69) hJ
              have rM69_15 := J_sl15 (M := M69) hJ
              obtain ⟨x70, ex70⟩ : ∃ y : Int32, y = x59 + 1 := ⟨_, rfl⟩
              have z1 : (1 : Int32).toInt = 1 := rfl
              try (have tx70 : x70.toInt = (x59 : Int32).toInt + (1 : Int32).toInt := tl_add ex70 ⟨by omega, by omega⟩)
              refine li_iinc 1 [(1, .int x70), (2, .int x58), (0, .ref (Z.2.2 175))] x70 dX12_people_104 rfl (by rw [ex70]; rfl) (by decide) rfl ?_
              refine li_aload_n 2 dX12_people_107 rfl ?_
              refine li_bipush 59 dX12_people_108 (by decide) ?_
              have z59Zq : (59 : Int32).toInt = 59 := rfl
              refine li_callV (n := 1) (As := [.int 59]) dX12_people_110 (k_X12_passes (d - 1) (by omega) 59 M69 hJ (by omega)) (by omega) (Nat.le_of_ble_eq_true rfl) w_1605 w_1607 w_49 w_112 w_1608 (by decide +kernel) rfl (by decide) sh_175 rfl rfl (Nat.le_of_ble_eq_true rfl) (fun r M72 h73 => ?_)
              obtain ⟨qx71, h73, jM72⟩ := h73
              have hf := li_fs_trans hf h73 (fun i k => fun hZq => Or.inr (Or.inr (Or.inr (Or.inr (Or.inr (Or.inr (Or.inr (Or.inr (Or.inr (Or.inl hZq))))))))))
              have hJ := jM72
              have rM72_1 := J_sl1 (M := M72) hJ
              have rM72_7 := J_sl7 (M := M72) hJ
              have rM72_12 := J_sl12 (M := M72) hJ
              have rM72_13 := J_sl13 (M := M72) hJ
              have rM72_14 := J_sl14 (M := M72) hJ
              have rM72_15 := J_sl15 (M := M72) hJ
              have mM72_1 : (M72.1 175 1).toInt = (M69.1 175 1).toInt := tl_slot (h73.1 175 1 (show ¬ ((175 = 175 ∧ 1 = 14)) by decide))
              have mM72_7 : (M72.1 175 7).toInt = (M69.1 175 7).toInt := tl_slot (h73.1 175 7 (show ¬ ((175 = 175 ∧ 7 = 14)) by decide))
              have mM72_12 : (M72.1 175 12).toInt = (M69.1 175 12).toInt := tl_slot (h73.1 175 12 (show ¬ ((175 = 175 ∧ 12 = 14)) by decide))
              have mM72_13 : (M72.1 175 13).toInt = (M69.1 175 13).toInt := tl_slot (h73.1 175 13 (show ¬ ((175 = 175 ∧ 13 = 14)) by decide))
              have mM72_15 : (M72.1 175 15).toInt = (M69.1 175 15).toInt := tl_slot (h73.1 175 15 (show ¬ ((175 = 175 ∧ 15 = 14)) by decide))
              have Pcs_M72 : li_cs (M72.1 182) (hBZq) ((min TY 76)) ((x59 : Int32).toInt + 1) ((M72.1 175 15).toInt) := li_cs_tr (funext fun i => h73.1 182 i (show ¬ ((182 = 175 ∧ i = 14)) by first | (simp; done) | omega)) rfl rfl (by omega) (fun h9 => Int.le_antisymm (by omega) (by omega)) Pcs_M69
              have Pce_M72 : li_ce (M72.1 177) (g7) := li_ce_tr (funext fun i => h73.1 177 i (show ¬ ((177 = 175 ∧ i = 14)) by first | (simp; done) | omega)) rfl Pce_M69
              have bM72 : M72.2.2 0 = some 180 := (h73.2.2 0 (fun h9 => by first | exact (h9 : False).elim | (simp at h9; done) | omega)).trans bM69
              have px1 : li_px (M72.1 180) (min TY 76) (6 - PEZq - (x59 : Int32).toInt - 1) ((M69.1 175 14).toInt) ((x59 : Int32).toInt + 1) (OK) (QQ) (MM) ((M69.1 175 15).toInt) ((li_hr M69).toInt) := by rw [show M72.1 180 = M69.1 180 from (funext fun i => h73.1 180 i (show ¬ ((180 = 175 ∧ i = 14)) by first | (simp; done) | omega))]; exact Ppx_M69
              have py1 : li_py (M72.1 180) (hBZq) ((min TY 76)) ((M69.1 175 14).toInt) ((x59 : Int32).toInt + 1) ((M69.1 175 15).toInt) ((li_hr M69).toInt) := by rw [show M72.1 180 = M69.1 180 from (funext fun i => h73.1 180 i (show ¬ ((180 = 175 ∧ i = 14)) by first | (simp; done) | omega))]; exact Ppy_M69
              rcases qx71 with ⟨rfl, qx71⟩ | ⟨rfl, qx71⟩
              · skip
                refine li_istore_n [(2, .int 1), (1, .int x70), (0, .ref (Z.2.2 175))] dX12_people_113 (by decide) rfl ?_
                refine li_goto 37 dX12_people_114 (by decide) ?_
                refine li_pick [0, 1, 2] [(2, .int 1), (1, .int x70), (0, .ref (Z.2.2 175))] rfl ?_
                have z1 : (1 : Int32).toInt = 1 := rfl
                exact ih37 1 x70 M72 (by omega) hf hJ ⟨(by omega), (by omega), (by omega), (by omega), (fun hq0 => ⟨(Int.le_antisymm (by omega) (by omega)), (Int.le_antisymm (by omega) (by omega)), (Int.le_antisymm (by omega) (by omega))⟩), (fun hq0 => ⟨(Int.le_antisymm (by omega) (by omega)), (Int.le_antisymm (by omega) (by omega))⟩), (fun hq0 hq1 => (by omega)), (fun hq0 => (Int.le_antisymm (by omega) (by omega))), (by omega), (Int.le_antisymm (by omega) (by omega)), (Int.le_antisymm (by omega) (by omega)), (Int.le_antisymm (by omega) (by omega)), (by omega), (by omega), (Int.le_antisymm (by omega) (by omega))⟩ (by first | exact li_ce_tr rfl rfl Pce_M72) (by first | exact li_cs_tr rfl rfl rfl (by omega) (fun h9 => Int.le_antisymm (by omega) (by omega)) Pcs_M72 | exact li_cs_0 (by omega) | exact li_cs_no (by omega)) (by first | exact li_pw_px px1 rfl (Int.le_antisymm (by omega) (by omega)) (Int.le_antisymm (by omega) (by omega)) (Int.le_antisymm (by omega) (by omega)) (fun h8 h7 => ⟨Int.le_antisymm (by omega) (by omega), Int.le_antisymm (by omega) (by omega), Int.le_antisymm (by omega) (by omega)⟩) | exact li_pw_0 Ppl_M72 rfl (Int.le_antisymm (by omega) (by omega)) (Int.le_antisymm (by omega) (by omega)) (Int.le_antisymm (by omega) (by omega)) (Int.le_antisymm (by omega) (by omega))) (by first | exact li_pj_0 (Int.le_antisymm (by omega) (by omega)) (Int.le_antisymm (by omega) (by omega)) | exact li_pj_py py1 (Int.le_antisymm (by omega) (by omega)) (fun h8 h7 => ⟨Int.le_antisymm (by omega) (by omega), Int.le_antisymm (by omega) (by omega), Int.le_antisymm (by omega) (by omega)⟩)) bM72
              · skip
                refine li_istore_n [(2, .int 0), (1, .int x70), (0, .ref (Z.2.2 175))] dX12_people_113 (by decide) rfl ?_
                refine li_goto 37 dX12_people_114 (by decide) ?_
                refine li_pick [0, 1, 2] [(2, .int 0), (1, .int x70), (0, .ref (Z.2.2 175))] rfl ?_
                have z0 : (0 : Int32).toInt = 0 := rfl
                exact ih37 0 x70 M72 (by omega) hf hJ ⟨(by omega), (by omega), (by omega), (by omega), (fun hq0 => ⟨(Int.le_antisymm (by omega) (by omega)), (Int.le_antisymm (by omega) (by omega)), (Int.le_antisymm (by omega) (by omega))⟩), (fun hq0 => ⟨(Int.le_antisymm (by omega) (by omega)), (Int.le_antisymm (by omega) (by omega))⟩), (fun hq0 hq1 => (by omega)), (fun hq0 => (Int.le_antisymm (by omega) (by omega))), (by omega), (Int.le_antisymm (by omega) (by omega)), (Int.le_antisymm (by omega) (by omega)), (Int.le_antisymm (by omega) (by omega)), (by omega), (by omega), (Int.le_antisymm (by omega) (by omega))⟩ (by first | exact li_ce_tr rfl rfl Pce_M72) (by first | exact li_cs_tr rfl rfl rfl (by omega) (fun h9 => Int.le_antisymm (by omega) (by omega)) Pcs_M72 | exact li_cs_0 (by omega) | exact li_cs_no (by omega)) (by first | exact li_pw_px px1 rfl (Int.le_antisymm (by omega) (by omega)) (Int.le_antisymm (by omega) (by omega)) (Int.le_antisymm (by omega) (by omega)) (fun h8 h7 => ⟨Int.le_antisymm (by omega) (by omega), Int.le_antisymm (by omega) (by omega), Int.le_antisymm (by omega) (by omega)⟩) | exact li_pw_0 Ppl_M72 rfl (Int.le_antisymm (by omega) (by omega)) (Int.le_antisymm (by omega) (by omega)) (Int.le_antisymm (by omega) (by omega)) (Int.le_antisymm (by omega) (by omega))) (by first | exact li_pj_0 (Int.le_antisymm (by omega) (by omega)) (Int.le_antisymm (by omega) (by omega)) | exact li_pj_py py1 (Int.le_antisymm (by omega) (by omega)) (fun h8 h7 => ⟨Int.le_antisymm (by omega) (by omega), Int.le_antisymm (by omega) (by omega), Int.le_antisymm (by omega) (by omega)⟩)) bM72
            refine li_icmp_ne 70 dX12_people_56 (by decide) (fun c68 => ?_) (fun c68 => ?_)
            · have tc68 : ¬ x67.toInt = 6 := tl_ne c68
              refine li_aload_n 2 dX12_people_70 rfl ?_
              refine li_getr (k := 16) (N := 52) (T := TX12) (C0 := RX12) dX12_people_71 (by decide) sh_175 rfl rfl (by decide) (by decide) li_in12 w_1420 ?_
              refine li_iconst 2 dX12_people_74 (by decide) ?_
              refine li_iload_n 1 dX12_people_75 rfl ?_
              refine li_imul dX12_people_76 ?_
              refine li_top (fun x74 ex74 => ?_)
              have z2 : (2 : Int32).toInt = 2 := rfl
              try (have tx74 : x74.toInt = 2 * (x59 : Int32).toInt := tl_mul ex74 (show -2147483648 ≤ 2 * (x59 : Int32).toInt ∧ 2 * (x59 : Int32).toInt ≤ 2147483647 from ⟨(by omega), (by omega)⟩))
              refine li_aload_n 2 dX12_people_77 rfl ?_
              refine li_iconst 2 dX12_people_78 (by decide) ?_
              have hf79 := hf
              have pq0 := Ppw_M63 (by omega) (by omega)
              obtain ⟨R1, Q1Zq, nq1⟩ : ∃ r q, li_mq (M63.1 180) (min TY 76) (2) (-1) ((M63.1 175 14).toInt) r q := li_nq_self
              have stq1 := li_pq_a pq0 (by omega) nq1
              have emn : min (M63.1 175 12).toInt (M63.1 175 13).toInt = min TY 76 := by rw [show (M63.1 175 12).toInt = TY from Int.le_antisymm (by omega) (by omega), show (M63.1 175 13).toInt = 76 from Int.le_antisymm (by omega) (by omega)]
              have hbM : hBZq = li_by (M63.1 180) := hhB.symm.trans (congrArg li_by (funext fun i => (hf.1 180 i ((fun i => (show ¬ (180 = 176 ∨ 180 = 177 ∨ 180 = 178 ∨ 180 = 182 ∨ 180 = 1000 ∨ (180 = 175 ∧ i = 1) ∨ (180 = 175 ∧ i = 10) ∨ (180 = 175 ∧ i = 12) ∨ (180 = 175 ∧ i = 13) ∨ (180 = 175 ∧ i = 14) ∨ (180 = 175 ∧ i = 15) ∨ (180 = 175 ∧ i = 23) ∨ (180 = 175 ∧ i = 48) ∨ (180 = 175 ∧ i = 7)) by first | (simp; done) | omega)) i)).symm))
              have nqB : li_nq hBZq (min TY 76) 2 (-1) ((M63.1 175 14).toInt) R1 Q1Zq := li_nq_tr hbM rfl rfl rfl rfl rfl rfl nq1
              have pjq := Ppj_M63 (by omega) (by omega)
              have svq := li_pp_sv (f := hBZq) pjq nqB
              have z2 : (2 : Int32).toInt = 2 := rfl
              refine li_callV (n := 1) (As := [.int 2]) dX12_people_79 (k5_X12_number (d - 1) (by omega) 2 M63 hJ (by decide) bM63 _ _ (li_mq_tr rfl emn (by decide) rfl rfl rfl rfl nq1)) (by omega) (Nat.le_of_ble_eq_true rfl) w_1589 w_1591 w_45 w_112 w_1592 (by decide +kernel) rfl (by decide) sh_175 rfl rfl (Nat.le_of_ble_eq_true rfl) (fun r M76 h77 => ?_)
              obtain ⟨⟨x75, rfl, qx75⟩, h77, jM76⟩ := h77
              have gx75 := tl_rg x75
              have hf := li_fs_trans hf h77 (fun i k => fun hZq => Or.elim hZq (fun hZq => Or.inr (Or.inr (Or.inr (Or.inr (Or.inr (Or.inr (Or.inr (Or.inr (Or.inr (Or.inl hZq)))))))))) (fun hZq => Or.inr (Or.inr (Or.inr (Or.inr (Or.inr (Or.inr (Or.inr (Or.inr (Or.inr (Or.inr (Or.inl hZq))))))))))))
              have hJ := jM76
              have rM76_1 := J_sl1 (M := M76) hJ
              have rM76_7 := J_sl7 (M := M76) hJ
              have rM76_12 := J_sl12 (M := M76) hJ
              have rM76_13 := J_sl13 (M := M76) hJ
              have rM76_14 := J_sl14 (M := M76) hJ
              have rM76_15 := J_sl15 (M := M76) hJ
              have mM76_1 : (M76.1 175 1).toInt = (M63.1 175 1).toInt := tl_slot (h77.1 175 1 (show ¬ ((175 = 175 ∧ 1 = 14) ∨ (175 = 175 ∧ 1 = 15)) by decide))
              have mM76_7 : (M76.1 175 7).toInt = (M63.1 175 7).toInt := tl_slot (h77.1 175 7 (show ¬ ((175 = 175 ∧ 7 = 14) ∨ (175 = 175 ∧ 7 = 15)) by decide))
              have mM76_12 : (M76.1 175 12).toInt = (M63.1 175 12).toInt := tl_slot (h77.1 175 12 (show ¬ ((175 = 175 ∧ 12 = 14) ∨ (175 = 175 ∧ 12 = 15)) by decide))
              have mM76_13 : (M76.1 175 13).toInt = (M63.1 175 13).toInt := tl_slot (h77.1 175 13 (show ¬ ((175 = 175 ∧ 13 = 14) ∨ (175 = 175 ∧ 13 = 15)) by decide))
              have Pcs_M76 : li_cs (M76.1 182) (hBZq) ((min TY 76)) ((x59 : Int32).toInt) ((M76.1 175 15).toInt) := li_cs_tr (funext fun i => h77.1 182 i (show ¬ ((182 = 175 ∧ i = 14) ∨ (182 = 175 ∧ i = 15)) by first | (simp; done) | omega)) rfl rfl (by omega) (fun h9 => Int.le_antisymm (by omega) (by omega)) Pcs_M63
              have Pce_M76 : li_ce (M76.1 177) (g7) := li_ce_tr (funext fun i => h77.1 177 i (show ¬ ((177 = 175 ∧ i = 14) ∨ (177 = 175 ∧ i = 15)) by first | (simp; done) | omega)) rfl Pce_M63
              have bM76 : M76.2.2 0 = some 180 := (h77.2.2 0 (fun h9 => by first | exact (h9 : False).elim | (simp at h9; done) | omega)).trans bM63
              have em79 : min (M63.1 175 12).toInt (M63.1 175 13).toInt = min TY 76 := by rw [show (M63.1 175 12).toInt = TY from Int.le_antisymm (by omega) (by omega), show (M63.1 175 13).toInt = 76 from Int.le_antisymm (by omega) (by omega)]
              have a79 : (M63.1 175 14).toInt ≤ (M76.1 175 14).toInt ∧ (M76.1 175 14).toInt ≤ min TY 76 := ⟨qx75.2.2.1, by rw [← em79]; exact qx75.2.2.2 (by rw [em79]; omega)⟩
              have qh := qx75.1 (Int.le_antisymm (by omega) (by omega))
              have s79 : ((M76.1 175 15).toInt = -1 ∧ 0 ≤ R1 ∧ (M76.1 175 14).toInt = Q1Zq ∧ x75.toInt = R1) ∨ (¬ (M76.1 175 15).toInt = -1 ∧ OK = 0 ∧ QQ = (M76.1 175 15).toInt) := by
                rcases Int.lt_or_le R1 0 with c | c
                · have u := qh.1 c; have u2Zq := stq1.1 c; exact Or.inr ⟨by omega, u2Zq.1, Int.le_antisymm (by omega) (by omega)⟩
                · have u := qh.2 c; exact Or.inl ⟨u.2.2, c, u.2.1, u.1⟩
              clear qx75 qh em79
              refine li_iast dX12_people_82 (by decide) sh_182 (tl_in ⟨by omega, by omega⟩) ?_
              refine li_nm (fun M78 eM78 => ?_)
              have hf := li_fs_ui hf (Or.inr (Or.inr (Or.inr (Or.inl rfl)))) eM78
              have hJ := hJ.st (by decide) (li_el_free (by first | (unfold li_led; decide) | (unfold li_led; omega)) (by decide) (by decide) (by first | (unfold li_rq; decide) | (unfold li_rq; omega))) eM78
              have rM78_1 := J_sl1 (M := M78) hJ
              have rM78_7 := J_sl7 (M := M78) hJ
              have rM78_12 := J_sl12 (M := M78) hJ
              have rM78_13 := J_sl13 (M := M78) hJ
              have rM78_14 := J_sl14 (M := M78) hJ
              have rM78_15 := J_sl15 (M := M78) hJ
              have mM78_1 : (M78.1 175 1).toInt = (M76.1 175 1).toInt := by rw [eM78, li_ui_at, if_neg (by decide)]
              have mM78_7 : (M78.1 175 7).toInt = (M76.1 175 7).toInt := by rw [eM78, li_ui_at, if_neg (by decide)]
              have mM78_12 : (M78.1 175 12).toInt = (M76.1 175 12).toInt := by rw [eM78, li_ui_at, if_neg (by decide)]
              have mM78_13 : (M78.1 175 13).toInt = (M76.1 175 13).toInt := by rw [eM78, li_ui_at, if_neg (by decide)]
              have mM78_14 : (M78.1 175 14).toInt = (M76.1 175 14).toInt := by rw [eM78, li_ui_at, if_neg (by decide)]
              have mM78_15 : (M78.1 175 15).toInt = (M76.1 175 15).toInt := by rw [eM78, li_ui_at, if_neg (by decide)]
              have Pce_M78 : li_ce (M78.1 177) (g7) := li_ce_tr (li_cell_ui eM78 (by decide)) rfl Pce_M76
              have Pcs_M78 : li_cs (M78.1 182) (hBZq) ((min TY 76)) ((x59 : Int32).toInt + 1) ((M78.1 175 15).toInt) := li_cs_st Pcs_M76 eM78 (Int.le_antisymm (by omega) (by omega)) (by omega) (fun h9 => by rcases s79 with c | c; exact ⟨Int.le_antisymm (by omega) (by omega), c.2.2.2.trans svq⟩; exact absurd (Int.le_antisymm (by omega) (by omega)) c.1) rfl
              have bM78 : M78.2.2 0 = some 180 := by rw [eM78]; exact bM76
              refine li_aload_n 2 dX12_people_83 rfl ?_
              refine li_bipush 58 dX12_people_84 (by decide) ?_
              have em86 : min (M78.1 175 12).toInt (M78.1 175 13).toInt = min TY 76 := by rw [show (M78.1 175 12).toInt = TY from Int.le_antisymm (by omega) (by omega), show (M78.1 175 13).toInt = 76 from Int.le_antisymm (by omega) (by omega)]
              have ch1 : (M78.1 175 14).toInt = Q1Zq → (li_hr M78).toInt = rd_ch (li_by (M63.1 180)) (min TY 76) Q1Zq := fun h9 => hr_pt bM78 (by omega) (fs_180 hf79 hf (fun i => (show ¬ (180 = 176 ∨ 180 = 177 ∨ 180 = 178 ∨ 180 = 182 ∨ 180 = 1000 ∨ (180 = 175 ∧ i = 1) ∨ (180 = 175 ∧ i = 10) ∨ (180 = 175 ∧ i = 12) ∨ (180 = 175 ∧ i = 13) ∨ (180 = 175 ∧ i = 14) ∨ (180 = 175 ∧ i = 15) ∨ (180 = 175 ∧ i = 23) ∨ (180 = 175 ∧ i = 48) ∨ (180 = 175 ∧ i = 7)) by first | (simp; done) | omega))) em86 h9
              have z58 : (58 : Int32).toInt = 58 := rfl
              refine li_callV (n := 1) (As := [.int 58]) dX12_people_86 (k_X12_need (d - 1) (by omega) 58 M78 hJ (by omega)) (by omega) (Nat.le_of_ble_eq_true rfl) w_1601 w_1603 w_48 w_112 w_1604 (by decide +kernel) rfl (by decide) sh_175 rfl rfl (Nat.le_of_ble_eq_true rfl) (fun r M80 h81 => ?_)
              obtain ⟨rfl, h81, jM80, nM80⟩ := h81
              have hf := li_fs_trans hf h81 (fun i k => fun hZq => Or.elim hZq (fun hZq => Or.inr (Or.inr (Or.inr (Or.inr (Or.inr (Or.inr (Or.inr (Or.inr (Or.inr (Or.inl hZq)))))))))) (fun hZq => Or.inr (Or.inr (Or.inr (Or.inr (Or.inr (Or.inr (Or.inr (Or.inr (Or.inr (Or.inr (Or.inl hZq))))))))))))
              have hJ := jM80
              have rM80_1 := J_sl1 (M := M80) hJ
              have rM80_7 := J_sl7 (M := M80) hJ
              have rM80_12 := J_sl12 (M := M80) hJ
              have rM80_13 := J_sl13 (M := M80) hJ
              have rM80_14 := J_sl14 (M := M80) hJ
              have rM80_15 := J_sl15 (M := M80) hJ
              have mM80_1 : (M80.1 175 1).toInt = (M78.1 175 1).toInt := tl_slot (h81.1 175 1 (show ¬ ((175 = 175 ∧ 1 = 14) ∨ (175 = 175 ∧ 1 = 15)) by decide))
              have mM80_7 : (M80.1 175 7).toInt = (M78.1 175 7).toInt := tl_slot (h81.1 175 7 (show ¬ ((175 = 175 ∧ 7 = 14) ∨ (175 = 175 ∧ 7 = 15)) by decide))
              have mM80_12 : (M80.1 175 12).toInt = (M78.1 175 12).toInt := tl_slot (h81.1 175 12 (show ¬ ((175 = 175 ∧ 12 = 14) ∨ (175 = 175 ∧ 12 = 15)) by decide))
              have mM80_13 : (M80.1 175 13).toInt = (M78.1 175 13).toInt := tl_slot (h81.1 175 13 (show ¬ ((175 = 175 ∧ 13 = 14) ∨ (175 = 175 ∧ 13 = 15)) by decide))
              have Pcs_M80 : li_cs (M80.1 182) (hBZq) ((min TY 76)) ((x59 : Int32).toInt + 1) ((M80.1 175 15).toInt) := li_cs_tr (funext fun i => h81.1 182 i (show ¬ ((182 = 175 ∧ i = 14) ∨ (182 = 175 ∧ i = 15)) by first | (simp; done) | omega)) rfl rfl (by omega) (fun h9 => Int.le_antisymm (by omega) (by omega)) Pcs_M78
              have Pce_M80 : li_ce (M80.1 177) (g7) := li_ce_tr (funext fun i => h81.1 177 i (show ¬ ((177 = 175 ∧ i = 14) ∨ (177 = 175 ∧ i = 15)) by first | (simp; done) | omega)) rfl Pce_M78
              have bM80 : M80.2.2 0 = some 180 := (h81.2.2 0 (fun h9 => by first | exact (h9 : False).elim | (simp at h9; done) | omega)).trans bM78
              have s86 : (((M80.1 175 15).toInt = -1 ∧ 0 ≤ R1 ∧ (M80.1 175 14).toInt = Q1Zq + 1 ∧ rd_ch (li_by (M63.1 180)) (min TY 76) Q1Zq = 58) ∨ (¬ (M80.1 175 15).toInt = -1 ∧ OK = 0 ∧ QQ = (M80.1 175 15).toInt)) ∧ (M78.1 175 14).toInt ≤ (M80.1 175 14).toInt ∧ (M80.1 175 14).toInt ≤ min TY 76 := by
                rcases s79 with c | c
                · have hcZq := ch1 (Int.le_antisymm (by omega) (by omega))
                  have hw : (M78.1 175 15).toInt = -1 := Int.le_antisymm (by omega) (by omega)
                  by_cases e9Zq : (li_hr M78).toInt = (58 : Int32).toInt
                  · have u := nM80.1 hw e9Zq; exact ⟨Or.inl ⟨u.2.1, c.2.1, Int.le_antisymm (by omega) (by omega), Int.le_antisymm (by omega) (by omega)⟩, by omega, Int.le_min.mpr ⟨by omega, by omega⟩⟩
                  · have u := nM80.2.1 hw e9Zq; have u2Zq := stq1.2 c.2.1 (fun h9 => e9Zq (Int.le_antisymm (by omega) (by omega))); exact ⟨Or.inr ⟨by omega, u2Zq.1, Int.le_antisymm (by omega) (by omega)⟩, by omega, by omega⟩
                · have u := nM80.2.2 (fun h9 => c.1 (Int.le_antisymm (by omega) (by omega))); exact ⟨Or.inr ⟨fun h9 => c.1 (Int.le_antisymm (by omega) (by omega)), c.2.1, Int.le_antisymm (by omega) (by omega)⟩, by omega, by omega⟩
              have a86 := s86.2
              have s86 := s86.1
              clear nM80 s79 ch1 stq1
              refine li_aload_n 2 dX12_people_89 rfl ?_
              refine li_getr (k := 16) (N := 52) (T := TX12) (C0 := RX12) dX12_people_90 (by decide) sh_175 rfl rfl (by decide) (by decide) li_in12 w_1420 ?_
              refine li_iconst 2 dX12_people_93 (by decide) ?_
              refine li_iload_n 1 dX12_people_94 rfl ?_
              refine li_imul dX12_people_95 ?_
              refine li_top (fun x82 ex82 => ?_)
              have z2 : (2 : Int32).toInt = 2 := rfl
              try (have tx82 : x82.toInt = 2 * (x59 : Int32).toInt := tl_mul ex82 (show -2147483648 ≤ 2 * (x59 : Int32).toInt ∧ 2 * (x59 : Int32).toInt ≤ 2147483647 from ⟨(by omega), (by omega)⟩))
              refine li_iconst 1 dX12_people_96 (by decide) ?_
              refine li_iadd dX12_people_97 ?_
              refine li_top (fun x83 ex83 => ?_)
              have z1 : (1 : Int32).toInt = 1 := rfl
              try (have tx83 : x83.toInt = (x82 : Int32).toInt + (1 : Int32).toInt := tl_add ex83 ⟨by omega, by omega⟩)
              refine li_aload_n 2 dX12_people_98 rfl ?_
              refine li_iconst 3 dX12_people_99 (by decide) ?_
              obtain ⟨R2, Q2Zq, nq2⟩ : ∃ r q, li_mq (M80.1 180) (min TY 76) (3) (-1) ((M80.1 175 14).toInt) r q := li_nq_self
              have nq3 : li_mq (M63.1 180) (min TY 76) (3) (-1) ((M80.1 175 14).toInt) R2 Q2Zq := li_mq_tr (fs_180 hf hf79 (fun i => (show ¬ (180 = 176 ∨ 180 = 177 ∨ 180 = 178 ∨ 180 = 182 ∨ 180 = 1000 ∨ (180 = 175 ∧ i = 1) ∨ (180 = 175 ∧ i = 10) ∨ (180 = 175 ∧ i = 12) ∨ (180 = 175 ∧ i = 13) ∨ (180 = 175 ∧ i = 14) ∨ (180 = 175 ∧ i = 15) ∨ (180 = 175 ∧ i = 23) ∨ (180 = 175 ∧ i = 48) ∨ (180 = 175 ∧ i = 7)) by first | (simp; done) | omega))) rfl rfl rfl rfl rfl rfl nq2
              have stq2 := li_pq_b pq0 (by omega) nq1 nq3
              have emn : min (M80.1 175 12).toInt (M80.1 175 13).toInt = min TY 76 := by rw [show (M80.1 175 12).toInt = TY from Int.le_antisymm (by omega) (by omega), show (M80.1 175 13).toInt = 76 from Int.le_antisymm (by omega) (by omega)]
              have z3 : (3 : Int32).toInt = 3 := rfl
              refine li_callV (n := 1) (As := [.int 3]) dX12_people_100 (k5_X12_number (d - 1) (by omega) 3 M80 hJ (by decide) bM80 _ _ (li_mq_tr rfl emn (by decide) rfl rfl rfl rfl nq2)) (by omega) (Nat.le_of_ble_eq_true rfl) w_1589 w_1591 w_45 w_112 w_1592 (by decide +kernel) rfl (by decide) sh_175 rfl rfl (Nat.le_of_ble_eq_true rfl) (fun r M85 h86 => ?_)
              obtain ⟨⟨x84, rfl, qx84⟩, h86, jM85⟩ := h86
              have gx84 := tl_rg x84
              have hf := li_fs_trans hf h86 (fun i k => fun hZq => Or.elim hZq (fun hZq => Or.inr (Or.inr (Or.inr (Or.inr (Or.inr (Or.inr (Or.inr (Or.inr (Or.inr (Or.inl hZq)))))))))) (fun hZq => Or.inr (Or.inr (Or.inr (Or.inr (Or.inr (Or.inr (Or.inr (Or.inr (Or.inr (Or.inr (Or.inl hZq))))))))))))
              have hJ := jM85
              have rM85_1 := J_sl1 (M := M85) hJ
              have rM85_7 := J_sl7 (M := M85) hJ
              have rM85_12 := J_sl12 (M := M85) hJ
              have rM85_13 := J_sl13 (M := M85) hJ
              have rM85_14 := J_sl14 (M := M85) hJ
              have rM85_15 := J_sl15 (M := M85) hJ
              have mM85_1 : (M85.1 175 1).toInt = (M80.1 175 1).toInt := tl_slot (h86.1 175 1 (show ¬ ((175 = 175 ∧ 1 = 14) ∨ (175 = 175 ∧ 1 = 15)) by decide))
              have mM85_7 : (M85.1 175 7).toInt = (M80.1 175 7).toInt := tl_slot (h86.1 175 7 (show ¬ ((175 = 175 ∧ 7 = 14) ∨ (175 = 175 ∧ 7 = 15)) by decide))
              have mM85_12 : (M85.1 175 12).toInt = (M80.1 175 12).toInt := tl_slot (h86.1 175 12 (show ¬ ((175 = 175 ∧ 12 = 14) ∨ (175 = 175 ∧ 12 = 15)) by decide))
              have mM85_13 : (M85.1 175 13).toInt = (M80.1 175 13).toInt := tl_slot (h86.1 175 13 (show ¬ ((175 = 175 ∧ 13 = 14) ∨ (175 = 175 ∧ 13 = 15)) by decide))
              have Pcs_M85 : li_cs (M85.1 182) (hBZq) ((min TY 76)) ((x59 : Int32).toInt + 1) ((M85.1 175 15).toInt) := li_cs_tr (funext fun i => h86.1 182 i (show ¬ ((182 = 175 ∧ i = 14) ∨ (182 = 175 ∧ i = 15)) by first | (simp; done) | omega)) rfl rfl (by omega) (fun h9 => Int.le_antisymm (by omega) (by omega)) Pcs_M80
              have Pce_M85 : li_ce (M85.1 177) (g7) := li_ce_tr (funext fun i => h86.1 177 i (show ¬ ((177 = 175 ∧ i = 14) ∨ (177 = 175 ∧ i = 15)) by first | (simp; done) | omega)) rfl Pce_M80
              have bM85 : M85.2.2 0 = some 180 := (h86.2.2 0 (fun h9 => by first | exact (h9 : False).elim | (simp at h9; done) | omega)).trans bM80
              have em100 : min (M80.1 175 12).toInt (M80.1 175 13).toInt = min TY 76 := by rw [show (M80.1 175 12).toInt = TY from Int.le_antisymm (by omega) (by omega), show (M80.1 175 13).toInt = 76 from Int.le_antisymm (by omega) (by omega)]
              have a100 : (M80.1 175 14).toInt ≤ (M85.1 175 14).toInt ∧ (M85.1 175 14).toInt ≤ min TY 76 := ⟨qx84.2.2.1, by rw [← em100]; exact qx84.2.2.2 (by rw [em100]; omega)⟩
              have s100 : (¬ (M85.1 175 15).toInt = -1 ∧ OK = 0 ∧ QQ = (M85.1 175 15).toInt) ∨ ((M85.1 175 15).toInt = -1 ∧ 0 ≤ R1 ∧ rd_ch (li_by (M63.1 180)) (min TY 76) Q1Zq = 58 ∧ (M85.1 175 14).toInt = Q2Zq ∧ ((min TY 76 ≤ Q2Zq ∧ rd_ch (li_by (M63.1 180)) (min TY 76) Q2Zq = -1 ∧ OK = 1 ∧ QQ = Q2Zq ∧ MM = (x59 : Int32).toInt + 1) ∨ (Q2Zq < min TY 76 ∧ ¬ rd_ch (li_by (M63.1 180)) (min TY 76) Q2Zq = 59 ∧ OK = 0 ∧ QQ = Q2Zq) ∨ (0 ≤ R2 ∧ Q2Zq < min TY 76 ∧ rd_ch (li_by (M63.1 180)) (min TY 76) Q2Zq = 59))) := by
                rcases s86 with c | c
                · have hw : (M80.1 175 15).toInt = -1 := Int.le_antisymm (by omega) (by omega)
                  rcases stq2 (Int.le_antisymm (by omega) (by omega)) c.2.1 c.2.2.2 with t | t | t | t
                  · have u := (qx84.1 hw).1 t.1; exact Or.inl ⟨by omega, t.2.1, Int.le_antisymm (by omega) (by omega)⟩
                  · have u := (qx84.1 hw).2 t.1; exact Or.inr ⟨u.2.2, c.2.1, c.2.2.2, u.2.1, Or.inl ⟨t.2.1, t.2.2.1, t.2.2.2.1, t.2.2.2.2.1, t.2.2.2.2.2⟩⟩
                  · have u := (qx84.1 hw).2 t.1; exact Or.inr ⟨u.2.2, c.2.1, c.2.2.2, u.2.1, Or.inr (Or.inl ⟨t.2.1, t.2.2.1, t.2.2.2.1, t.2.2.2.2⟩)⟩
                  · have u := (qx84.1 hw).2 t.1; exact Or.inr ⟨u.2.2, c.2.1, c.2.2.2, u.2.1, Or.inr (Or.inr ⟨t.1, t.2.1, t.2.2⟩)⟩
                · have u := qx84.2.1 (fun h9 => c.1 (Int.le_antisymm (by omega) (by omega))); exact Or.inl ⟨fun h9 => c.1 (Int.le_antisymm (by omega) (by omega)), c.2.1, Int.le_antisymm (by omega) (by omega)⟩
              have go100 : (M85.1 175 15).toInt = -1 → rd_ch (li_by (M63.1 180)) (min TY 76) Q2Zq = 59 → li_pq (li_by (M63.1 180)) (min TY 76) (6 - PEZq - (x59 : Int32).toInt - 1) (Q2Zq + 1) ((x59 : Int32).toInt + 1) OK QQ MM := fun h9 h8 => by
                rcases s100 with c | ⟨_, c2, c3, _, t⟩
                · exact absurd h9 c.1
                · rcases t with t | t | t
                  · exact absurd (t.2.1.symm.trans h8) (by decide)
                  · exact absurd h8 t.2.1
                  · rcases s86 with e9Zq | e9Zq
                    · exact li_pq_go pq0 (by omega) nq1 (li_nq_tr rfl rfl rfl rfl e9Zq.2.2.1.symm rfl rfl nq3) ⟨c2, c3, t.1, t.2.1, t.2.2⟩
                    · exact absurd ((qx84.2.1 e9Zq.1).2.2.symm.trans h9) e9Zq.1
              have pe100 : (M85.1 175 15).toInt = -1 → (M80.1 175 14).toInt = Q1Zq + 1 := fun h9 => by rcases s86 with e9Zq | e9Zq; exact e9Zq.2.2.1; exact absurd ((qx84.2.1 e9Zq.1).2.2.symm.trans h9) e9Zq.1
              clear qx84 stq2 s86 em100
              refine li_iast dX12_people_103 (by decide) sh_182 (tl_in ⟨by omega, by omega⟩) ?_
              refine li_nm (fun M87 eM87 => ?_)
              have hf := li_fs_ui hf (Or.inr (Or.inr (Or.inr (Or.inl rfl)))) eM87
              have hJ := hJ.st (by decide) (li_el_free (by first | (unfold li_led; decide) | (unfold li_led; omega)) (by decide) (by decide) (by first | (unfold li_rq; decide) | (unfold li_rq; omega))) eM87
              have rM87_1 := J_sl1 (M := M87) hJ
              have rM87_7 := J_sl7 (M := M87) hJ
              have rM87_12 := J_sl12 (M := M87) hJ
              have rM87_13 := J_sl13 (M := M87) hJ
              have rM87_14 := J_sl14 (M := M87) hJ
              have rM87_15 := J_sl15 (M := M87) hJ
              have mM87_1 : (M87.1 175 1).toInt = (M85.1 175 1).toInt := by rw [eM87, li_ui_at, if_neg (by decide)]
              have mM87_7 : (M87.1 175 7).toInt = (M85.1 175 7).toInt := by rw [eM87, li_ui_at, if_neg (by decide)]
              have mM87_12 : (M87.1 175 12).toInt = (M85.1 175 12).toInt := by rw [eM87, li_ui_at, if_neg (by decide)]
              have mM87_13 : (M87.1 175 13).toInt = (M85.1 175 13).toInt := by rw [eM87, li_ui_at, if_neg (by decide)]
              have mM87_14 : (M87.1 175 14).toInt = (M85.1 175 14).toInt := by rw [eM87, li_ui_at, if_neg (by decide)]
              have mM87_15 : (M87.1 175 15).toInt = (M85.1 175 15).toInt := by rw [eM87, li_ui_at, if_neg (by decide)]
              have Pce_M87 : li_ce (M87.1 177) (g7) := li_ce_tr (li_cell_ui eM87 (by decide)) rfl Pce_M85
              have Pcs_M87 : li_cs (M87.1 182) (hBZq) ((min TY 76)) ((x59 : Int32).toInt + 1) ((M87.1 175 15).toInt) := li_cs_odd Pcs_M85 eM87 ((x59 : Int32).toInt) (Int.le_antisymm (by omega) (by omega)) (by omega) (by omega) (fun h9 => Int.le_antisymm (by omega) (by omega))
              have bM87 : M87.2.2 0 = some 180 := by rw [eM87]; exact bM85
              have em103 : min (M87.1 175 12).toInt (M87.1 175 13).toInt = min TY 76 := by rw [show (M87.1 175 12).toInt = TY from Int.le_antisymm (by omega) (by omega), show (M87.1 175 13).toInt = 76 from Int.le_antisymm (by omega) (by omega)]
              have ch2 : (M87.1 175 14).toInt = Q2Zq → (li_hr M87).toInt = rd_ch (li_by (M63.1 180)) (min TY 76) Q2Zq := fun h9 => hr_pt bM87 (by omega) (fs_180 hf79 hf (fun i => (show ¬ (180 = 176 ∨ 180 = 177 ∨ 180 = 178 ∨ 180 = 182 ∨ 180 = 1000 ∨ (180 = 175 ∧ i = 1) ∨ (180 = 175 ∧ i = 10) ∨ (180 = 175 ∧ i = 12) ∨ (180 = 175 ∧ i = 13) ∨ (180 = 175 ∧ i = 14) ∨ (180 = 175 ∧ i = 15) ∨ (180 = 175 ∧ i = 23) ∨ (180 = 175 ∧ i = 48) ∨ (180 = 175 ∧ i = 7)) by first | (simp; done) | omega))) em103 h9
              have q103 : (M87.1 175 15).toInt = -1 → (M87.1 175 14).toInt = Q2Zq := fun h9 => by rcases s100 with c | c; exact absurd (show (M85.1 175 15).toInt = -1 from Int.le_antisymm (by omega) (by omega)) c.1; exact (show (M87.1 175 14).toInt = (M85.1 175 14).toInt from Int.le_antisymm (by omega) (by omega)).trans c.2.2.2.1
              have Ppx_M87 : li_px (M87.1 180) (min TY 76) (6 - PEZq - (x59 : Int32).toInt - 1) ((M87.1 175 14).toInt) ((x59 : Int32).toInt + 1) (OK) (QQ) (MM) ((M87.1 175 15).toInt) ((li_hr M87).toInt) := fun h8 h7 => li_pq_tr (congrArg li_by (fs_180 hf79 hf (fun i => (show ¬ (180 = 176 ∨ 180 = 177 ∨ 180 = 178 ∨ 180 = 182 ∨ 180 = 1000 ∨ (180 = 175 ∧ i = 1) ∨ (180 = 175 ∧ i = 10) ∨ (180 = 175 ∧ i = 12) ∨ (180 = 175 ∧ i = 13) ∨ (180 = 175 ∧ i = 14) ∨ (180 = 175 ∧ i = 15) ∨ (180 = 175 ∧ i = 23) ∨ (180 = 175 ∧ i = 48) ∨ (180 = 175 ∧ i = 7)) by first | (simp; done) | omega)))) rfl (Int.le_antisymm (by omega) (by omega)) (by rw [q103 h8]) rfl rfl rfl rfl (go100 (Int.le_antisymm (by omega) (by omega)) ((ch2 (q103 h8)).symm.trans h7))
              have nB3 : li_nq hBZq (min TY 76) 3 (-1) ((M80.1 175 14).toInt) R2 Q2Zq := li_nq_tr hbM rfl rfl rfl rfl rfl rfl nq3
              have Ppy_M87 : li_py (M87.1 180) (hBZq) ((min TY 76)) ((M87.1 175 14).toInt) ((x59 : Int32).toInt + 1) ((M87.1 175 15).toInt) ((li_hr M87).toInt) := fun h8 h7 => li_pp_st (f := hBZq) (f' := hBZq) pjq nqB (li_nq_tr rfl rfl rfl rfl (pe100 (Int.le_antisymm (by omega) (by omega))).symm rfl rfl nB3) (by omega) (by rw [q103 h8]) rfl
              refine li_pick [0, 1, 2] [(2, .int x58), (1, .int x59), (0, .ref (Z.2.2 175))] rfl ?_
              exact J104  M87 hf hJ ⟨(by omega), (by omega), (by omega), (fun hq0 => ⟨(Int.le_antisymm (by omega) (by omega)), (Int.le_antisymm (by omega) (by omega))⟩), (fun hq0 => (by omega)), (by omega), (Int.le_antisymm (by omega) (by omega)), (Int.le_antisymm (by omega) (by omega)), (Int.le_antisymm (by omega) (by omega)), (by omega), (by omega), (Int.le_antisymm (by omega) (by omega))⟩ (by first | exact li_ce_tr rfl rfl Pce_M87) (by first | exact li_cs_tr rfl rfl rfl (by omega) (fun h9 => Int.le_antisymm (by omega) (by omega)) Pcs_M87 | exact li_cs_0 (by omega) | exact li_cs_no (by omega)) (by first | exact li_px_tr rfl (Int.le_antisymm (by omega) (by omega)) (Int.le_antisymm (by omega) (by omega)) (Int.le_antisymm (by omega) (by omega)) (Int.le_antisymm (by omega) (by omega)) (Int.le_antisymm (by omega) (by omega)) (Int.le_antisymm (by omega) (by omega)) (Int.le_antisymm (by omega) (by omega)) (Int.le_antisymm (by omega) (by omega)) (Int.le_antisymm (by omega) (by omega)) Ppx_M87 | exact li_px_no (by omega)) (by first | exact li_py_tr rfl rfl rfl (Int.le_antisymm (by omega) (by omega)) (Int.le_antisymm (by omega) (by omega)) (Int.le_antisymm (by omega) (by omega)) (Int.le_antisymm (by omega) (by omega)) Ppy_M87 | exact li_py_no (by omega)) bM87
            · have tc68 : x67.toInt = 6 := tl_eq c68
              refine li_aload_n 2 dX12_people_59 rfl ?_
              refine li_aload_n 2 dX12_people_60 rfl ?_
              refine li_geti (k := 14) (N := 52) (T := TX12) (C0 := RX12) dX12_people_61 (by decide) sh_175 rfl rfl (by decide) li_in12 w_1418 ?_
              refine li_top (fun x88 ex88 => ?_)
              have gx88 : 0 ≤ x88.toInt ∧ x88.toInt ≤ 81 := by rw [ex88]; exact J_sl14 hJ
              have mx88 : x88.toInt = (M63.1 175 14).toInt := tl_slot ex88
              refine li_callV (n := 1) (As := [.int x88]) dX12_people_64 (k_X12_fault (d - 1) (by omega) x88 M63 hJ ⟨by omega, by omega⟩) (by omega) (Nat.le_of_ble_eq_true rfl) w_1585 w_1587 w_44 w_112 w_1588 (by decide +kernel) rfl (by decide) sh_175 rfl rfl (Nat.le_of_ble_eq_true rfl) (fun r M90 h91 => ?_)
              obtain ⟨rfl, h91, jM90, nM90⟩ := h91
              have hf := li_fs_trans hf h91 (fun i k => fun hZq => Or.inr (Or.inr (Or.inr (Or.inr (Or.inr (Or.inr (Or.inr (Or.inr (Or.inr (Or.inr (Or.inl hZq)))))))))))
              have kM90 : (li_hr M90).toInt = (li_hr M63).toInt := li_hr_fs h91 (show ¬ ((175 = 175 ∧ 12 = 15)) by decide) (show ¬ ((175 = 175 ∧ 13 = 15)) by decide) (show ¬ ((175 = 175 ∧ 14 = 15)) by decide) (show ¬ ((1000 = 175 ∧ 0 = 15)) by decide) (fun q i hZq => (show ¬ ((q = 175 ∧ i = 15)) by first | (unfold li_rq at hZq; rcases hZq with rfl | rfl | rfl <;> simp; done) | (unfold li_rq at hZq; omega))) (by assumption)
              have hJ := jM90
              have rM90_1 := J_sl1 (M := M90) hJ
              have rM90_7 := J_sl7 (M := M90) hJ
              have rM90_12 := J_sl12 (M := M90) hJ
              have rM90_13 := J_sl13 (M := M90) hJ
              have rM90_14 := J_sl14 (M := M90) hJ
              have rM90_15 := J_sl15 (M := M90) hJ
              have mM90_1 : (M90.1 175 1).toInt = (M63.1 175 1).toInt := tl_slot (h91.1 175 1 (show ¬ ((175 = 175 ∧ 1 = 15)) by decide))
              have mM90_7 : (M90.1 175 7).toInt = (M63.1 175 7).toInt := tl_slot (h91.1 175 7 (show ¬ ((175 = 175 ∧ 7 = 15)) by decide))
              have mM90_12 : (M90.1 175 12).toInt = (M63.1 175 12).toInt := tl_slot (h91.1 175 12 (show ¬ ((175 = 175 ∧ 12 = 15)) by decide))
              have mM90_13 : (M90.1 175 13).toInt = (M63.1 175 13).toInt := tl_slot (h91.1 175 13 (show ¬ ((175 = 175 ∧ 13 = 15)) by decide))
              have mM90_14 : (M90.1 175 14).toInt = (M63.1 175 14).toInt := tl_slot (h91.1 175 14 (show ¬ ((175 = 175 ∧ 14 = 15)) by decide))
              have Pce_M90 : li_ce (M90.1 177) (g7) := li_ce_tr (funext fun i => h91.1 177 i (show ¬ ((177 = 175 ∧ i = 15)) by first | (simp; done) | omega)) rfl Pce_M63
              have bM90 : M90.2.2 0 = some 180 := (h91.2.2 0 (fun h9 => by first | exact (h9 : False).elim | (simp at h9; done) | omega)).trans bM63
              have pz := li_pq_z (Ppw_M63 (by omega) (by omega)) (by omega)
              refine li_goto 104 dX12_people_67 (by decide) ?_
              refine li_pick [0, 1, 2] [(2, .int x58), (1, .int x59), (0, .ref (Z.2.2 175))] rfl ?_
              exact J104  M90 hf hJ ⟨(by omega), (by omega), (by omega), (fun hq0 => ⟨(Int.le_antisymm (by omega) (by omega)), (Int.le_antisymm (by omega) (by omega))⟩), (fun hq0 => (by omega)), (by omega), (Int.le_antisymm (by omega) (by omega)), (Int.le_antisymm (by omega) (by omega)), (Int.le_antisymm (by omega) (by omega)), (by omega), (by omega), (Int.le_antisymm (by omega) (by omega))⟩ (by first | exact li_ce_tr rfl rfl Pce_M90) (by first | exact li_cs_0 (by omega) | exact li_cs_no (by omega)) (by first | exact li_px_no (by omega)) (by first | exact li_py_no (by omega)) bM90
          · skip
            refine li_if_eq 117 dX12_people_45 (by decide) (fun c => ?_) (fun c => absurd rfl c)
            refine li_pick [0, 1, 2] [(2, .int x58), (1, .int x59), (0, .ref (Z.2.2 175))] rfl ?_
            exact J117 x58 x59 M63 hf hJ ⟨(by omega), (by omega), (by omega), (fun hq0 => ⟨(Int.le_antisymm (by omega) (by omega)), (Int.le_antisymm (by omega) (by omega))⟩), (fun hq0 => (by omega)), (by omega), (Int.le_antisymm (by omega) (by omega)), (Int.le_antisymm (by omega) (by omega)), (Int.le_antisymm (by omega) (by omega)), (by omega), (by omega), (Int.le_antisymm (by omega) (by omega))⟩ (by first | exact li_ce_tr rfl rfl Pce_M63) (by first | exact li_cs_tr rfl rfl rfl (by omega) (fun h9 => Int.le_antisymm (by omega) (by omega)) Pcs_M63 | exact li_cs_0 (by omega) | exact li_cs_no (by omega)) bM63
    have z1 : (1 : Int32).toInt = 1 := rfl
    have z0 : (0 : Int32).toInt = 0 := rfl
    exact L37 _ 1 0 M6Zq (Nat.lt_succ_self _) hf hJ ⟨(by omega), (by omega), (by omega), (by omega), (fun hq0 => ⟨(Int.le_antisymm (by omega) (by omega)), (Int.le_antisymm (by omega) (by omega)), (Int.le_antisymm (by omega) (by omega))⟩), (fun hq0 => ⟨(Int.le_antisymm (by omega) (by omega)), (Int.le_antisymm (by omega) (by omega))⟩), (fun hq0 hq1 => (by omega)), (fun hq0 => (Int.le_antisymm (by omega) (by omega))), (by omega), (Int.le_antisymm (by omega) (by omega)), (Int.le_antisymm (by omega) (by omega)), (Int.le_antisymm (by omega) (by omega)), (by omega), (by omega), (Int.le_antisymm (by omega) (by omega))⟩ (by first | exact li_ce_tr rfl rfl Pce_M6) (by first | exact li_cs_0 (by omega) | exact li_cs_no (by omega)) (by first | exact li_pw_px px1 rfl (Int.le_antisymm (by omega) (by omega)) (Int.le_antisymm (by omega) (by omega)) (Int.le_antisymm (by omega) (by omega)) (fun h8 h7 => ⟨Int.le_antisymm (by omega) (by omega), Int.le_antisymm (by omega) (by omega), Int.le_antisymm (by omega) (by omega)⟩) | exact li_pw_0 Ppl_M6 rfl (Int.le_antisymm (by omega) (by omega)) (Int.le_antisymm (by omega) (by omega)) (Int.le_antisymm (by omega) (by omega)) (Int.le_antisymm (by omega) (by omega))) (by first | exact li_pj_0 (Int.le_antisymm (by omega) (by omega)) (Int.le_antisymm (by omega) (by omega)) | exact li_pj_py py1 (Int.le_antisymm (by omega) (by omega)) (fun h8 h7 => ⟨Int.le_antisymm (by omega) (by omega), Int.le_antisymm (by omega) (by omega), Int.le_antisymm (by omega) (by omega)⟩)) bM6
  · have tc8 : x7.toInt = 0 := tl_eq c8Zq
    refine li_iconst 0 dX12_people_31 (by decide) ?_
    have z0 : (0 : Int32).toInt = 0 := rfl
    exact li_iret dX12_people_32 rfl rfl ⟨⟨_, rfl, (by refine ⟨by refine ⟨?_, ?_⟩ <;> omega, ?_⟩; first | exact li_ss_tr rfl rfl rfl rfl rfl (by omega) Pss_M6 | exact li_ss_0 Pce_M6 (by omega))⟩, hf, hJ, (by omega)⟩
