set_option maxRecDepth 100000 in
set_option maxHeartbeats 4000000 in
theorem k12_X12_grammar {l : Launch} {Z : li_Z} (d : Nat) (hdZq : 4 ≤ d) (M0 : li_M) (hJ : li_J M0) (TY L0Zq : Int) (hTY : TY = (M0.1 175 7).toInt) (hL0 : L0Zq = (M0.1 175 38).toInt) (OK QQ MM : Int) (Pgl_M0 : li_gl (M0.1 180) (TY) (10) (0) (0) (OK) (QQ) (MM)) (hBZq : Nat → Int32) (hhB : li_by (M0.1 180) = hBZq) (g3Zq : Nat → Int32) (hg3 : M0.1 193 = g3Zq) : li_Met l Z YX12_grammar d [.ref (Z.2.2 175)] M0 (fun r M' => (∃ x : Int32, r = some (.int x) ∧ (((TY = 0 ∧ x.toInt = 0) ∨ (0 < TY ∧ OK = 1 ∧ x.toInt = MM) ∨ (0 < TY ∧ OK = 0 ∧ x.toInt = -1 - QQ ∧ 0 ≤ QQ ∧ QQ ≤ TY)) ∧ ((x.toInt < 0 ∧ (M'.1 175 38).toInt = L0Zq ∧ M'.1 193 = g3Zq) ∨ (0 ≤ x.toInt ∧ (M'.1 175 38).toInt = x.toInt ∧ li_gk (M'.1 193) hBZq TY (3 * x.toInt) (x.toInt))))) ∧ li_fs (fun i k => i = 193 ∨ i = 194 ∨ i = 1000 ∨ (i = 175 ∧ k = 10) ∨ (i = 175 ∧ k = 12) ∨ (i = 175 ∧ k = 13) ∨ (i = 175 ∧ k = 14) ∨ (i = 175 ∧ k = 15) ∨ (i = 175 ∧ k = 38) ∨ (i = 175 ∧ k = 7)) M0 M' ∧ li_J M' ∧ (M'.1 175 7).toInt = 0) := by
  refine li_enter (by decide +kernel) (Nat.le_of_ble_eq_true rfl) ?_
  show li_T l Z YX12_grammar d 0 [(0, .ref (Z.2.2 175))] [] M0 _
  have hf : li_fs (fun i k => i = 193 ∨ i = 194 ∨ i = 1000 ∨ (i = 175 ∧ k = 10) ∨ (i = 175 ∧ k = 12) ∨ (i = 175 ∧ k = 13) ∨ (i = 175 ∧ k = 14) ∨ (i = 175 ∧ k = 15) ∨ (i = 175 ∧ k = 38) ∨ (i = 175 ∧ k = 7)) M0 M0 := li_fs_refl
  have rM0_7 := J_sl7 (M := M0) hJ
  have rM0_12 := J_sl12 (M := M0) hJ
  have rM0_13 := J_sl13 (M := M0) hJ
  have rM0_14 := J_sl14 (M := M0) hJ
  have rM0_15 := J_sl15 (M := M0) hJ
  have rM0_38 := J_sl38 (M := M0) hJ
  have Pcx_M0 : li_cx (M0.1 193) (g3Zq) := hg3
  refine li_aload_n 0 dX12_grammar_0 rfl ?_
  refine li_iconst 0 dX12_grammar_1 (by decide) ?_
  refine li_puti (k := 10) (N := 52) (T := TX12) (C0 := RX12) dX12_grammar_2 (by decide) sh_175 rfl rfl (by decide) li_in12 tyX12_ok nmX12 rfl rfl rfl rfl w_1414 ?_
  refine li_nm (fun M1Zq eM1 => ?_)
  have hf := li_fs_ui hf (Or.inr (Or.inr (Or.inr (Or.inl ⟨rfl, rfl⟩)))) eM1
  have z0 : (0 : Int32).toInt = 0 := rfl
  have hJ := hJ.put (k := 10) (by decide) (rg_free rfl) eM1
  have rM1_7 := J_sl7 (M := M1Zq) hJ
  have rM1_12 := J_sl12 (M := M1Zq) hJ
  have rM1_13 := J_sl13 (M := M1Zq) hJ
  have rM1_14 := J_sl14 (M := M1Zq) hJ
  have rM1_15 := J_sl15 (M := M1Zq) hJ
  have rM1_38 := J_sl38 (M := M1Zq) hJ
  have mM1_7 : (M1Zq.1 175 7).toInt = (M0.1 175 7).toInt := by rw [eM1, li_ui_at, if_pos rfl, if_neg (by decide)]
  have mM1_12 : (M1Zq.1 175 12).toInt = (M0.1 175 12).toInt := by rw [eM1, li_ui_at, if_pos rfl, if_neg (by decide)]
  have mM1_13 : (M1Zq.1 175 13).toInt = (M0.1 175 13).toInt := by rw [eM1, li_ui_at, if_pos rfl, if_neg (by decide)]
  have mM1_14 : (M1Zq.1 175 14).toInt = (M0.1 175 14).toInt := by rw [eM1, li_ui_at, if_pos rfl, if_neg (by decide)]
  have mM1_15 : (M1Zq.1 175 15).toInt = (M0.1 175 15).toInt := by rw [eM1, li_ui_at, if_pos rfl, if_neg (by decide)]
  have mM1_38 : (M1Zq.1 175 38).toInt = (M0.1 175 38).toInt := by rw [eM1, li_ui_at, if_pos rfl, if_neg (by decide)]
  have Pgl_M1 : li_gl (M1Zq.1 180) (TY) (10) (0) (0) (OK) (QQ) (MM) := li_gl_tr (li_cell_ui eM1 (by decide)) (Int.le_antisymm (by omega) (by omega)) (Int.le_antisymm (by omega) (by omega)) (Int.le_antisymm (by omega) (by omega)) (Int.le_antisymm (by omega) (by omega)) (Int.le_antisymm (by omega) (by omega)) (Int.le_antisymm (by omega) (by omega)) (Int.le_antisymm (by omega) (by omega)) Pgl_M0
  have Pcx_M1 : li_cx (M1Zq.1 193) (g3Zq) := li_cx_tr (li_cell_ui eM1 (by decide)) rfl Pcx_M0
  refine li_aload_n 0 dX12_grammar_5 rfl ?_
  refine li_aload_n 0 dX12_grammar_6 rfl ?_
  refine li_getr (k := 6) (N := 52) (T := TX12) (C0 := RX12) dX12_grammar_7 (by decide) sh_175 rfl rfl (by decide) (by decide) li_in12 w_1410 ?_
  refine li_aload_n 0 dX12_grammar_10 rfl ?_
  refine li_geti (k := 7) (N := 52) (T := TX12) (C0 := RX12) dX12_grammar_11 (by decide) sh_175 rfl rfl (by decide) li_in12 w_1411 ?_
  refine li_top (fun x2Zq ex2Zq => ?_)
  have gx2 : 0 ≤ x2Zq.toInt ∧ x2Zq.toInt ≤ 80 := by rw [ex2Zq]; exact J_sl7 hJ
  have mx2 : x2Zq.toInt = (M1Zq.1 175 7).toInt := tl_slot ex2Zq
  refine li_bipush 80 dX12_grammar_14 (by decide) ?_
  have z80 : (80 : Int32).toInt = 80 := rfl
  refine li_callV (n := 3) (As := [.ref (Z.2.2 180), .int x2Zq, .int 80]) dX12_grammar_16 (k_X12_begin (d - 1) (by first | (unfold li_rq; decide) | (unfold li_rq; omega)) x2Zq 80 M1Zq hJ (show 0 ≤ (x2Zq : Int32).toInt ∧ (x2Zq : Int32).toInt ≤ (li_qn 180 : Int) by have := li_qn_fix; omega) (by omega)) (by omega) (Nat.le_of_ble_eq_true rfl) w_1577 w_1579 w_42 w_112 w_1580 (by decide +kernel) rfl (by decide) sh_175 rfl rfl (Nat.le_of_ble_eq_true rfl) (fun r M4Zq h5 => ?_)
  obtain ⟨rfl, h5, jM4, nM4⟩ := h5
  have hf := li_fs_trans hf h5 (fun i k => fun hZq => Or.elim hZq (fun hZq => Or.inr (Or.inr (Or.inr (Or.inr (Or.inl hZq))))) (fun hZq => Or.elim hZq (fun hZq => Or.inr (Or.inr (Or.inr (Or.inr (Or.inr (Or.inl hZq)))))) (fun hZq => Or.elim hZq (fun hZq => Or.inr (Or.inr (Or.inr (Or.inr (Or.inr (Or.inr (Or.inl hZq))))))) (fun hZq => Or.elim hZq (fun hZq => Or.inr (Or.inr (Or.inr (Or.inr (Or.inr (Or.inr (Or.inr (Or.inl hZq)))))))) (fun hZq => Or.inr (Or.inr (Or.inl hZq)))))))
  have hJ := jM4
  have rM4_7 := J_sl7 (M := M4Zq) hJ
  have rM4_12 := J_sl12 (M := M4Zq) hJ
  have rM4_13 := J_sl13 (M := M4Zq) hJ
  have rM4_14 := J_sl14 (M := M4Zq) hJ
  have rM4_15 := J_sl15 (M := M4Zq) hJ
  have rM4_38 := J_sl38 (M := M4Zq) hJ
  have mM4_7 : (M4Zq.1 175 7).toInt = (M1Zq.1 175 7).toInt := tl_slot (h5.1 175 7 (show ¬ ((175 = 175 ∧ 7 = 12) ∨ (175 = 175 ∧ 7 = 13) ∨ (175 = 175 ∧ 7 = 14) ∨ (175 = 175 ∧ 7 = 15) ∨ 175 = 1000) by decide))
  have mM4_38 : (M4Zq.1 175 38).toInt = (M1Zq.1 175 38).toInt := tl_slot (h5.1 175 38 (show ¬ ((175 = 175 ∧ 38 = 12) ∨ (175 = 175 ∧ 38 = 13) ∨ (175 = 175 ∧ 38 = 14) ∨ (175 = 175 ∧ 38 = 15) ∨ 175 = 1000) by decide))
  have Pgl_M4 : li_gl (M4Zq.1 180) (TY) (10) (0) (0) (OK) (QQ) (MM) := li_gl_tr (funext fun i => h5.1 180 i (show ¬ ((180 = 175 ∧ i = 12) ∨ (180 = 175 ∧ i = 13) ∨ (180 = 175 ∧ i = 14) ∨ (180 = 175 ∧ i = 15) ∨ 180 = 1000) by first | (simp; done) | omega)) (Int.le_antisymm (by omega) (by omega)) (Int.le_antisymm (by omega) (by omega)) (Int.le_antisymm (by omega) (by omega)) (Int.le_antisymm (by omega) (by omega)) (Int.le_antisymm (by omega) (by omega)) (Int.le_antisymm (by omega) (by omega)) (Int.le_antisymm (by omega) (by omega)) Pgl_M1
  have Pcx_M4 : li_cx (M4Zq.1 193) (g3Zq) := li_cx_tr (funext fun i => h5.1 193 i (show ¬ ((193 = 175 ∧ i = 12) ∨ (193 = 175 ∧ i = 13) ∨ (193 = 175 ∧ i = 14) ∨ (193 = 175 ∧ i = 15) ∨ 193 = 1000) by first | (simp; done) | omega)) rfl Pcx_M1
  have bM4 : M4Zq.2.2 0 = some 180 := nM4.2.2.2.2
  refine li_aload_n 0 dX12_grammar_19 rfl ?_
  refine li_iconst 0 dX12_grammar_20 (by decide) ?_
  refine li_puti (k := 7) (N := 52) (T := TX12) (C0 := RX12) dX12_grammar_21 (by decide) sh_175 rfl rfl (by decide) li_in12 tyX12_ok nmX12 rfl rfl rfl rfl w_1411 ?_
  refine li_nm (fun M6Zq eM6 => ?_)
  have hf := li_fs_ui hf (Or.inr (Or.inr (Or.inr (Or.inr (Or.inr (Or.inr (Or.inr (Or.inr (Or.inr (⟨rfl, rfl⟩)))))))))) eM6
  have z0 : (0 : Int32).toInt = 0 := rfl
  have hJ := J_pt7 hJ (show 0 ≤ (0 : Int32).toInt ∧ (0 : Int32).toInt ≤ 80 from ⟨(by omega), (by omega)⟩) eM6
  have rM6_7 := J_sl7 (M := M6Zq) hJ
  have rM6_12 := J_sl12 (M := M6Zq) hJ
  have rM6_13 := J_sl13 (M := M6Zq) hJ
  have rM6_14 := J_sl14 (M := M6Zq) hJ
  have rM6_15 := J_sl15 (M := M6Zq) hJ
  have rM6_38 := J_sl38 (M := M6Zq) hJ
  have mM6_7 : (M6Zq.1 175 7).toInt = 0 := by rw [eM6, li_ui_at, if_pos rfl, if_pos rfl]; rfl
  have mM6_12 : (M6Zq.1 175 12).toInt = (M4Zq.1 175 12).toInt := by rw [eM6, li_ui_at, if_pos rfl, if_neg (by decide)]
  have mM6_13 : (M6Zq.1 175 13).toInt = (M4Zq.1 175 13).toInt := by rw [eM6, li_ui_at, if_pos rfl, if_neg (by decide)]
  have mM6_14 : (M6Zq.1 175 14).toInt = (M4Zq.1 175 14).toInt := by rw [eM6, li_ui_at, if_pos rfl, if_neg (by decide)]
  have mM6_15 : (M6Zq.1 175 15).toInt = (M4Zq.1 175 15).toInt := by rw [eM6, li_ui_at, if_pos rfl, if_neg (by decide)]
  have mM6_38 : (M6Zq.1 175 38).toInt = (M4Zq.1 175 38).toInt := by rw [eM6, li_ui_at, if_pos rfl, if_neg (by decide)]
  have Pgl_M6 : li_gl (M6Zq.1 180) (TY) (10) (0) (0) (OK) (QQ) (MM) := li_gl_tr (li_cell_ui eM6 (by decide)) (Int.le_antisymm (by omega) (by omega)) (Int.le_antisymm (by omega) (by omega)) (Int.le_antisymm (by omega) (by omega)) (Int.le_antisymm (by omega) (by omega)) (Int.le_antisymm (by omega) (by omega)) (Int.le_antisymm (by omega) (by omega)) (Int.le_antisymm (by omega) (by omega)) Pgl_M4
  have Pcx_M6 : li_cx (M6Zq.1 193) (g3Zq) := li_cx_tr (li_cell_ui eM6 (by decide)) rfl Pcx_M4
  have bM6 : M6Zq.2.2 0 = some 180 := by rw [eM6]; exact bM4
  refine li_iconst 0 dX12_grammar_24 (by decide) ?_
  refine li_istore_n [(1, .int 0), (0, .ref (Z.2.2 175))] dX12_grammar_25 (by decide) rfl ?_
  refine li_aload_n 1 dX12_grammar_26 rfl ?_
  refine li_geti (k := 12) (N := 52) (T := TX12) (C0 := RX12) dX12_grammar_27 (by decide) sh_175 rfl rfl (by decide) li_in12 w_1416 ?_
  refine li_top (fun x7 ex7 => ?_)
  have gx7 : 0 ≤ x7.toInt ∧ x7.toInt ≤ 80 := by rw [ex7]; exact J_sl12 hJ
  have mx7 : x7.toInt = (M6Zq.1 175 12).toInt := tl_slot ex7
  have J38 : ∀ (x9 : Int32) (M10 : li_M), li_fs (fun i k => i = 193 ∨ i = 194 ∨ i = 1000 ∨ (i = 175 ∧ k = 10) ∨ (i = 175 ∧ k = 12) ∨ (i = 175 ∧ k = 13) ∨ (i = 175 ∧ k = 14) ∨ (i = 175 ∧ k = 15) ∨ (i = 175 ∧ k = 38) ∨ (i = 175 ∧ k = 7)) M0 M10 → li_J M10 → (((x9 : Int32).toInt = 1 ∧ 0 < TY) ∨ ((x9 : Int32).toInt = 0 ∧ TY = 0)) ∧ (M10.1 175 14).toInt = 0 ∧ (M10.1 175 15).toInt = -1 ∧ (M10.1 175 12).toInt = TY ∧ (M10.1 175 13).toInt = 80 ∧ (M10.1 175 38).toInt = L0Zq ∧ (M10.1 175 7).toInt = 0 → li_gl (M10.1 180) (TY) (10) (0) (0) (OK) (QQ) (MM) → li_cx (M10.1 193) (g3Zq) → M10.2.2 0 = some 180 → li_T l Z YX12_grammar d 38 [(1, .int 0), (0, .ref (Z.2.2 175))] [.int x9] M10 (fun r M' => (∃ x : Int32, r = some (.int x) ∧ (((TY = 0 ∧ x.toInt = 0) ∨ (0 < TY ∧ OK = 1 ∧ x.toInt = MM) ∨ (0 < TY ∧ OK = 0 ∧ x.toInt = -1 - QQ ∧ 0 ≤ QQ ∧ QQ ≤ TY)) ∧ ((x.toInt < 0 ∧ (M'.1 175 38).toInt = L0Zq ∧ M'.1 193 = g3Zq) ∨ (0 ≤ x.toInt ∧ (M'.1 175 38).toInt = x.toInt ∧ li_gk (M'.1 193) hBZq TY (3 * x.toInt) (x.toInt))))) ∧ li_fs (fun i k => i = 193 ∨ i = 194 ∨ i = 1000 ∨ (i = 175 ∧ k = 10) ∨ (i = 175 ∧ k = 12) ∨ (i = 175 ∧ k = 13) ∨ (i = 175 ∧ k = 14) ∨ (i = 175 ∧ k = 15) ∨ (i = 175 ∧ k = 38) ∨ (i = 175 ∧ k = 7)) M0 M' ∧ li_J M' ∧ (M'.1 175 7).toInt = 0) := by
    try clear mx7
    try clear gx7
    try clear ex7
    try clear bM6
    try clear mM6_38
    try clear mM6_15
    try clear mM6_14
    try clear mM6_13
    try clear mM6_12
    try clear mM6_7
    try clear rM6_38
    try clear rM6_15
    try clear rM6_14
    try clear rM6_13
    try clear rM6_12
    try clear rM6_7
    try clear eM6
    try clear bM4
    try clear mM4_38
    try clear mM4_7
    try clear rM4_38
    try clear rM4_15
    try clear rM4_14
    try clear rM4_13
    try clear rM4_12
    try clear rM4_7
    try clear h5
    try clear jM4
    try clear nM4
    try clear mx2
    try clear gx2
    try clear ex2Zq
    try clear mM1_38
    try clear mM1_15
    try clear mM1_14
    try clear mM1_13
    try clear mM1_12
    try clear mM1_7
    try clear rM1_38
    try clear rM1_15
    try clear rM1_14
    try clear rM1_13
    try clear rM1_12
    try clear rM1_7
    try clear eM1
    try clear rM0_38
    try clear rM0_15
    try clear rM0_14
    try clear rM0_13
    try clear rM0_12
    try clear rM0_7
    intro x9 M10 hf hJ hiZq Pgl_M10 Pcx_M10 bM10
    have gx9 := tl_rg x9
    have rM10_7 := J_sl7 (M := M10) hJ
    have rM10_12 := J_sl12 (M := M10) hJ
    have rM10_13 := J_sl13 (M := M10) hJ
    have rM10_14 := J_sl14 (M := M10) hJ
    have rM10_15 := J_sl15 (M := M10) hJ
    have rM10_38 := J_sl38 (M := M10) hJ
    refine li_istore_n [(2, .int x9), (1, .int 0), (0, .ref (Z.2.2 175))] dX12_grammar_38 (by decide) rfl ?_
    have J141 : ∀ (x11 : Int32) (x12 : Int32) (M13 : li_M), li_fs (fun i k => i = 193 ∨ i = 194 ∨ i = 1000 ∨ (i = 175 ∧ k = 10) ∨ (i = 175 ∧ k = 12) ∨ (i = 175 ∧ k = 13) ∨ (i = 175 ∧ k = 14) ∨ (i = 175 ∧ k = 15) ∨ (i = 175 ∧ k = 38) ∨ (i = 175 ∧ k = 7)) M0 M13 → li_J M13 → (x12 : Int32).toInt ≤ 11 ∧ (x12 : Int32).toInt ≤ 11 + (M13.1 175 15).toInt ∧ li_hd (¬ (M13.1 175 15).toInt = -1 → 0 < TY ∧ OK = 0 ∧ QQ = (M13.1 175 15).toInt ∧ QQ ≤ TY) ∧ li_hd ((M13.1 175 15).toInt = -1 → (TY = 0 ∧ (x12 : Int32).toInt = 0 ∧ (M13.1 175 14).toInt = 0) ∨ (0 < TY ∧ TY ≤ (M13.1 175 14).toInt ∧ OK = 1 ∧ QQ = (M13.1 175 14).toInt ∧ MM = (x12 : Int32).toInt) ∨ ((M13.1 175 14).toInt < TY ∧ OK = 0 ∧ QQ = (M13.1 175 14).toInt)) ∧ (M13.1 175 14).toInt ≤ TY ∧ (M13.1 175 12).toInt = TY ∧ (M13.1 175 13).toInt = 80 ∧ 0 ≤ (x12 : Int32).toInt ∧ (M13.1 175 38).toInt = L0Zq ∧ (M13.1 175 7).toInt = 0 → li_gn (M13.1 194) (hBZq) (TY) (3 * (x12 : Int32).toInt) (-1 - (M13.1 175 15).toInt) → li_cx (M13.1 193) (g3Zq) → M13.2.2 0 = some 180 → li_T l Z YX12_grammar d 141 [(2, .int x11), (1, .int x12), (0, .ref (Z.2.2 175))] [] M13 (fun r M' => (∃ x : Int32, r = some (.int x) ∧ (((TY = 0 ∧ x.toInt = 0) ∨ (0 < TY ∧ OK = 1 ∧ x.toInt = MM) ∨ (0 < TY ∧ OK = 0 ∧ x.toInt = -1 - QQ ∧ 0 ≤ QQ ∧ QQ ≤ TY)) ∧ ((x.toInt < 0 ∧ (M'.1 175 38).toInt = L0Zq ∧ M'.1 193 = g3Zq) ∨ (0 ≤ x.toInt ∧ (M'.1 175 38).toInt = x.toInt ∧ li_gk (M'.1 193) hBZq TY (3 * x.toInt) (x.toInt))))) ∧ li_fs (fun i k => i = 193 ∨ i = 194 ∨ i = 1000 ∨ (i = 175 ∧ k = 10) ∨ (i = 175 ∧ k = 12) ∨ (i = 175 ∧ k = 13) ∨ (i = 175 ∧ k = 14) ∨ (i = 175 ∧ k = 15) ∨ (i = 175 ∧ k = 38) ∨ (i = 175 ∧ k = 7)) M0 M' ∧ li_J M' ∧ (M'.1 175 7).toInt = 0) := k12_X12_grammar_J141 d hdZq M0 TY L0Zq hTY hL0 OK QQ MM Pgl_M0 hBZq hhB g3Zq hg3
    have L39 : ∀ (n : Nat) (x37 : Int32) (x38 : Int32) (M39 : li_M), (12 - (x38 : Int32).toInt).toNat < n → li_fs (fun i k => i = 193 ∨ i = 194 ∨ i = 1000 ∨ (i = 175 ∧ k = 10) ∨ (i = 175 ∧ k = 12) ∨ (i = 175 ∧ k = 13) ∨ (i = 175 ∧ k = 14) ∨ (i = 175 ∧ k = 15) ∨ (i = 175 ∧ k = 38) ∨ (i = 175 ∧ k = 7)) M0 M39 → li_J M39 → li_hd ((M39.1 175 15).toInt = -1 → (x37 : Int32).toInt = 1 → (M39.1 175 14).toInt = 5 * (x38 : Int32).toInt) ∧ li_hd ((x37 : Int32).toInt = 0 ∨ (x37 : Int32).toInt = 1) ∧ li_hd ((x37 : Int32).toInt = 1 → 0 < TY) ∧ li_hd (¬ (M39.1 175 15).toInt = -1 → (x37 : Int32).toInt = 0 ∧ 0 < TY ∧ OK = 0 ∧ QQ = (M39.1 175 15).toInt ∧ QQ ≤ TY) ∧ li_hd ((M39.1 175 15).toInt = -1 → (x37 : Int32).toInt = 0 → (TY = 0 ∧ (x38 : Int32).toInt = 0 ∧ (M39.1 175 14).toInt = 0) ∨ (0 < TY ∧ TY ≤ (M39.1 175 14).toInt ∧ OK = 1 ∧ QQ = (M39.1 175 14).toInt ∧ MM = (x38 : Int32).toInt) ∨ ((M39.1 175 14).toInt < TY ∧ OK = 0 ∧ QQ = (M39.1 175 14).toInt)) ∧ (M39.1 175 14).toInt ≤ TY ∧ (M39.1 175 12).toInt = TY ∧ (M39.1 175 13).toInt = 80 ∧ 0 ≤ (x38 : Int32).toInt ∧ (M39.1 175 38).toInt = L0Zq ∧ (x38 : Int32).toInt ≤ 11 ∧ (x38 : Int32).toInt ≤ 11 + (M39.1 175 15).toInt ∧ (M39.1 175 7).toInt = 0 → li_gn (M39.1 194) (hBZq) (TY) (3 * (x38 : Int32).toInt) (-1 - (M39.1 175 15).toInt) → li_cx (M39.1 193) (g3Zq) → li_gw (M39.1 180) (TY) (10 - (x38 : Int32).toInt) ((M39.1 175 14).toInt) ((x38 : Int32).toInt) (OK) (QQ) (MM) ((M39.1 175 15).toInt) ((x37 : Int32).toInt) → M39.2.2 0 = some 180 → li_T l Z YX12_grammar d 39 [(2, .int x37), (1, .int x38), (0, .ref (Z.2.2 175))] [] M39 (fun r M' => (∃ x : Int32, r = some (.int x) ∧ (((TY = 0 ∧ x.toInt = 0) ∨ (0 < TY ∧ OK = 1 ∧ x.toInt = MM) ∨ (0 < TY ∧ OK = 0 ∧ x.toInt = -1 - QQ ∧ 0 ≤ QQ ∧ QQ ≤ TY)) ∧ ((x.toInt < 0 ∧ (M'.1 175 38).toInt = L0Zq ∧ M'.1 193 = g3Zq) ∨ (0 ≤ x.toInt ∧ (M'.1 175 38).toInt = x.toInt ∧ li_gk (M'.1 193) hBZq TY (3 * x.toInt) (x.toInt))))) ∧ li_fs (fun i k => i = 193 ∨ i = 194 ∨ i = 1000 ∨ (i = 175 ∧ k = 10) ∨ (i = 175 ∧ k = 12) ∨ (i = 175 ∧ k = 13) ∨ (i = 175 ∧ k = 14) ∨ (i = 175 ∧ k = 15) ∨ (i = 175 ∧ k = 38) ∨ (i = 175 ∧ k = 7)) M0 M' ∧ li_J M' ∧ (M'.1 175 7).toInt = 0) := by
      try clear rM10_38
      try clear rM10_15
      try clear rM10_14
      try clear rM10_13
      try clear rM10_12
      try clear rM10_7
      try clear gx9
      try clear mx7
      try clear gx7
      try clear ex7
      try clear bM6
      try clear mM6_38
      try clear mM6_15
      try clear mM6_14
      try clear mM6_13
      try clear mM6_12
      try clear mM6_7
      try clear rM6_38
      try clear rM6_15
      try clear rM6_14
      try clear rM6_13
      try clear rM6_12
      try clear rM6_7
      try clear eM6
      try clear bM4
      try clear mM4_38
      try clear mM4_7
      try clear rM4_38
      try clear rM4_15
      try clear rM4_14
      try clear rM4_13
      try clear rM4_12
      try clear rM4_7
      try clear h5
      try clear jM4
      try clear nM4
      try clear mx2
      try clear gx2
      try clear ex2Zq
      try clear mM1_38
      try clear mM1_15
      try clear mM1_14
      try clear mM1_13
      try clear mM1_12
      try clear mM1_7
      try clear rM1_38
      try clear rM1_15
      try clear rM1_14
      try clear rM1_13
      try clear rM1_12
      try clear rM1_7
      try clear eM1
      try clear rM0_38
      try clear rM0_15
      try clear rM0_14
      try clear rM0_13
      try clear rM0_12
      try clear rM0_7
      try clear hiZq
      intro n
      induction n with
      | zero => intro x37 x38 M39 hn; exact absurd hn (Nat.not_lt_zero _)
      | succ n ih39 =>
        intro x37 x38 M39 hn hf hJ hiZq Pgn_M39 Pcx_M39 Pgw_M39 bM39
        have gx37 := tl_rg x37
        have gx38 := tl_rg x38
        have rM39_7 := J_sl7 (M := M39) hJ
        have rM39_12 := J_sl12 (M := M39) hJ
        have rM39_13 := J_sl13 (M := M39) hJ
        have rM39_14 := J_sl14 (M := M39) hJ
        have rM39_15 := J_sl15 (M := M39) hJ
        have rM39_38 := J_sl38 (M := M39) hJ
        obtain ⟨ip, i0Zq, i1Zq, i2Zq, i3Zq, i4Zq, i5Zq, i6Zq, i7Zq, i11Zq, i8Zq, i9Zq, i10Zq⟩ := hiZq
        refine li_iload_n 0 dX12_grammar_39 rfl ?_
        refine li_if_eq 141 dX12_grammar_40 (by decide) (fun c40Zq => ?_) (fun c40Zq => ?_)
        · have tc40 : x37.toInt = 0 := tl_eq c40Zq
          refine li_pick [0, 1, 2] [(2, .int x37), (1, .int x38), (0, .ref (Z.2.2 175))] rfl ?_
          exact J141 x37 x38 M39 hf hJ ⟨(by omega), (by omega), (by first | (exact li_hdI fun h9 => (i2Zq h9).2) | (exact li_hdI fun h9 => (let zZq := i2Zq (fun h8 => h9 (Int.le_antisymm (by omega) (by omega))); ⟨zZq.2.1, zZq.2.2.1, zZq.2.2.2.1.trans (Int.le_antisymm (by omega) (by omega)), zZq.2.2.2.2⟩))), (by first | (exact li_hdI fun h9 => i3Zq h9 (by assumption)) | (exact li_hdI fun h9 => False.elim (by omega))), (by omega), (Int.le_antisymm (by omega) (by omega)), (Int.le_antisymm (by omega) (by omega)), (by omega), (Int.le_antisymm (by omega) (by omega)), (Int.le_antisymm (by omega) (by omega))⟩ (by first | exact li_gn_tr rfl rfl rfl (Int.le_antisymm (by omega) (by omega)) (fun h9 => by omega) Pgn_M39 | exact li_gk_0 (by omega) | exact li_gk_no (by omega)) (by first | exact li_cx_tr rfl rfl Pcx_M39) bM39
        · have tc40 : ¬ x37.toInt = 0 := tl_ne c40Zq
          have x1Zq := Or.resolve_left i0Zq (by assumption)
          have ty0 := i1Zq x1Zq
          refine li_aload_n 2 dX12_grammar_43 rfl ?_
          refine li_callV (n := 0) (As := []) dX12_grammar_44 (k_X12_fine (d - 1) (by omega)  M39 hJ ) (by omega) (Nat.le_of_ble_eq_true rfl) w_1581 w_1583 w_43 w_112 w_1584 (by decide +kernel) rfl (by decide) sh_175 rfl rfl (Nat.le_of_ble_eq_true rfl) (fun r M42 h43 => ?_)
          obtain ⟨qx41, h43, jM42⟩ := h43
          have hf := li_fs_trans hf h43 (fun i k hZq => False.elim hZq)
          have kM42 : (li_hr M42).toInt = (li_hr M39).toInt := li_hr_fs h43 id id id id (fun _ _ _ => id) (by assumption)
          have hJ := jM42
          have rM42_7 := J_sl7 (M := M42) hJ
          have rM42_12 := J_sl12 (M := M42) hJ
          have rM42_13 := J_sl13 (M := M42) hJ
          have rM42_14 := J_sl14 (M := M42) hJ
          have rM42_15 := J_sl15 (M := M42) hJ
          have rM42_38 := J_sl38 (M := M42) hJ
          have mM42_7 : (M42.1 175 7).toInt = (M39.1 175 7).toInt := tl_slot (h43.1 175 7 id)
          have mM42_12 : (M42.1 175 12).toInt = (M39.1 175 12).toInt := tl_slot (h43.1 175 12 id)
          have mM42_13 : (M42.1 175 13).toInt = (M39.1 175 13).toInt := tl_slot (h43.1 175 13 id)
          have mM42_14 : (M42.1 175 14).toInt = (M39.1 175 14).toInt := tl_slot (h43.1 175 14 id)
          have mM42_15 : (M42.1 175 15).toInt = (M39.1 175 15).toInt := tl_slot (h43.1 175 15 id)
          have mM42_38 : (M42.1 175 38).toInt = (M39.1 175 38).toInt := tl_slot (h43.1 175 38 id)
          have Pgw_M42 : li_gw (M42.1 180) (TY) (10 - (x38 : Int32).toInt) ((M42.1 175 14).toInt) ((x38 : Int32).toInt) (OK) (QQ) (MM) ((M42.1 175 15).toInt) ((x37 : Int32).toInt) := li_gw_tr (funext fun i => h43.1 180 i id) (Int.le_antisymm (by omega) (by omega)) (Int.le_antisymm (by omega) (by omega)) (Int.le_antisymm (by omega) (by omega)) (Int.le_antisymm (by omega) (by omega)) (Int.le_antisymm (by omega) (by omega)) (Int.le_antisymm (by omega) (by omega)) (Int.le_antisymm (by omega) (by omega)) (Int.le_antisymm (by omega) (by omega)) (Int.le_antisymm (by omega) (by omega)) Pgw_M39
          have Pgn_M42 : li_gn (M42.1 194) (hBZq) (TY) (3 * (x38 : Int32).toInt) (-1 - (M42.1 175 15).toInt) := li_gn_tr (funext fun i => h43.1 194 i id) rfl rfl (Int.le_antisymm (by omega) (by omega)) (fun h9 => by omega) Pgn_M39
          have Pcx_M42 : li_cx (M42.1 193) (g3Zq) := li_cx_tr (funext fun i => h43.1 193 i id) rfl Pcx_M39
          have bM42 : M42.2.2 0 = some 180 := (h43.2.2 0 (fun h9 => by first | exact (h9 : False).elim | (simp at h9; done) | omega)).trans bM39
          rcases qx41 with ⟨rfl, qx41⟩ | ⟨rfl, qx41⟩
          · skip
            refine li_if_eq 141 dX12_grammar_47 (by decide) (fun c => absurd c (by decide)) (fun c => ?_)
            refine li_iload_n 1 dX12_grammar_50 rfl ?_
            refine li_bipush 10 dX12_grammar_51 (by decide) ?_
            have J128 : ∀  (M46 : li_M), li_fs (fun i k => i = 193 ∨ i = 194 ∨ i = 1000 ∨ (i = 175 ∧ k = 10) ∨ (i = 175 ∧ k = 12) ∨ (i = 175 ∧ k = 13) ∨ (i = 175 ∧ k = 14) ∨ (i = 175 ∧ k = 15) ∨ (i = 175 ∧ k = 38) ∨ (i = 175 ∧ k = 7)) M0 M46 → li_J M46 → li_hd ((M46.1 175 15).toInt = -1 → (M46.1 175 14).toInt = 5 * (x38 : Int32).toInt + 4) ∧ (x38 : Int32).toInt ≤ 10 ∧ (x38 : Int32).toInt ≤ 10 + (M46.1 175 15).toInt ∧ 0 < TY ∧ li_hd (¬ (M46.1 175 15).toInt = -1 → 0 < TY ∧ OK = 0 ∧ QQ = (M46.1 175 15).toInt ∧ QQ ≤ TY) ∧ li_hd ((M46.1 175 15).toInt = -1 → (li_hr M46).toInt = 59 ∨ (TY ≤ (M46.1 175 14).toInt ∧ OK = 1 ∧ QQ = (M46.1 175 14).toInt ∧ MM = (x38 : Int32).toInt + 1) ∨ ((M46.1 175 14).toInt < TY ∧ OK = 0 ∧ QQ = (M46.1 175 14).toInt)) ∧ (M46.1 175 14).toInt ≤ TY ∧ (M46.1 175 12).toInt = TY ∧ (M46.1 175 13).toInt = 80 ∧ 0 ≤ (x38 : Int32).toInt ∧ (M46.1 175 38).toInt = L0Zq ∧ (M46.1 175 7).toInt = 0 → li_gx (M46.1 180) (TY) (10 - (x38 : Int32).toInt - 1) ((M46.1 175 14).toInt) ((x38 : Int32).toInt + 1) (OK) (QQ) (MM) ((M46.1 175 15).toInt) ((li_hr M46).toInt) → li_gn (M46.1 194) (hBZq) (TY) (3 * (x38 : Int32).toInt + 3) (-1 - (M46.1 175 15).toInt) → li_cx (M46.1 193) (g3Zq) → M46.2.2 0 = some 180 → li_T l Z YX12_grammar d 128 [(2, .int x37), (1, .int x38), (0, .ref (Z.2.2 175))] [] M46 (fun r M' => (∃ x : Int32, r = some (.int x) ∧ (((TY = 0 ∧ x.toInt = 0) ∨ (0 < TY ∧ OK = 1 ∧ x.toInt = MM) ∨ (0 < TY ∧ OK = 0 ∧ x.toInt = -1 - QQ ∧ 0 ≤ QQ ∧ QQ ≤ TY)) ∧ ((x.toInt < 0 ∧ (M'.1 175 38).toInt = L0Zq ∧ M'.1 193 = g3Zq) ∨ (0 ≤ x.toInt ∧ (M'.1 175 38).toInt = x.toInt ∧ li_gk (M'.1 193) hBZq TY (3 * x.toInt) (x.toInt))))) ∧ li_fs (fun i k => i = 193 ∨ i = 194 ∨ i = 1000 ∨ (i = 175 ∧ k = 10) ∨ (i = 175 ∧ k = 12) ∨ (i = 175 ∧ k = 13) ∨ (i = 175 ∧ k = 14) ∨ (i = 175 ∧ k = 15) ∨ (i = 175 ∧ k = 38) ∨ (i = 175 ∧ k = 7)) M0 M' ∧ li_J M' ∧ (M'.1 175 7).toInt = 0) := by
              try clear c
              try clear bM42
              try clear mM42_38
              try clear mM42_15
              try clear mM42_14
              try clear mM42_13
              try clear mM42_12
              try clear mM42_7
              try clear rM42_38
              try clear rM42_15
              try clear rM42_14
              try clear rM42_13
              try clear rM42_12
              try clear rM42_7
              try clear kM42
              try clear qx41
              try clear h43
              try clear jM42
              try clear ty0
              try clear x1Zq
              try clear tc40
              try clear c40Zq
              try clear ip
              try clear i0Zq
              try clear i1Zq
              try clear i2Zq
              try clear i3Zq
              try clear i4Zq
              try clear i5Zq
              try clear i6Zq
              try clear i7Zq
              try clear i11Zq
              try clear i8Zq
              try clear i9Zq
              try clear i10Zq
              try clear rM39_38
              try clear rM39_15
              try clear rM39_14
              try clear rM39_13
              try clear rM39_12
              try clear rM39_7
              try clear rM10_38
              try clear rM10_15
              try clear rM10_14
              try clear rM10_13
              try clear rM10_12
              try clear rM10_7
              try clear gx9
              try clear mx7
              try clear gx7
              try clear ex7
              try clear bM6
              try clear mM6_38
              try clear mM6_15
              try clear mM6_14
              try clear mM6_13
              try clear mM6_12
              try clear mM6_7
              try clear rM6_38
              try clear rM6_15
              try clear rM6_14
              try clear rM6_13
              try clear rM6_12
              try clear rM6_7
              try clear eM6
              try clear bM4
              try clear mM4_38
              try clear mM4_7
              try clear rM4_38
              try clear rM4_15
              try clear rM4_14
              try clear rM4_13
              try clear rM4_12
              try clear rM4_7
              try clear h5
              try clear jM4
              try clear nM4
              try clear mx2
              try clear gx2
              try clear ex2Zq
              try clear mM1_38
              try clear mM1_15
              try clear mM1_14
              try clear mM1_13
              try clear mM1_12
              try clear mM1_7
              try clear rM1_38
              try clear rM1_15
              try clear rM1_14
              try clear rM1_13
              try clear rM1_12
              try clear rM1_7
              try clear eM1
              try clear rM0_38
              try clear rM0_15
              try clear rM0_14
              try clear rM0_13
              try clear rM0_12
              try clear rM0_7
              try clear hiZq
              try clear hiZq
              intro  M46 hf hJ hiZq Pgx_M46 Pgn_M46 Pcx_M46 bM46
              have rM46_7 := J_sl7 (M := M46) hJ
              have rM46_12 := J_sl12 (M := M46) hJ
              have rM46_13 := J_sl13 (M := M46) hJ
              have rM46_14 := J_sl14 (M := M46) hJ
              have rM46_15 := J_sl15 (M := M46) hJ
              have rM46_38 := J_sl38 (M := M46) hJ
              obtain ⟨jp, j0, j1, j2Zq, j3Zq, j4Zq, j5Zq, j6Zq, j7Zq, j8Zq, j9Zq, j10Zq⟩ := hiZq
              obtain ⟨x47, ex47⟩ : ∃ y : Int32, y = x38 + 1 := ⟨_, rfl⟩
              have z1 : (1 : Int32).toInt = 1 := rfl
              try (have tx47 : x47.toInt = (x38 : Int32).toInt + (1 : Int32).toInt := tl_add ex47 ⟨by omega, by omega⟩)
              refine li_iinc 1 [(1, .int x47), (2, .int x37), (0, .ref (Z.2.2 175))] x47 dX12_grammar_128 rfl (by rw [ex47]; rfl) (by decide) rfl ?_
              refine li_aload_n 2 dX12_grammar_131 rfl ?_
              refine li_bipush 59 dX12_grammar_132 (by decide) ?_
              have z59Zq : (59 : Int32).toInt = 59 := rfl
              refine li_callV (n := 1) (As := [.int 59]) dX12_grammar_134 (k_X12_passes (d - 1) (by omega) 59 M46 hJ (by omega)) (by omega) (Nat.le_of_ble_eq_true rfl) w_1605 w_1607 w_49 w_112 w_1608 (by decide +kernel) rfl (by decide) sh_175 rfl rfl (Nat.le_of_ble_eq_true rfl) (fun r M49 h50 => ?_)
              obtain ⟨qx48, h50, jM49⟩ := h50
              have hf := li_fs_trans hf h50 (fun i k => fun hZq => Or.inr (Or.inr (Or.inr (Or.inr (Or.inr (Or.inr (Or.inl hZq)))))))
              have hJ := jM49
              have rM49_7 := J_sl7 (M := M49) hJ
              have rM49_12 := J_sl12 (M := M49) hJ
              have rM49_13 := J_sl13 (M := M49) hJ
              have rM49_14 := J_sl14 (M := M49) hJ
              have rM49_15 := J_sl15 (M := M49) hJ
              have rM49_38 := J_sl38 (M := M49) hJ
              have mM49_7 : (M49.1 175 7).toInt = (M46.1 175 7).toInt := tl_slot (h50.1 175 7 (show ¬ ((175 = 175 ∧ 7 = 14)) by decide))
              have mM49_12 : (M49.1 175 12).toInt = (M46.1 175 12).toInt := tl_slot (h50.1 175 12 (show ¬ ((175 = 175 ∧ 12 = 14)) by decide))
              have mM49_13 : (M49.1 175 13).toInt = (M46.1 175 13).toInt := tl_slot (h50.1 175 13 (show ¬ ((175 = 175 ∧ 13 = 14)) by decide))
              have mM49_15 : (M49.1 175 15).toInt = (M46.1 175 15).toInt := tl_slot (h50.1 175 15 (show ¬ ((175 = 175 ∧ 15 = 14)) by decide))
              have mM49_38 : (M49.1 175 38).toInt = (M46.1 175 38).toInt := tl_slot (h50.1 175 38 (show ¬ ((175 = 175 ∧ 38 = 14)) by decide))
              have Pgn_M49 : li_gn (M49.1 194) (hBZq) (TY) (3 * (x38 : Int32).toInt + 3) (-1 - (M49.1 175 15).toInt) := li_gn_tr (funext fun i => h50.1 194 i (show ¬ ((194 = 175 ∧ i = 14)) by first | (simp; done) | omega)) rfl rfl (Int.le_antisymm (by omega) (by omega)) (fun h9 => by omega) Pgn_M46
              have Pcx_M49 : li_cx (M49.1 193) (g3Zq) := li_cx_tr (funext fun i => h50.1 193 i (show ¬ ((193 = 175 ∧ i = 14)) by first | (simp; done) | omega)) rfl Pcx_M46
              have bM49 : M49.2.2 0 = some 180 := (h50.2.2 0 (fun h9 => by first | exact (h9 : False).elim | (simp at h9; done) | omega)).trans bM46
              have gx1 : li_gx (M49.1 180) (TY) (10 - (x38 : Int32).toInt - 1) ((M46.1 175 14).toInt) ((x38 : Int32).toInt + 1) (OK) (QQ) (MM) ((M46.1 175 15).toInt) ((li_hr M46).toInt) := by rw [show M49.1 180 = M46.1 180 from (funext fun i => h50.1 180 i (show ¬ ((180 = 175 ∧ i = 14)) by first | (simp; done) | omega))]; exact Pgx_M46
              rcases qx48 with ⟨rfl, qx48⟩ | ⟨rfl, qx48⟩
              · skip
                have qz := qx48.1
                refine li_istore_n [(2, .int 1), (1, .int x47), (0, .ref (Z.2.2 175))] dX12_grammar_137 (by decide) rfl ?_
                refine li_goto 39 dX12_grammar_138 (by decide) ?_
                refine li_pick [0, 1, 2] [(2, .int 1), (1, .int x47), (0, .ref (Z.2.2 175))] rfl ?_
                have z1 : (1 : Int32).toInt = 1 := rfl
                exact ih39 1 x47 M49 (by omega) hf hJ ⟨(by first | (exact li_hdI fun _ h9 => absurd h9 (by decide)) | (exact li_hdI fun _ _ => (by have zZq := jp (Int.le_antisymm (by omega) (by omega)); exact (Int.le_antisymm (by omega) (by omega)))) | (exact li_hdI fun _ _ => (Int.le_antisymm (by omega) (by omega)))), (by first | (exact Or.inr rfl) | (exact Or.inl rfl) | (rcases hiZq.1 with c | c; exact Or.inr c.1; exact Or.inl c.1)), (by first | (exact li_hdI fun _ => j2Zq) | (rcases hiZq.1 with c | c; exact li_hdI fun _ => c.2; exact li_hdI fun h9 => absurd (c.1.symm.trans h9) (by decide))), (by first | (exact li_hdI fun h9 => (let zZq := j3Zq (fun h8 => h9 (Int.le_antisymm (by omega) (by omega))); ⟨rfl, zZq.1, zZq.2.1, zZq.2.2.1.trans (Int.le_antisymm (by omega) (by omega)), zZq.2.2.2⟩)) | (exact li_hdI fun h9 => (h9 (Int.le_antisymm (by omega) (by omega))).elim)), (by first | (exact li_hdI fun _ h9 => absurd h9 (by decide)) | (exact li_hdI fun h9 _ => by rcases j4Zq (Int.le_antisymm (by omega) (by omega)) with c | c | c; exact absurd (c.trans z59Zq.symm) (qz (Int.le_antisymm (by omega) (by omega))); exact Or.inr (Or.inl ⟨j2Zq, by omega, c.2.1, (Int.le_antisymm (by omega) (by omega)), (Int.le_antisymm (by omega) (by omega))⟩); exact Or.inr (Or.inr ⟨by omega, c.2.1, (Int.le_antisymm (by omega) (by omega))⟩)) | (rcases hiZq.1 with c | c; exact li_hdI fun _ h9 => absurd (c.1.symm.trans h9) (by decide); exact li_hdI fun _ _ => Or.inl ⟨c.2, (Int.le_antisymm (by omega) (by omega)), (Int.le_antisymm (by omega) (by omega))⟩)), (by omega), (Int.le_antisymm (by omega) (by omega)), (Int.le_antisymm (by omega) (by omega)), (by omega), (Int.le_antisymm (by omega) (by omega)), (by omega), (by omega), (Int.le_antisymm (by omega) (by omega))⟩ (by first | exact li_gn_tr rfl rfl rfl (Int.le_antisymm (by omega) (by omega)) (fun h9 => by omega) Pgn_M49 | exact li_gk_0 (by omega) | exact li_gk_no (by omega)) (by first | exact li_cx_tr rfl rfl Pcx_M49) (by first | exact li_gw_gx gx1 rfl (Int.le_antisymm (by omega) (by omega)) (Int.le_antisymm (by omega) (by omega)) (Int.le_antisymm (by omega) (by omega)) (fun h8 h7 => ⟨Int.le_antisymm (by omega) (by omega), Int.le_antisymm (by omega) (by omega), Int.le_antisymm (by omega) (by omega)⟩) | exact li_gw_0 Pgl_M49 rfl (Int.le_antisymm (by omega) (by omega)) (Int.le_antisymm (by omega) (by omega)) (Int.le_antisymm (by omega) (by omega)) (Int.le_antisymm (by omega) (by omega))) bM49
              · skip
                have qz := qx48.1
                refine li_istore_n [(2, .int 0), (1, .int x47), (0, .ref (Z.2.2 175))] dX12_grammar_137 (by decide) rfl ?_
                refine li_goto 39 dX12_grammar_138 (by decide) ?_
                refine li_pick [0, 1, 2] [(2, .int 0), (1, .int x47), (0, .ref (Z.2.2 175))] rfl ?_
                have z0 : (0 : Int32).toInt = 0 := rfl
                exact ih39 0 x47 M49 (by omega) hf hJ ⟨(by first | (exact li_hdI fun _ h9 => absurd h9 (by decide)) | (exact li_hdI fun _ _ => (by have zZq := jp (Int.le_antisymm (by omega) (by omega)); exact (Int.le_antisymm (by omega) (by omega)))) | (exact li_hdI fun _ _ => (Int.le_antisymm (by omega) (by omega)))), (by first | (exact Or.inr rfl) | (exact Or.inl rfl) | (rcases hiZq.1 with c | c; exact Or.inr c.1; exact Or.inl c.1)), (by first | (exact li_hdI fun _ => j2Zq) | (rcases hiZq.1 with c | c; exact li_hdI fun _ => c.2; exact li_hdI fun h9 => absurd (c.1.symm.trans h9) (by decide))), (by first | (exact li_hdI fun h9 => (let zZq := j3Zq (fun h8 => h9 (Int.le_antisymm (by omega) (by omega))); ⟨rfl, zZq.1, zZq.2.1, zZq.2.2.1.trans (Int.le_antisymm (by omega) (by omega)), zZq.2.2.2⟩)) | (exact li_hdI fun h9 => (h9 (Int.le_antisymm (by omega) (by omega))).elim)), (by first | (exact li_hdI fun _ h9 => absurd h9 (by decide)) | (exact li_hdI fun h9 _ => by rcases j4Zq (Int.le_antisymm (by omega) (by omega)) with c | c | c; exact absurd (c.trans z59Zq.symm) (qz (Int.le_antisymm (by omega) (by omega))); exact Or.inr (Or.inl ⟨j2Zq, by omega, c.2.1, (Int.le_antisymm (by omega) (by omega)), (Int.le_antisymm (by omega) (by omega))⟩); exact Or.inr (Or.inr ⟨by omega, c.2.1, (Int.le_antisymm (by omega) (by omega))⟩)) | (rcases hiZq.1 with c | c; exact li_hdI fun _ h9 => absurd (c.1.symm.trans h9) (by decide); exact li_hdI fun _ _ => Or.inl ⟨c.2, (Int.le_antisymm (by omega) (by omega)), (Int.le_antisymm (by omega) (by omega))⟩)), (by omega), (Int.le_antisymm (by omega) (by omega)), (Int.le_antisymm (by omega) (by omega)), (by omega), (Int.le_antisymm (by omega) (by omega)), (by omega), (by omega), (Int.le_antisymm (by omega) (by omega))⟩ (by first | exact li_gn_tr rfl rfl rfl (Int.le_antisymm (by omega) (by omega)) (fun h9 => by omega) Pgn_M49 | exact li_gk_0 (by omega) | exact li_gk_no (by omega)) (by first | exact li_cx_tr rfl rfl Pcx_M49) (by first | exact li_gw_gx gx1 rfl (Int.le_antisymm (by omega) (by omega)) (Int.le_antisymm (by omega) (by omega)) (Int.le_antisymm (by omega) (by omega)) (fun h8 h7 => ⟨Int.le_antisymm (by omega) (by omega), Int.le_antisymm (by omega) (by omega), Int.le_antisymm (by omega) (by omega)⟩) | exact li_gw_0 Pgl_M49 rfl (Int.le_antisymm (by omega) (by omega)) (Int.le_antisymm (by omega) (by omega)) (Int.le_antisymm (by omega) (by omega)) (Int.le_antisymm (by omega) (by omega))) bM49
            refine li_icmp_ne 67 dX12_grammar_53 (by decide) (fun c45 => ?_) (fun c45 => ?_)
            · have tc45 : ¬ x38.toInt = 10 := tl_ne c45
              have lt9 : (x38 : Int32).toInt ≤ 9 := by omega
              refine li_aload_n 2 dX12_grammar_67 rfl ?_
              refine li_getr (k := 37) (N := 52) (T := TX12) (C0 := RX12) dX12_grammar_68 (by decide) sh_175 rfl rfl (by decide) (by decide) li_in12 w_1441 ?_
              refine li_iconst 3 dX12_grammar_71 (by decide) ?_
              refine li_iload_n 1 dX12_grammar_72 rfl ?_
              refine li_imul dX12_grammar_73 ?_
              refine li_top (fun x51 ex51 => ?_)
              have z3 : (3 : Int32).toInt = 3 := rfl
              try (have tx51 : x51.toInt = 3 * (x38 : Int32).toInt := tl_mul ex51 (show -2147483648 ≤ 3 * (x38 : Int32).toInt ∧ 3 * (x38 : Int32).toInt ≤ 2147483647 from ⟨(by omega), (by omega)⟩))
              refine li_aload_n 2 dX12_grammar_74 rfl ?_
              refine li_bipush 97 dX12_grammar_75 (by decide) ?_
              refine li_bipush 7 dX12_grammar_77 (by decide) ?_
              refine li_iconst (-1) dX12_grammar_79 (by decide) ?_
              have em0 : min (M42.1 175 12).toInt (M42.1 175 13).toInt = TY := by rw [show (M42.1 175 12).toInt = TY from Int.le_antisymm (by omega) (by omega), show (M42.1 175 13).toInt = 80 from Int.le_antisymm (by omega) (by omega)]; omega
              have hf80 := hf
              have gq0 := Pgw_M42 (by omega) (by omega)
              have stq := li_hdI (li_gq_r gq0 (by omega))
              have ch0 : (li_hr M42).toInt = rd_ch (li_by (M42.1 180)) TY ((M42.1 175 14).toInt) := hr_pt bM42 (by omega) rfl em0 rfl
              have pl80 : (M42.1 175 14).toInt = 5 * (x38 : Int32).toInt := by have h9 := ip (Int.le_antisymm (by omega) (by omega)) x1Zq; exact Int.le_antisymm (by omega) (by omega)
              have hbM : hBZq = li_by (M42.1 180) := hhB.symm.trans (congrArg li_by (funext fun i => (hf.1 180 i ((fun i => (show ¬ (180 = 193 ∨ 180 = 194 ∨ 180 = 1000 ∨ (180 = 175 ∧ i = 10) ∨ (180 = 175 ∧ i = 12) ∨ (180 = 175 ∧ i = 13) ∨ (180 = 175 ∧ i = 14) ∨ (180 = 175 ∧ i = 15) ∨ (180 = 175 ∧ i = 38) ∨ (180 = 175 ∧ i = 7)) by first | (simp; done) | omega)) i)).symm))
              have gvq0 : gv hBZq TY (3 * (x38 : Int32).toInt) = rd_ch (li_by (M42.1 180)) TY ((M42.1 175 14).toInt) - 97 := by rw [gv_0, hbM, ← pl80]
              have gvq1 : gv hBZq TY (3 * (x38 : Int32).toInt + 1) = rd_ch (li_by (M42.1 180)) TY ((M42.1 175 14).toInt + 1) - 97 := by rw [gv_1, hbM, ← pl80]
              have gvq2 : gv hBZq TY (3 * (x38 : Int32).toInt + 2) = rd_ch (li_by (M42.1 180)) TY ((M42.1 175 14).toInt + 3) - 97 := by rw [gv_2, hbM, ← pl80]
              have z97 : (97 : Int32).toInt = 97 := rfl
              have z7 : (7 : Int32).toInt = 7 := rfl
              have zm1 : ((-1) : Int32).toInt = -1 := rfl
              refine li_callV (n := 3) (As := [.int 97, .int 7, .int (-1)]) dX12_grammar_80 (k_X12_oneOf (d - 1) (by omega) 97 7 (-1) M42 hJ ⟨by omega, by omega⟩ ⟨by omega, by omega⟩) (by omega) (Nat.le_of_ble_eq_true rfl) w_1593 w_1595 w_46 w_112 w_1596 (by decide +kernel) rfl (by decide) sh_175 rfl rfl (Nat.le_of_ble_eq_true rfl) (fun r M53 h54 => ?_)
              obtain ⟨⟨x52, rfl, qx52⟩, h54, jM53⟩ := h54
              have gx52 := tl_rg x52
              have hf := li_fs_trans hf h54 (fun i k => fun hZq => Or.elim hZq (fun hZq => Or.inr (Or.inr (Or.inr (Or.inr (Or.inr (Or.inr (Or.inl hZq))))))) (fun hZq => Or.inr (Or.inr (Or.inr (Or.inr (Or.inr (Or.inr (Or.inr (Or.inl hZq)))))))))
              have hJ := jM53
              have rM53_7 := J_sl7 (M := M53) hJ
              have rM53_12 := J_sl12 (M := M53) hJ
              have rM53_13 := J_sl13 (M := M53) hJ
              have rM53_14 := J_sl14 (M := M53) hJ
              have rM53_15 := J_sl15 (M := M53) hJ
              have rM53_38 := J_sl38 (M := M53) hJ
              have mM53_7 : (M53.1 175 7).toInt = (M42.1 175 7).toInt := tl_slot (h54.1 175 7 (show ¬ ((175 = 175 ∧ 7 = 14) ∨ (175 = 175 ∧ 7 = 15)) by decide))
              have mM53_12 : (M53.1 175 12).toInt = (M42.1 175 12).toInt := tl_slot (h54.1 175 12 (show ¬ ((175 = 175 ∧ 12 = 14) ∨ (175 = 175 ∧ 12 = 15)) by decide))
              have mM53_13 : (M53.1 175 13).toInt = (M42.1 175 13).toInt := tl_slot (h54.1 175 13 (show ¬ ((175 = 175 ∧ 13 = 14) ∨ (175 = 175 ∧ 13 = 15)) by decide))
              have mM53_38 : (M53.1 175 38).toInt = (M42.1 175 38).toInt := tl_slot (h54.1 175 38 (show ¬ ((175 = 175 ∧ 38 = 14) ∨ (175 = 175 ∧ 38 = 15)) by decide))
              have Pgn_M53 : li_gn (M53.1 194) (hBZq) (TY) (3 * (x38 : Int32).toInt) (-1 - (M53.1 175 15).toInt) := li_gn_tr (funext fun i => h54.1 194 i (show ¬ ((194 = 175 ∧ i = 14) ∨ (194 = 175 ∧ i = 15)) by first | (simp; done) | omega)) rfl rfl (Int.le_antisymm (by omega) (by omega)) (fun h9 => by omega) Pgn_M42
              have Pcx_M53 : li_cx (M53.1 193) (g3Zq) := li_cx_tr (funext fun i => h54.1 193 i (show ¬ ((193 = 175 ∧ i = 14) ∨ (193 = 175 ∧ i = 15)) by first | (simp; done) | omega)) rfl Pcx_M42
              have bM53 : M53.2.2 0 = some 180 := (h54.2.2 0 (fun h9 => by first | exact (h9 : False).elim | (simp at h9; done) | omega)).trans bM42
              have s0Zq : li_hd (((M53.1 175 15).toInt = -1 ∧ (97 ≤ rd_ch (li_by (M42.1 180)) TY ((M42.1 175 14).toInt) ∧ rd_ch (li_by (M42.1 180)) TY ((M42.1 175 14).toInt) ≤ 103) ∧ (M53.1 175 14).toInt = (M42.1 175 14).toInt + 1 ∧ x52.toInt = rd_ch (li_by (M42.1 180)) TY ((M42.1 175 14).toInt) - 97) ∨ (¬ (M53.1 175 15).toInt = -1 ∧ OK = 0 ∧ QQ = (M53.1 175 15).toInt ∧ QQ ≤ TY)) ∧ (M42.1 175 14).toInt ≤ (M53.1 175 14).toInt ∧ (M53.1 175 14).toInt ≤ TY ∧ -1 ≤ (M53.1 175 15).toInt := by
                have hw : (M42.1 175 15).toInt = -1 := Int.le_antisymm (by omega) (by omega)
                have hcZq := ch0
                by_cases e9Zq : (97 ≤ rd_ch (li_by (M42.1 180)) TY ((M42.1 175 14).toInt) ∧ rd_ch (li_by (M42.1 180)) TY ((M42.1 175 14).toInt) ≤ 103)
                · have u := qx52.2.1 hw (by omega) (by omega) (fun h9 => by omega); exact ⟨Or.inl ⟨u.2.2.1, e9Zq, Int.le_antisymm (by omega) (by omega), Int.le_antisymm (by omega) (by omega)⟩, by omega, by omega, by omega⟩
                · have u := qx52.2.2.1 hw (fun h9 => e9Zq ⟨by omega, by omega⟩)
                  rcases stq with t | t | t | t | t | t | t
                  · exact ⟨Or.inr ⟨by omega, t.2.1, (Int.le_antisymm (by omega) (by omega)), by omega⟩, by omega, by omega, by omega⟩
                  · exact absurd t.1 (by exact e9Zq)
                  · exact absurd t.1 (by exact e9Zq)
                  · exact absurd t.1 (by exact e9Zq)
                  · exact absurd t.1 (by exact e9Zq)
                  · exact absurd t.1 (by exact e9Zq)
                  · exact absurd t.1 (by exact e9Zq)
              have as0 := s0Zq.2
              have s0Zq := s0Zq.1
              try clear qx52
              refine li_iast dX12_grammar_83 (by decide) sh_194 (tl_in ⟨by omega, by omega⟩) ?_
              refine li_nm (fun M55 eM55 => ?_)
              have hf := li_fs_ui hf (Or.inr (Or.inl rfl)) eM55
              have hJ := hJ.st (by decide) (li_el_free (by first | (unfold li_led; decide) | (unfold li_led; omega)) (by decide) (by decide) (by first | (unfold li_rq; decide) | (unfold li_rq; omega))) eM55
              have rM55_7 := J_sl7 (M := M55) hJ
              have rM55_12 := J_sl12 (M := M55) hJ
              have rM55_13 := J_sl13 (M := M55) hJ
              have rM55_14 := J_sl14 (M := M55) hJ
              have rM55_15 := J_sl15 (M := M55) hJ
              have rM55_38 := J_sl38 (M := M55) hJ
              have mM55_7 : (M55.1 175 7).toInt = (M53.1 175 7).toInt := by rw [eM55, li_ui_at, if_neg (by decide)]
              have mM55_12 : (M55.1 175 12).toInt = (M53.1 175 12).toInt := by rw [eM55, li_ui_at, if_neg (by decide)]
              have mM55_13 : (M55.1 175 13).toInt = (M53.1 175 13).toInt := by rw [eM55, li_ui_at, if_neg (by decide)]
              have mM55_14 : (M55.1 175 14).toInt = (M53.1 175 14).toInt := by rw [eM55, li_ui_at, if_neg (by decide)]
              have mM55_15 : (M55.1 175 15).toInt = (M53.1 175 15).toInt := by rw [eM55, li_ui_at, if_neg (by decide)]
              have mM55_38 : (M55.1 175 38).toInt = (M53.1 175 38).toInt := by rw [eM55, li_ui_at, if_neg (by decide)]
              have Pcx_M55 : li_cx (M55.1 193) (g3Zq) := li_cx_tr (li_cell_ui eM55 (by decide)) rfl Pcx_M53
              have Pgn_M55 : li_gn (M55.1 194) (hBZq) (TY) (3 * (x38 : Int32).toInt + 1) (-1 - (M55.1 175 15).toInt) := li_gk_stJ Pgn_M53 eM55 (Int.le_antisymm (by omega) (by omega)) (by omega) (fun h9 => by omega) (fun h9 => by have h8 : (M55.1 175 15).toInt = -1 := Int.le_antisymm (by omega) (by omega); have k9 : (x52 : Int32).toInt = rd_ch (li_by (M42.1 180)) TY ((M42.1 175 14).toInt) - 97 ∧ (97 ≤ rd_ch (li_by (M42.1 180)) TY ((M42.1 175 14).toInt) ∧ rd_ch (li_by (M42.1 180)) TY ((M42.1 175 14).toInt) ≤ 103) := (by rcases s0Zq with ⟨c0, k0Zq, ca⟩ | c; exact ⟨ca.2, k0Zq⟩; exact absurd (Int.le_antisymm (by omega) (by omega)) c.1); exact ⟨by rw [k9.1, gvq0], by omega, by omega⟩) (Int.le_antisymm (by omega) (by omega))
              have bM55 : M55.2.2 0 = some 180 := by rw [eM55]; exact bM53
              refine li_aload_n 2 dX12_grammar_84 rfl ?_
              refine li_getr (k := 37) (N := 52) (T := TX12) (C0 := RX12) dX12_grammar_85 (by decide) sh_175 rfl rfl (by decide) (by decide) li_in12 w_1441 ?_
              refine li_iconst 3 dX12_grammar_88 (by decide) ?_
              refine li_iload_n 1 dX12_grammar_89 rfl ?_
              refine li_imul dX12_grammar_90 ?_
              refine li_top (fun x56 ex56 => ?_)
              have z3 : (3 : Int32).toInt = 3 := rfl
              try (have tx56 : x56.toInt = 3 * (x38 : Int32).toInt := tl_mul ex56 (show -2147483648 ≤ 3 * (x38 : Int32).toInt ∧ 3 * (x38 : Int32).toInt ≤ 2147483647 from ⟨(by omega), (by omega)⟩))
              refine li_iconst 1 dX12_grammar_91 (by decide) ?_
              refine li_iadd dX12_grammar_92 ?_
              refine li_top (fun x57 ex57 => ?_)
              have z1 : (1 : Int32).toInt = 1 := rfl
              try (have tx57 : x57.toInt = (x56 : Int32).toInt + (1 : Int32).toInt := tl_add ex57 ⟨by omega, by omega⟩)
              refine li_aload_n 2 dX12_grammar_93 rfl ?_
              refine li_bipush 97 dX12_grammar_94 (by decide) ?_
              refine li_bipush 7 dX12_grammar_96 (by decide) ?_
              refine li_iconst (-1) dX12_grammar_98 (by decide) ?_
              have em1 : min (M55.1 175 12).toInt (M55.1 175 13).toInt = TY := by rw [show (M55.1 175 12).toInt = TY from Int.le_antisymm (by omega) (by omega), show (M55.1 175 13).toInt = 80 from Int.le_antisymm (by omega) (by omega)]; omega
              have ch1 : li_hd ((M55.1 175 14).toInt = (M42.1 175 14).toInt + 1 → (li_hr M55).toInt = rd_ch (li_by (M42.1 180)) TY ((M42.1 175 14).toInt + 1)) := li_hdI fun h9 => hr_pt bM55 (by omega) (fs_180 hf80 hf (fun i => (show ¬ (180 = 193 ∨ 180 = 194 ∨ 180 = 1000 ∨ (180 = 175 ∧ i = 10) ∨ (180 = 175 ∧ i = 12) ∨ (180 = 175 ∧ i = 13) ∨ (180 = 175 ∧ i = 14) ∨ (180 = 175 ∧ i = 15) ∨ (180 = 175 ∧ i = 38) ∨ (180 = 175 ∧ i = 7)) by first | (simp; done) | omega))) em1 h9
              have z97 : (97 : Int32).toInt = 97 := rfl
              have z7 : (7 : Int32).toInt = 7 := rfl
              have zm1 : ((-1) : Int32).toInt = -1 := rfl
              refine li_callV (n := 3) (As := [.int 97, .int 7, .int (-1)]) dX12_grammar_99 (k_X12_oneOf (d - 1) (by omega) 97 7 (-1) M55 hJ ⟨by omega, by omega⟩ ⟨by omega, by omega⟩) (by omega) (Nat.le_of_ble_eq_true rfl) w_1593 w_1595 w_46 w_112 w_1596 (by decide +kernel) rfl (by decide) sh_175 rfl rfl (Nat.le_of_ble_eq_true rfl) (fun r M59 h60 => ?_)
              obtain ⟨⟨x58, rfl, qx58⟩, h60, jM59⟩ := h60
              have gx58 := tl_rg x58
              have hf := li_fs_trans hf h60 (fun i k => fun hZq => Or.elim hZq (fun hZq => Or.inr (Or.inr (Or.inr (Or.inr (Or.inr (Or.inr (Or.inl hZq))))))) (fun hZq => Or.inr (Or.inr (Or.inr (Or.inr (Or.inr (Or.inr (Or.inr (Or.inl hZq)))))))))
              have hJ := jM59
              have rM59_7 := J_sl7 (M := M59) hJ
              have rM59_12 := J_sl12 (M := M59) hJ
              have rM59_13 := J_sl13 (M := M59) hJ
              have rM59_14 := J_sl14 (M := M59) hJ
              have rM59_15 := J_sl15 (M := M59) hJ
              have rM59_38 := J_sl38 (M := M59) hJ
              have mM59_7 : (M59.1 175 7).toInt = (M55.1 175 7).toInt := tl_slot (h60.1 175 7 (show ¬ ((175 = 175 ∧ 7 = 14) ∨ (175 = 175 ∧ 7 = 15)) by decide))
              have mM59_12 : (M59.1 175 12).toInt = (M55.1 175 12).toInt := tl_slot (h60.1 175 12 (show ¬ ((175 = 175 ∧ 12 = 14) ∨ (175 = 175 ∧ 12 = 15)) by decide))
              have mM59_13 : (M59.1 175 13).toInt = (M55.1 175 13).toInt := tl_slot (h60.1 175 13 (show ¬ ((175 = 175 ∧ 13 = 14) ∨ (175 = 175 ∧ 13 = 15)) by decide))
              have mM59_38 : (M59.1 175 38).toInt = (M55.1 175 38).toInt := tl_slot (h60.1 175 38 (show ¬ ((175 = 175 ∧ 38 = 14) ∨ (175 = 175 ∧ 38 = 15)) by decide))
              have Pgn_M59 : li_gn (M59.1 194) (hBZq) (TY) (3 * (x38 : Int32).toInt + 1) (-1 - (M59.1 175 15).toInt) := li_gn_tr (funext fun i => h60.1 194 i (show ¬ ((194 = 175 ∧ i = 14) ∨ (194 = 175 ∧ i = 15)) by first | (simp; done) | omega)) rfl rfl (Int.le_antisymm (by omega) (by omega)) (fun h9 => by omega) Pgn_M55
              have Pcx_M59 : li_cx (M59.1 193) (g3Zq) := li_cx_tr (funext fun i => h60.1 193 i (show ¬ ((193 = 175 ∧ i = 14) ∨ (193 = 175 ∧ i = 15)) by first | (simp; done) | omega)) rfl Pcx_M55
              have bM59 : M59.2.2 0 = some 180 := (h60.2.2 0 (fun h9 => by first | exact (h9 : False).elim | (simp at h9; done) | omega)).trans bM55
              have s1Zq : li_hd (((M59.1 175 15).toInt = -1 ∧ (97 ≤ rd_ch (li_by (M42.1 180)) TY ((M42.1 175 14).toInt) ∧ rd_ch (li_by (M42.1 180)) TY ((M42.1 175 14).toInt) ≤ 103) ∧ (97 ≤ rd_ch (li_by (M42.1 180)) TY ((M42.1 175 14).toInt + 1) ∧ rd_ch (li_by (M42.1 180)) TY ((M42.1 175 14).toInt + 1) ≤ 103) ∧ (M59.1 175 14).toInt = (M42.1 175 14).toInt + 2 ∧ x58.toInt = rd_ch (li_by (M42.1 180)) TY ((M42.1 175 14).toInt + 1) - 97) ∨ (¬ (M59.1 175 15).toInt = -1 ∧ OK = 0 ∧ QQ = (M59.1 175 15).toInt ∧ QQ ≤ TY)) ∧ (M55.1 175 14).toInt ≤ (M59.1 175 14).toInt ∧ (M59.1 175 14).toInt ≤ TY ∧ -1 ≤ (M59.1 175 15).toInt := by
                rcases s0Zq with ⟨c0, k0Zq, ca⟩ | ⟨c0, cb, cc, cd⟩
                · have hw : (M55.1 175 15).toInt = -1 := Int.le_antisymm (by omega) (by omega)
                  have hcZq := ch1 (Int.le_antisymm (by omega) (by omega))
                  by_cases e9Zq : (97 ≤ rd_ch (li_by (M42.1 180)) TY ((M42.1 175 14).toInt + 1) ∧ rd_ch (li_by (M42.1 180)) TY ((M42.1 175 14).toInt + 1) ≤ 103)
                  · have u := qx58.2.1 hw (by omega) (by omega) (fun h9 => by omega); exact ⟨Or.inl ⟨u.2.2.1, k0Zq, e9Zq, Int.le_antisymm (by omega) (by omega), Int.le_antisymm (by omega) (by omega)⟩, by omega, by omega, by omega⟩
                  · have u := qx58.2.2.1 hw (fun h9 => e9Zq ⟨by omega, by omega⟩)
                    rcases stq with t | t | t | t | t | t | t
                    · exact absurd t.1 (by exact fun h9 => h9 k0Zq)
                    · exact ⟨Or.inr ⟨by omega, t.2.2.1, (Int.le_antisymm (by omega) (by omega)), by omega⟩, by omega, by omega, by omega⟩
                    · exact absurd t.2.1 (by exact e9Zq)
                    · exact absurd t.2.1 (by exact e9Zq)
                    · exact absurd t.2.1 (by exact e9Zq)
                    · exact absurd t.2.1 (by exact e9Zq)
                    · exact absurd t.2.1 (by exact e9Zq)
                · have u := qx58.1 (fun h9 => c0 (Int.le_antisymm (by omega) (by omega)))
                  exact ⟨Or.inr ⟨fun h9 => c0 (Int.le_antisymm (by omega) (by omega)), cb, Int.le_antisymm (by omega) (by omega), cd⟩, by omega, by omega, by omega⟩
              have as1 := s1Zq.2
              have s1Zq := s1Zq.1
              try clear qx58
              refine li_iast dX12_grammar_102 (by decide) sh_194 (tl_in ⟨by omega, by omega⟩) ?_
              refine li_nm (fun M61 eM61 => ?_)
              have hf := li_fs_ui hf (Or.inr (Or.inl rfl)) eM61
              have hJ := hJ.st (by decide) (li_el_free (by first | (unfold li_led; decide) | (unfold li_led; omega)) (by decide) (by decide) (by first | (unfold li_rq; decide) | (unfold li_rq; omega))) eM61
              have rM61_7 := J_sl7 (M := M61) hJ
              have rM61_12 := J_sl12 (M := M61) hJ
              have rM61_13 := J_sl13 (M := M61) hJ
              have rM61_14 := J_sl14 (M := M61) hJ
              have rM61_15 := J_sl15 (M := M61) hJ
              have rM61_38 := J_sl38 (M := M61) hJ
              have mM61_7 : (M61.1 175 7).toInt = (M59.1 175 7).toInt := by rw [eM61, li_ui_at, if_neg (by decide)]
              have mM61_12 : (M61.1 175 12).toInt = (M59.1 175 12).toInt := by rw [eM61, li_ui_at, if_neg (by decide)]
              have mM61_13 : (M61.1 175 13).toInt = (M59.1 175 13).toInt := by rw [eM61, li_ui_at, if_neg (by decide)]
              have mM61_14 : (M61.1 175 14).toInt = (M59.1 175 14).toInt := by rw [eM61, li_ui_at, if_neg (by decide)]
              have mM61_15 : (M61.1 175 15).toInt = (M59.1 175 15).toInt := by rw [eM61, li_ui_at, if_neg (by decide)]
              have mM61_38 : (M61.1 175 38).toInt = (M59.1 175 38).toInt := by rw [eM61, li_ui_at, if_neg (by decide)]
              have Pcx_M61 : li_cx (M61.1 193) (g3Zq) := li_cx_tr (li_cell_ui eM61 (by decide)) rfl Pcx_M59
              have Pgn_M61 : li_gn (M61.1 194) (hBZq) (TY) (3 * (x38 : Int32).toInt + 2) (-1 - (M61.1 175 15).toInt) := li_gk_stJ Pgn_M59 eM61 (Int.le_antisymm (by omega) (by omega)) (by omega) (fun h9 => by omega) (fun h9 => by have h8 : (M61.1 175 15).toInt = -1 := Int.le_antisymm (by omega) (by omega); have k9 : (x58 : Int32).toInt = rd_ch (li_by (M42.1 180)) TY ((M42.1 175 14).toInt + 1) - 97 ∧ (97 ≤ rd_ch (li_by (M42.1 180)) TY ((M42.1 175 14).toInt + 1) ∧ rd_ch (li_by (M42.1 180)) TY ((M42.1 175 14).toInt + 1) ≤ 103) := (by rcases s1Zq with ⟨c0, k0Zq, k1Zq, ca⟩ | c; exact ⟨ca.2, k1Zq⟩; exact absurd (Int.le_antisymm (by omega) (by omega)) c.1); exact ⟨by rw [k9.1, gvq1], by omega, by omega⟩) (Int.le_antisymm (by omega) (by omega))
              have bM61 : M61.2.2 0 = some 180 := by rw [eM61]; exact bM59
              refine li_aload_n 2 dX12_grammar_103 rfl ?_
              refine li_bipush 62 dX12_grammar_104 (by decide) ?_
              have em2 : min (M61.1 175 12).toInt (M61.1 175 13).toInt = TY := by rw [show (M61.1 175 12).toInt = TY from Int.le_antisymm (by omega) (by omega), show (M61.1 175 13).toInt = 80 from Int.le_antisymm (by omega) (by omega)]; omega
              have ch2 : li_hd ((M61.1 175 14).toInt = (M42.1 175 14).toInt + 2 → (li_hr M61).toInt = rd_ch (li_by (M42.1 180)) TY ((M42.1 175 14).toInt + 2)) := li_hdI fun h9 => hr_pt bM61 (by omega) (fs_180 hf80 hf (fun i => (show ¬ (180 = 193 ∨ 180 = 194 ∨ 180 = 1000 ∨ (180 = 175 ∧ i = 10) ∨ (180 = 175 ∧ i = 12) ∨ (180 = 175 ∧ i = 13) ∨ (180 = 175 ∧ i = 14) ∨ (180 = 175 ∧ i = 15) ∨ (180 = 175 ∧ i = 38) ∨ (180 = 175 ∧ i = 7)) by first | (simp; done) | omega))) em2 h9
              have z62Zq : (62 : Int32).toInt = 62 := rfl
              refine li_callV (n := 1) (As := [.int 62]) dX12_grammar_106 (k_X12_need (d - 1) (by omega) 62 M61 hJ (by omega)) (by omega) (Nat.le_of_ble_eq_true rfl) w_1601 w_1603 w_48 w_112 w_1604 (by decide +kernel) rfl (by decide) sh_175 rfl rfl (Nat.le_of_ble_eq_true rfl) (fun r M63 h64 => ?_)
              obtain ⟨rfl, h64, jM63, nM63⟩ := h64
              have hf := li_fs_trans hf h64 (fun i k => fun hZq => Or.elim hZq (fun hZq => Or.inr (Or.inr (Or.inr (Or.inr (Or.inr (Or.inr (Or.inl hZq))))))) (fun hZq => Or.inr (Or.inr (Or.inr (Or.inr (Or.inr (Or.inr (Or.inr (Or.inl hZq)))))))))
              have hJ := jM63
              have rM63_7 := J_sl7 (M := M63) hJ
              have rM63_12 := J_sl12 (M := M63) hJ
              have rM63_13 := J_sl13 (M := M63) hJ
              have rM63_14 := J_sl14 (M := M63) hJ
              have rM63_15 := J_sl15 (M := M63) hJ
              have rM63_38 := J_sl38 (M := M63) hJ
              have mM63_7 : (M63.1 175 7).toInt = (M61.1 175 7).toInt := tl_slot (h64.1 175 7 (show ¬ ((175 = 175 ∧ 7 = 14) ∨ (175 = 175 ∧ 7 = 15)) by decide))
              have mM63_12 : (M63.1 175 12).toInt = (M61.1 175 12).toInt := tl_slot (h64.1 175 12 (show ¬ ((175 = 175 ∧ 12 = 14) ∨ (175 = 175 ∧ 12 = 15)) by decide))
              have mM63_13 : (M63.1 175 13).toInt = (M61.1 175 13).toInt := tl_slot (h64.1 175 13 (show ¬ ((175 = 175 ∧ 13 = 14) ∨ (175 = 175 ∧ 13 = 15)) by decide))
              have mM63_38 : (M63.1 175 38).toInt = (M61.1 175 38).toInt := tl_slot (h64.1 175 38 (show ¬ ((175 = 175 ∧ 38 = 14) ∨ (175 = 175 ∧ 38 = 15)) by decide))
              have Pgn_M63 : li_gn (M63.1 194) (hBZq) (TY) (3 * (x38 : Int32).toInt + 2) (-1 - (M63.1 175 15).toInt) := li_gn_tr (funext fun i => h64.1 194 i (show ¬ ((194 = 175 ∧ i = 14) ∨ (194 = 175 ∧ i = 15)) by first | (simp; done) | omega)) rfl rfl (Int.le_antisymm (by omega) (by omega)) (fun h9 => by omega) Pgn_M61
              have Pcx_M63 : li_cx (M63.1 193) (g3Zq) := li_cx_tr (funext fun i => h64.1 193 i (show ¬ ((193 = 175 ∧ i = 14) ∨ (193 = 175 ∧ i = 15)) by first | (simp; done) | omega)) rfl Pcx_M61
              have bM63 : M63.2.2 0 = some 180 := (h64.2.2 0 (fun h9 => by first | exact (h9 : False).elim | (simp at h9; done) | omega)).trans bM61
              have s2Zq : li_hd (((M63.1 175 15).toInt = -1 ∧ (97 ≤ rd_ch (li_by (M42.1 180)) TY ((M42.1 175 14).toInt) ∧ rd_ch (li_by (M42.1 180)) TY ((M42.1 175 14).toInt) ≤ 103) ∧ (97 ≤ rd_ch (li_by (M42.1 180)) TY ((M42.1 175 14).toInt + 1) ∧ rd_ch (li_by (M42.1 180)) TY ((M42.1 175 14).toInt + 1) ≤ 103) ∧ rd_ch (li_by (M42.1 180)) TY ((M42.1 175 14).toInt + 2) = 62 ∧ (M63.1 175 14).toInt = (M42.1 175 14).toInt + 3) ∨ (¬ (M63.1 175 15).toInt = -1 ∧ OK = 0 ∧ QQ = (M63.1 175 15).toInt ∧ QQ ≤ TY)) ∧ (M61.1 175 14).toInt ≤ (M63.1 175 14).toInt ∧ (M63.1 175 14).toInt ≤ TY ∧ -1 ≤ (M63.1 175 15).toInt := by
                rcases s1Zq with ⟨c0, k0Zq, k1Zq, ca⟩ | ⟨c0, cb, cc, cd⟩
                · have hw : (M61.1 175 15).toInt = -1 := Int.le_antisymm (by omega) (by omega)
                  have hcZq := ch2 (Int.le_antisymm (by omega) (by omega))
                  by_cases e9Zq : (li_hr M61).toInt = (62 : Int32).toInt
                  · have u := nM63.1 hw e9Zq; exact ⟨Or.inl ⟨u.2.1, k0Zq, k1Zq, Int.le_antisymm (by omega) (by omega), Int.le_antisymm (by omega) (by omega)⟩, by omega, by omega, by omega⟩
                  · have u := nM63.2.1 hw e9Zq
                    have e9Zq : ¬ rd_ch (li_by (M42.1 180)) TY ((M42.1 175 14).toInt + 2) = 62 := fun h9 => e9Zq (Int.le_antisymm (by omega) (by omega))
                    rcases stq with t | t | t | t | t | t | t
                    · exact absurd t.1 (by exact fun h9 => h9 k0Zq)
                    · exact absurd t.2.1 (by exact fun h9 => h9 k1Zq)
                    · exact ⟨Or.inr ⟨by omega, t.2.2.2.1, (Int.le_antisymm (by omega) (by omega)), by omega⟩, by omega, by omega, by omega⟩
                    · exact absurd t.2.2.1 (by exact e9Zq)
                    · exact absurd t.2.2.1 (by exact e9Zq)
                    · exact absurd t.2.2.1 (by exact e9Zq)
                    · exact absurd t.2.2.1 (by exact e9Zq)
                · have u := nM63.2.2 (fun h9 => c0 (Int.le_antisymm (by omega) (by omega)))
                  exact ⟨Or.inr ⟨fun h9 => c0 (Int.le_antisymm (by omega) (by omega)), cb, Int.le_antisymm (by omega) (by omega), cd⟩, by omega, by omega, by omega⟩
              have as2 := s2Zq.2
              have s2Zq := s2Zq.1
              try clear nM63
              refine li_aload_n 2 dX12_grammar_109 rfl ?_
              refine li_getr (k := 37) (N := 52) (T := TX12) (C0 := RX12) dX12_grammar_110 (by decide) sh_175 rfl rfl (by decide) (by decide) li_in12 w_1441 ?_
              refine li_iconst 3 dX12_grammar_113 (by decide) ?_
              refine li_iload_n 1 dX12_grammar_114 rfl ?_
              refine li_imul dX12_grammar_115 ?_
              refine li_top (fun x65 ex65 => ?_)
              have z3 : (3 : Int32).toInt = 3 := rfl
              try (have tx65 : x65.toInt = 3 * (x38 : Int32).toInt := tl_mul ex65 (show -2147483648 ≤ 3 * (x38 : Int32).toInt ∧ 3 * (x38 : Int32).toInt ≤ 2147483647 from ⟨(by omega), (by omega)⟩))
              refine li_iconst 2 dX12_grammar_116 (by decide) ?_
              refine li_iadd dX12_grammar_117 ?_
              refine li_top (fun x66 ex66 => ?_)
              have z2 : (2 : Int32).toInt = 2 := rfl
              try (have tx66 : x66.toInt = (x65 : Int32).toInt + (2 : Int32).toInt := tl_add ex66 ⟨by omega, by omega⟩)
              refine li_aload_n 2 dX12_grammar_118 rfl ?_
              refine li_bipush 97 dX12_grammar_119 (by decide) ?_
              refine li_bipush 7 dX12_grammar_121 (by decide) ?_
              refine li_iconst (-1) dX12_grammar_123 (by decide) ?_
              have em3 : min (M63.1 175 12).toInt (M63.1 175 13).toInt = TY := by rw [show (M63.1 175 12).toInt = TY from Int.le_antisymm (by omega) (by omega), show (M63.1 175 13).toInt = 80 from Int.le_antisymm (by omega) (by omega)]; omega
              have ch3 : li_hd ((M63.1 175 14).toInt = (M42.1 175 14).toInt + 3 → (li_hr M63).toInt = rd_ch (li_by (M42.1 180)) TY ((M42.1 175 14).toInt + 3)) := li_hdI fun h9 => hr_pt bM63 (by omega) (fs_180 hf80 hf (fun i => (show ¬ (180 = 193 ∨ 180 = 194 ∨ 180 = 1000 ∨ (180 = 175 ∧ i = 10) ∨ (180 = 175 ∧ i = 12) ∨ (180 = 175 ∧ i = 13) ∨ (180 = 175 ∧ i = 14) ∨ (180 = 175 ∧ i = 15) ∨ (180 = 175 ∧ i = 38) ∨ (180 = 175 ∧ i = 7)) by first | (simp; done) | omega))) em3 h9
              have z97 : (97 : Int32).toInt = 97 := rfl
              have z7 : (7 : Int32).toInt = 7 := rfl
              have zm1 : ((-1) : Int32).toInt = -1 := rfl
              refine li_callV (n := 3) (As := [.int 97, .int 7, .int (-1)]) dX12_grammar_124 (k_X12_oneOf (d - 1) (by omega) 97 7 (-1) M63 hJ ⟨by omega, by omega⟩ ⟨by omega, by omega⟩) (by omega) (Nat.le_of_ble_eq_true rfl) w_1593 w_1595 w_46 w_112 w_1596 (by decide +kernel) rfl (by decide) sh_175 rfl rfl (Nat.le_of_ble_eq_true rfl) (fun r M68 h69 => ?_)
              obtain ⟨⟨x67, rfl, qx67⟩, h69, jM68⟩ := h69
              have gx67 := tl_rg x67
              have hf := li_fs_trans hf h69 (fun i k => fun hZq => Or.elim hZq (fun hZq => Or.inr (Or.inr (Or.inr (Or.inr (Or.inr (Or.inr (Or.inl hZq))))))) (fun hZq => Or.inr (Or.inr (Or.inr (Or.inr (Or.inr (Or.inr (Or.inr (Or.inl hZq)))))))))
              have hJ := jM68
              have rM68_7 := J_sl7 (M := M68) hJ
              have rM68_12 := J_sl12 (M := M68) hJ
              have rM68_13 := J_sl13 (M := M68) hJ
              have rM68_14 := J_sl14 (M := M68) hJ
              have rM68_15 := J_sl15 (M := M68) hJ
              have rM68_38 := J_sl38 (M := M68) hJ
              have mM68_7 : (M68.1 175 7).toInt = (M63.1 175 7).toInt := tl_slot (h69.1 175 7 (show ¬ ((175 = 175 ∧ 7 = 14) ∨ (175 = 175 ∧ 7 = 15)) by decide))
              have mM68_12 : (M68.1 175 12).toInt = (M63.1 175 12).toInt := tl_slot (h69.1 175 12 (show ¬ ((175 = 175 ∧ 12 = 14) ∨ (175 = 175 ∧ 12 = 15)) by decide))
              have mM68_13 : (M68.1 175 13).toInt = (M63.1 175 13).toInt := tl_slot (h69.1 175 13 (show ¬ ((175 = 175 ∧ 13 = 14) ∨ (175 = 175 ∧ 13 = 15)) by decide))
              have mM68_38 : (M68.1 175 38).toInt = (M63.1 175 38).toInt := tl_slot (h69.1 175 38 (show ¬ ((175 = 175 ∧ 38 = 14) ∨ (175 = 175 ∧ 38 = 15)) by decide))
              have Pgn_M68 : li_gn (M68.1 194) (hBZq) (TY) (3 * (x38 : Int32).toInt + 2) (-1 - (M68.1 175 15).toInt) := li_gn_tr (funext fun i => h69.1 194 i (show ¬ ((194 = 175 ∧ i = 14) ∨ (194 = 175 ∧ i = 15)) by first | (simp; done) | omega)) rfl rfl (Int.le_antisymm (by omega) (by omega)) (fun h9 => by omega) Pgn_M63
              have Pcx_M68 : li_cx (M68.1 193) (g3Zq) := li_cx_tr (funext fun i => h69.1 193 i (show ¬ ((193 = 175 ∧ i = 14) ∨ (193 = 175 ∧ i = 15)) by first | (simp; done) | omega)) rfl Pcx_M63
              have bM68 : M68.2.2 0 = some 180 := (h69.2.2 0 (fun h9 => by first | exact (h9 : False).elim | (simp at h9; done) | omega)).trans bM63
              have s3Zq : li_hd (((M68.1 175 15).toInt = -1 ∧ (97 ≤ rd_ch (li_by (M42.1 180)) TY ((M42.1 175 14).toInt) ∧ rd_ch (li_by (M42.1 180)) TY ((M42.1 175 14).toInt) ≤ 103) ∧ (97 ≤ rd_ch (li_by (M42.1 180)) TY ((M42.1 175 14).toInt + 1) ∧ rd_ch (li_by (M42.1 180)) TY ((M42.1 175 14).toInt + 1) ≤ 103) ∧ rd_ch (li_by (M42.1 180)) TY ((M42.1 175 14).toInt + 2) = 62 ∧ (97 ≤ rd_ch (li_by (M42.1 180)) TY ((M42.1 175 14).toInt + 3) ∧ rd_ch (li_by (M42.1 180)) TY ((M42.1 175 14).toInt + 3) ≤ 103) ∧ (M68.1 175 14).toInt = (M42.1 175 14).toInt + 4 ∧ x67.toInt = rd_ch (li_by (M42.1 180)) TY ((M42.1 175 14).toInt + 3) - 97) ∨ (¬ (M68.1 175 15).toInt = -1 ∧ OK = 0 ∧ QQ = (M68.1 175 15).toInt ∧ QQ ≤ TY)) ∧ (M63.1 175 14).toInt ≤ (M68.1 175 14).toInt ∧ (M68.1 175 14).toInt ≤ TY ∧ -1 ≤ (M68.1 175 15).toInt := by
                rcases s2Zq with ⟨c0, k0Zq, k1Zq, k2Zq, ca⟩ | ⟨c0, cb, cc, cd⟩
                · have hw : (M63.1 175 15).toInt = -1 := Int.le_antisymm (by omega) (by omega)
                  have hcZq := ch3 (Int.le_antisymm (by omega) (by omega))
                  by_cases e9Zq : (97 ≤ rd_ch (li_by (M42.1 180)) TY ((M42.1 175 14).toInt + 3) ∧ rd_ch (li_by (M42.1 180)) TY ((M42.1 175 14).toInt + 3) ≤ 103)
                  · have u := qx67.2.1 hw (by omega) (by omega) (fun h9 => by omega); exact ⟨Or.inl ⟨u.2.2.1, k0Zq, k1Zq, k2Zq, e9Zq, Int.le_antisymm (by omega) (by omega), Int.le_antisymm (by omega) (by omega)⟩, by omega, by omega, by omega⟩
                  · have u := qx67.2.2.1 hw (fun h9 => e9Zq ⟨by omega, by omega⟩)
                    rcases stq with t | t | t | t | t | t | t
                    · exact absurd t.1 (by exact fun h9 => h9 k0Zq)
                    · exact absurd t.2.1 (by exact fun h9 => h9 k1Zq)
                    · exact absurd t.2.2.1 (by exact fun h9 => h9 k2Zq)
                    · exact ⟨Or.inr ⟨by omega, t.2.2.2.2.1, (Int.le_antisymm (by omega) (by omega)), by omega⟩, by omega, by omega, by omega⟩
                    · exact absurd t.2.2.2.1 (by exact e9Zq)
                    · exact absurd t.2.2.2.1 (by exact e9Zq)
                    · exact absurd t.2.2.2.1 (by exact e9Zq)
                · have u := qx67.1 (fun h9 => c0 (Int.le_antisymm (by omega) (by omega)))
                  exact ⟨Or.inr ⟨fun h9 => c0 (Int.le_antisymm (by omega) (by omega)), cb, Int.le_antisymm (by omega) (by omega), cd⟩, by omega, by omega, by omega⟩
              have as3 := s3Zq.2
              have s3Zq := s3Zq.1
              have go3 : li_hd ((M68.1 175 15).toInt = -1 → (M42.1 175 14).toInt + 4 < TY → rd_ch (li_by (M42.1 180)) TY ((M42.1 175 14).toInt + 4) = 59 → li_gq (li_by (M42.1 180)) TY (10 - (x38 : Int32).toInt - 1) ((M42.1 175 14).toInt + 5) ((x38 : Int32).toInt + 1) OK QQ MM) := li_hdI fun h9 h8 h7 => by
                rcases s3Zq with ⟨c0, k0Zq, k1Zq, k2Zq, k3Zq, ca⟩ | ⟨c0, _⟩
                · exact li_gq_go gq0 (by omega) ⟨k0Zq.1, k0Zq.2, k1Zq.1, k1Zq.2, k2Zq, k3Zq.1, k3Zq.2, h8, h7⟩
                · exact absurd h9 c0
              have s4Zq : li_hd (((M68.1 175 15).toInt = -1 ∧ (M68.1 175 14).toInt = (M42.1 175 14).toInt + 4 ∧ ((TY ≤ (M42.1 175 14).toInt + 4 ∧ rd_ch (li_by (M42.1 180)) TY ((M42.1 175 14).toInt + 4) = -1 ∧ OK = 1 ∧ QQ = (M42.1 175 14).toInt + 4 ∧ MM = (x38 : Int32).toInt + 1) ∨ ((M42.1 175 14).toInt + 4 < TY ∧ ¬ rd_ch (li_by (M42.1 180)) TY ((M42.1 175 14).toInt + 4) = 59 ∧ OK = 0 ∧ QQ = (M42.1 175 14).toInt + 4) ∨ ((M42.1 175 14).toInt + 4 < TY ∧ rd_ch (li_by (M42.1 180)) TY ((M42.1 175 14).toInt + 4) = 59))) ∨ (¬ (M68.1 175 15).toInt = -1 ∧ OK = 0 ∧ QQ = (M68.1 175 15).toInt ∧ QQ ≤ TY)) := by
                rcases s3Zq with ⟨c0, k0Zq, k1Zq, k2Zq, k3Zq, ca⟩ | c
                · rcases stq with t | t | t | t | t | t | t
                  · exact absurd k0Zq t.1
                  · exact absurd k1Zq t.2.1
                  · exact absurd k2Zq t.2.2.1
                  · exact absurd k3Zq t.2.2.2.1
                  · exact Or.inl ⟨c0, ca.1, Or.inl ⟨t.2.2.2.2.1, t.2.2.2.2.2.1, t.2.2.2.2.2.2.1, t.2.2.2.2.2.2.2.1, t.2.2.2.2.2.2.2.2⟩⟩
                  · exact Or.inl ⟨c0, ca.1, Or.inr (Or.inl ⟨t.2.2.2.2.1, t.2.2.2.2.2.1, t.2.2.2.2.2.2.1, t.2.2.2.2.2.2.2⟩)⟩
                  · exact Or.inl ⟨c0, ca.1, Or.inr (Or.inr ⟨t.2.2.2.2.1, t.2.2.2.2.2⟩)⟩
                · exact Or.inr c
              have q4Zq : li_hd ((M68.1 175 15).toInt = -1 → (M68.1 175 14).toInt = (M42.1 175 14).toInt + 4) := li_hdI fun h9 => by rcases s4Zq with c | c; exact c.2.1; exact absurd h9 c.1
              have r4 : li_hd ((M68.1 175 15).toInt = -1 → rd_ch (li_by (M42.1 180)) TY ((M42.1 175 14).toInt + 4) = 59 → (M42.1 175 14).toInt + 4 < TY) := li_hdI fun h9 h8 => by
                rcases s4Zq with ⟨_, _, t⟩ | c
                · rcases t with t | t | t
                  · exact absurd (t.2.1.symm.trans h8) (by decide)
                  · exact absurd h8 t.2.1
                  · exact t.1
                · exact absurd h9 c.1
              have v3 : li_hd ((M68.1 175 15).toInt = -1 → x67.toInt = rd_ch (li_by (M42.1 180)) TY ((M42.1 175 14).toInt + 3) - 97 ∧ (97 ≤ rd_ch (li_by (M42.1 180)) TY ((M42.1 175 14).toInt + 3) ∧ rd_ch (li_by (M42.1 180)) TY ((M42.1 175 14).toInt + 3) ≤ 103)) := li_hdI fun h9 => by rcases s3Zq with ⟨c0, k0Zq, k1Zq, k2Zq, k3Zq, ca⟩ | c; exact ⟨ca.2, k3Zq⟩; exact absurd h9 c.1
              clear s3Zq
              try clear qx67
              refine li_iast dX12_grammar_127 (by decide) sh_194 (tl_in ⟨by omega, by omega⟩) ?_
              refine li_nm (fun M70 eM70 => ?_)
              have hf := li_fs_ui hf (Or.inr (Or.inl rfl)) eM70
              have hJ := hJ.st (by decide) (li_el_free (by first | (unfold li_led; decide) | (unfold li_led; omega)) (by decide) (by decide) (by first | (unfold li_rq; decide) | (unfold li_rq; omega))) eM70
              have rM70_7 := J_sl7 (M := M70) hJ
              have rM70_12 := J_sl12 (M := M70) hJ
              have rM70_13 := J_sl13 (M := M70) hJ
              have rM70_14 := J_sl14 (M := M70) hJ
              have rM70_15 := J_sl15 (M := M70) hJ
              have rM70_38 := J_sl38 (M := M70) hJ
              have mM70_7 : (M70.1 175 7).toInt = (M68.1 175 7).toInt := by rw [eM70, li_ui_at, if_neg (by decide)]
              have mM70_12 : (M70.1 175 12).toInt = (M68.1 175 12).toInt := by rw [eM70, li_ui_at, if_neg (by decide)]
              have mM70_13 : (M70.1 175 13).toInt = (M68.1 175 13).toInt := by rw [eM70, li_ui_at, if_neg (by decide)]
              have mM70_14 : (M70.1 175 14).toInt = (M68.1 175 14).toInt := by rw [eM70, li_ui_at, if_neg (by decide)]
              have mM70_15 : (M70.1 175 15).toInt = (M68.1 175 15).toInt := by rw [eM70, li_ui_at, if_neg (by decide)]
              have mM70_38 : (M70.1 175 38).toInt = (M68.1 175 38).toInt := by rw [eM70, li_ui_at, if_neg (by decide)]
              have Pcx_M70 : li_cx (M70.1 193) (g3Zq) := li_cx_tr (li_cell_ui eM70 (by decide)) rfl Pcx_M68
              have Pgn_M70 : li_gn (M70.1 194) (hBZq) (TY) (3 * (x38 : Int32).toInt + 3) (-1 - (M70.1 175 15).toInt) := li_gk_stJ Pgn_M68 eM70 (Int.le_antisymm (by omega) (by omega)) (by omega) (fun h9 => by omega) (fun h9 => by have h8 : (M70.1 175 15).toInt = -1 := Int.le_antisymm (by omega) (by omega); have k9 := v3 (Int.le_antisymm (by omega) (by omega)); exact ⟨by rw [k9.1, gvq2], by omega, by omega⟩) (Int.le_antisymm (by omega) (by omega))
              have bM70 : M70.2.2 0 = some 180 := by rw [eM70]; exact bM68
              have em4 : min (M70.1 175 12).toInt (M70.1 175 13).toInt = TY := by rw [show (M70.1 175 12).toInt = TY from Int.le_antisymm (by omega) (by omega), show (M70.1 175 13).toInt = 80 from Int.le_antisymm (by omega) (by omega)]; omega
              have ch4 : li_hd ((M70.1 175 14).toInt = (M42.1 175 14).toInt + 4 → (li_hr M70).toInt = rd_ch (li_by (M42.1 180)) TY ((M42.1 175 14).toInt + 4)) := li_hdI fun h9 => hr_pt bM70 (by omega) (fs_180 hf80 hf (fun i => (show ¬ (180 = 193 ∨ 180 = 194 ∨ 180 = 1000 ∨ (180 = 175 ∧ i = 10) ∨ (180 = 175 ∧ i = 12) ∨ (180 = 175 ∧ i = 13) ∨ (180 = 175 ∧ i = 14) ∨ (180 = 175 ∧ i = 15) ∨ (180 = 175 ∧ i = 38) ∨ (180 = 175 ∧ i = 7)) by first | (simp; done) | omega))) em4 h9
              have q5Zq : li_hd ((M70.1 175 15).toInt = -1 → (M70.1 175 14).toInt = (M42.1 175 14).toInt + 4) := li_hdI fun h9 => (show (M70.1 175 14).toInt = (M68.1 175 14).toInt from Int.le_antisymm (by omega) (by omega)).trans (q4Zq (Int.le_antisymm (by omega) (by omega)))
              have w5 : (M70.1 175 15).toInt = (M68.1 175 15).toInt := Int.le_antisymm (by omega) (by omega)
              have Pgx_M70 : li_gx (M70.1 180) (TY) (10 - (x38 : Int32).toInt - 1) ((M70.1 175 14).toInt) ((x38 : Int32).toInt + 1) (OK) (QQ) (MM) ((M70.1 175 15).toInt) ((li_hr M70).toInt) := fun h8 h7 => li_gq_tr (congrArg li_by (fs_180 hf80 hf (fun i => (show ¬ (180 = 193 ∨ 180 = 194 ∨ 180 = 1000 ∨ (180 = 175 ∧ i = 10) ∨ (180 = 175 ∧ i = 12) ∨ (180 = 175 ∧ i = 13) ∨ (180 = 175 ∧ i = 14) ∨ (180 = 175 ∧ i = 15) ∨ (180 = 175 ∧ i = 38) ∨ (180 = 175 ∧ i = 7)) by first | (simp; done) | omega)))) rfl rfl (li_45 (q5Zq h8)) rfl rfl rfl rfl (go3 (w5.symm.trans h8) (r4 (w5.symm.trans h8) ((ch4 (q5Zq h8)).symm.trans h7)) ((ch4 (q5Zq h8)).symm.trans h7))
              refine li_pick [0, 1, 2] [(2, .int x37), (1, .int x38), (0, .ref (Z.2.2 175))] rfl ?_
              exact J128  M70 hf hJ ⟨(by first | (exact li_hdI fun h9 => (by have zZq := q5Zq h9; exact (Int.le_antisymm (by omega) (by omega)))) | (exact li_hdI fun h9 => absurd h9 (by omega))), (by omega), (by omega), (by omega), (by first | (exact li_hdI fun h9 => by rcases s4Zq with c | c; exact absurd (w5.trans c.1) h9; exact ⟨ty0, c.2.1, c.2.2.1.trans w5.symm, c.2.2.2⟩) | (exact li_hdI fun _ => ⟨ty0, pz.1, (Int.le_antisymm (by omega) (by omega)), by omega⟩)), (by first | (exact li_hdI fun h9 => by have p5Zq := q5Zq h9; rcases s4Zq with ⟨c0, c1, t | t | t⟩ | c; exact Or.inr (Or.inl ⟨by omega, t.2.2.1, (Int.le_antisymm (by omega) (by omega)), (Int.le_antisymm (by omega) (by omega))⟩); exact Or.inr (Or.inr ⟨by omega, t.2.2.1, (Int.le_antisymm (by omega) (by omega))⟩); exact Or.inl ((ch4 p5Zq).trans t.2); exact absurd (w5.symm.trans h9) c.1) | (exact li_hdI fun h9 => absurd h9 (by omega))), (by omega), (Int.le_antisymm (by omega) (by omega)), (Int.le_antisymm (by omega) (by omega)), (by omega), (Int.le_antisymm (by omega) (by omega)), (Int.le_antisymm (by omega) (by omega))⟩ (by first | exact li_gx_tr rfl (Int.le_antisymm (by omega) (by omega)) (Int.le_antisymm (by omega) (by omega)) (Int.le_antisymm (by omega) (by omega)) (Int.le_antisymm (by omega) (by omega)) (Int.le_antisymm (by omega) (by omega)) (Int.le_antisymm (by omega) (by omega)) (Int.le_antisymm (by omega) (by omega)) (Int.le_antisymm (by omega) (by omega)) (Int.le_antisymm (by omega) (by omega)) Pgx_M70 | exact li_gx_no (by omega)) (by first | exact li_gn_tr rfl rfl rfl (Int.le_antisymm (by omega) (by omega)) (fun h9 => by omega) Pgn_M70 | exact li_gk_0 (by omega) | exact li_gk_no (by omega)) (by first | exact li_cx_tr rfl rfl Pcx_M70) bM70
            · have tc45 : x38.toInt = 10 := tl_eq c45
              refine li_aload_n 2 dX12_grammar_56 rfl ?_
              refine li_aload_n 2 dX12_grammar_57 rfl ?_
              refine li_geti (k := 14) (N := 52) (T := TX12) (C0 := RX12) dX12_grammar_58 (by decide) sh_175 rfl rfl (by decide) li_in12 w_1418 ?_
              refine li_top (fun x71 ex71 => ?_)
              have gx71 : 0 ≤ x71.toInt ∧ x71.toInt ≤ 81 := by rw [ex71]; exact J_sl14 hJ
              have mx71 : x71.toInt = (M42.1 175 14).toInt := tl_slot ex71
              refine li_callV (n := 1) (As := [.int x71]) dX12_grammar_61 (k_X12_fault (d - 1) (by omega) x71 M42 hJ ⟨by omega, by omega⟩) (by omega) (Nat.le_of_ble_eq_true rfl) w_1585 w_1587 w_44 w_112 w_1588 (by decide +kernel) rfl (by decide) sh_175 rfl rfl (Nat.le_of_ble_eq_true rfl) (fun r M73 h74 => ?_)
              obtain ⟨rfl, h74, jM73, nM73⟩ := h74
              have hf := li_fs_trans hf h74 (fun i k => fun hZq => Or.inr (Or.inr (Or.inr (Or.inr (Or.inr (Or.inr (Or.inr (Or.inl hZq))))))))
              have kM73 : (li_hr M73).toInt = (li_hr M42).toInt := li_hr_fs h74 (show ¬ ((175 = 175 ∧ 12 = 15)) by decide) (show ¬ ((175 = 175 ∧ 13 = 15)) by decide) (show ¬ ((175 = 175 ∧ 14 = 15)) by decide) (show ¬ ((1000 = 175 ∧ 0 = 15)) by decide) (fun q i hZq => (show ¬ ((q = 175 ∧ i = 15)) by first | (unfold li_rq at hZq; rcases hZq with rfl | rfl | rfl <;> simp; done) | (unfold li_rq at hZq; omega))) (by assumption)
              have hJ := jM73
              have rM73_7 := J_sl7 (M := M73) hJ
              have rM73_12 := J_sl12 (M := M73) hJ
              have rM73_13 := J_sl13 (M := M73) hJ
              have rM73_14 := J_sl14 (M := M73) hJ
              have rM73_15 := J_sl15 (M := M73) hJ
              have rM73_38 := J_sl38 (M := M73) hJ
              have mM73_7 : (M73.1 175 7).toInt = (M42.1 175 7).toInt := tl_slot (h74.1 175 7 (show ¬ ((175 = 175 ∧ 7 = 15)) by decide))
              have mM73_12 : (M73.1 175 12).toInt = (M42.1 175 12).toInt := tl_slot (h74.1 175 12 (show ¬ ((175 = 175 ∧ 12 = 15)) by decide))
              have mM73_13 : (M73.1 175 13).toInt = (M42.1 175 13).toInt := tl_slot (h74.1 175 13 (show ¬ ((175 = 175 ∧ 13 = 15)) by decide))
              have mM73_14 : (M73.1 175 14).toInt = (M42.1 175 14).toInt := tl_slot (h74.1 175 14 (show ¬ ((175 = 175 ∧ 14 = 15)) by decide))
              have mM73_38 : (M73.1 175 38).toInt = (M42.1 175 38).toInt := tl_slot (h74.1 175 38 (show ¬ ((175 = 175 ∧ 38 = 15)) by decide))
              have Pgn_M73 : li_gn (M73.1 194) (hBZq) (TY) (3 * (x38 : Int32).toInt) (-1 - (M73.1 175 15).toInt) := li_gn_tr (funext fun i => h74.1 194 i (show ¬ ((194 = 175 ∧ i = 15)) by first | (simp; done) | omega)) rfl rfl (Int.le_antisymm (by omega) (by omega)) (fun h9 => by omega) Pgn_M42
              have Pcx_M73 : li_cx (M73.1 193) (g3Zq) := li_cx_tr (funext fun i => h74.1 193 i (show ¬ ((193 = 175 ∧ i = 15)) by first | (simp; done) | omega)) rfl Pcx_M42
              have bM73 : M73.2.2 0 = some 180 := (h74.2.2 0 (fun h9 => by first | exact (h9 : False).elim | (simp at h9; done) | omega)).trans bM42
              have pz := li_gq_z (Pgw_M42 (by omega) (by omega)) (by omega)
              have fz := nM73.1 (Int.le_antisymm (by omega) (by omega))
              clear nM73
              refine li_goto 128 dX12_grammar_64 (by decide) ?_
              refine li_pick [0, 1, 2] [(2, .int x37), (1, .int x38), (0, .ref (Z.2.2 175))] rfl ?_
              exact J128  M73 hf hJ ⟨(by first | (exact li_hdI fun h9 => (by have zZq := q5Zq h9; exact (Int.le_antisymm (by omega) (by omega)))) | (exact li_hdI fun h9 => absurd h9 (by omega))), (by omega), (by omega), (by omega), (by first | (exact li_hdI fun h9 => by rcases s4Zq with c | c; exact absurd (w5.trans c.1) h9; exact ⟨ty0, c.2.1, c.2.2.1.trans w5.symm, c.2.2.2⟩) | (exact li_hdI fun _ => ⟨ty0, pz.1, (Int.le_antisymm (by omega) (by omega)), by omega⟩)), (by first | (exact li_hdI fun h9 => by have p5Zq := q5Zq h9; rcases s4Zq with ⟨c0, c1, t | t | t⟩ | c; exact Or.inr (Or.inl ⟨by omega, t.2.2.1, (Int.le_antisymm (by omega) (by omega)), (Int.le_antisymm (by omega) (by omega))⟩); exact Or.inr (Or.inr ⟨by omega, t.2.2.1, (Int.le_antisymm (by omega) (by omega))⟩); exact Or.inl ((ch4 p5Zq).trans t.2); exact absurd (w5.symm.trans h9) c.1) | (exact li_hdI fun h9 => absurd h9 (by omega))), (by omega), (Int.le_antisymm (by omega) (by omega)), (Int.le_antisymm (by omega) (by omega)), (by omega), (Int.le_antisymm (by omega) (by omega)), (Int.le_antisymm (by omega) (by omega))⟩ (by first | exact li_gx_no (by omega)) (by first | exact li_gn_tr rfl rfl rfl (Int.le_antisymm (by omega) (by omega)) (fun h9 => by omega) Pgn_M73 | exact li_gk_0 (by omega) | exact li_gk_no (by omega)) (by first | exact li_cx_tr rfl rfl Pcx_M73) bM73
          · skip
            refine li_if_eq 141 dX12_grammar_47 (by decide) (fun c => ?_) (fun c => absurd rfl c)
            refine li_pick [0, 1, 2] [(2, .int x37), (1, .int x38), (0, .ref (Z.2.2 175))] rfl ?_
            exact J141 x37 x38 M42 hf hJ ⟨(by omega), (by omega), (by first | (exact li_hdI fun h9 => (i2Zq h9).2) | (exact li_hdI fun h9 => (let zZq := i2Zq (fun h8 => h9 (Int.le_antisymm (by omega) (by omega))); ⟨zZq.2.1, zZq.2.2.1, zZq.2.2.2.1.trans (Int.le_antisymm (by omega) (by omega)), zZq.2.2.2.2⟩))), (by first | (exact li_hdI fun h9 => i3Zq h9 (by assumption)) | (exact li_hdI fun h9 => False.elim (by omega))), (by omega), (Int.le_antisymm (by omega) (by omega)), (Int.le_antisymm (by omega) (by omega)), (by omega), (Int.le_antisymm (by omega) (by omega)), (Int.le_antisymm (by omega) (by omega))⟩ (by first | exact li_gn_tr rfl rfl rfl (Int.le_antisymm (by omega) (by omega)) (fun h9 => by omega) Pgn_M42 | exact li_gk_0 (by omega) | exact li_gk_no (by omega)) (by first | exact li_cx_tr rfl rfl Pcx_M42) bM42
    have z0 : (0 : Int32).toInt = 0 := rfl
    exact L39 _ x9 0 M10 (Nat.lt_succ_self _) hf hJ ⟨(by first | (exact li_hdI fun _ h9 => absurd h9 (by decide)) | (exact li_hdI fun _ _ => (by have zZq := jp (Int.le_antisymm (by omega) (by omega)); exact (Int.le_antisymm (by omega) (by omega)))) | (exact li_hdI fun _ _ => (Int.le_antisymm (by omega) (by omega)))), (by first | (exact Or.inr rfl) | (exact Or.inl rfl) | (rcases hiZq.1 with c | c; exact Or.inr c.1; exact Or.inl c.1)), (by first | (exact li_hdI fun _ => j2Zq) | (rcases hiZq.1 with c | c; exact li_hdI fun _ => c.2; exact li_hdI fun h9 => absurd (c.1.symm.trans h9) (by decide))), (by first | (exact li_hdI fun h9 => (let zZq := j3Zq (fun h8 => h9 (Int.le_antisymm (by omega) (by omega))); ⟨rfl, zZq.1, zZq.2.1, zZq.2.2.1.trans (Int.le_antisymm (by omega) (by omega)), zZq.2.2.2⟩)) | (exact li_hdI fun h9 => (h9 (Int.le_antisymm (by omega) (by omega))).elim)), (by first | (exact li_hdI fun _ h9 => absurd h9 (by decide)) | (exact li_hdI fun h9 _ => by rcases j4Zq (Int.le_antisymm (by omega) (by omega)) with c | c | c; exact absurd (c.trans z59Zq.symm) (qz (Int.le_antisymm (by omega) (by omega))); exact Or.inr (Or.inl ⟨j2Zq, by omega, c.2.1, (Int.le_antisymm (by omega) (by omega)), (Int.le_antisymm (by omega) (by omega))⟩); exact Or.inr (Or.inr ⟨by omega, c.2.1, (Int.le_antisymm (by omega) (by omega))⟩)) | (rcases hiZq.1 with c | c; exact li_hdI fun _ h9 => absurd (c.1.symm.trans h9) (by decide); exact li_hdI fun _ _ => Or.inl ⟨c.2, (Int.le_antisymm (by omega) (by omega)), (Int.le_antisymm (by omega) (by omega))⟩)), (by omega), (Int.le_antisymm (by omega) (by omega)), (Int.le_antisymm (by omega) (by omega)), (by omega), (Int.le_antisymm (by omega) (by omega)), (by omega), (by omega), (Int.le_antisymm (by omega) (by omega))⟩ (by first | exact li_gk_0 (by omega) | exact li_gk_no (by omega)) (by first | exact li_cx_tr rfl rfl Pcx_M10) (by first | exact li_gw_gx gx1 rfl (Int.le_antisymm (by omega) (by omega)) (Int.le_antisymm (by omega) (by omega)) (Int.le_antisymm (by omega) (by omega)) (fun h8 h7 => ⟨Int.le_antisymm (by omega) (by omega), Int.le_antisymm (by omega) (by omega), Int.le_antisymm (by omega) (by omega)⟩) | exact li_gw_0 Pgl_M10 rfl (Int.le_antisymm (by omega) (by omega)) (Int.le_antisymm (by omega) (by omega)) (Int.le_antisymm (by omega) (by omega)) (Int.le_antisymm (by omega) (by omega))) bM10
  refine li_if_le 37 dX12_grammar_30 (by decide) (fun c8Zq => ?_) (fun c8Zq => ?_)
  · have tc8 : x7.toInt ≤ 0 := tl_le c8Zq
    refine li_iconst 0 dX12_grammar_37 (by decide) ?_
    refine li_pick [0, 1] [(1, .int 0), (0, .ref (Z.2.2 175))] rfl ?_
    have z0 : (0 : Int32).toInt = 0 := rfl
    exact J38 0 M6Zq hf hJ ⟨(by omega), (Int.le_antisymm (by omega) (by omega)), (Int.le_antisymm (by omega) (by omega)), (Int.le_antisymm (by omega) (by omega)), (Int.le_antisymm (by omega) (by omega)), (Int.le_antisymm (by omega) (by omega)), (Int.le_antisymm (by omega) (by omega))⟩ (by first | exact li_gl_tr rfl (Int.le_antisymm (by omega) (by omega)) (Int.le_antisymm (by omega) (by omega)) (Int.le_antisymm (by omega) (by omega)) (Int.le_antisymm (by omega) (by omega)) (Int.le_antisymm (by omega) (by omega)) (Int.le_antisymm (by omega) (by omega)) (Int.le_antisymm (by omega) (by omega)) Pgl_M6) (by first | exact li_cx_tr rfl rfl Pcx_M6) bM6
  · have tc8 : 0 < x7.toInt := tl_nle c8Zq
    refine li_iconst 1 dX12_grammar_33 (by decide) ?_
    refine li_goto 38 dX12_grammar_34 (by decide) ?_
    refine li_pick [0, 1] [(1, .int 0), (0, .ref (Z.2.2 175))] rfl ?_
    have z1 : (1 : Int32).toInt = 1 := rfl
    exact J38 1 M6Zq hf hJ ⟨(by omega), (Int.le_antisymm (by omega) (by omega)), (Int.le_antisymm (by omega) (by omega)), (Int.le_antisymm (by omega) (by omega)), (Int.le_antisymm (by omega) (by omega)), (Int.le_antisymm (by omega) (by omega)), (Int.le_antisymm (by omega) (by omega))⟩ (by first | exact li_gl_tr rfl (Int.le_antisymm (by omega) (by omega)) (Int.le_antisymm (by omega) (by omega)) (Int.le_antisymm (by omega) (by omega)) (Int.le_antisymm (by omega) (by omega)) (Int.le_antisymm (by omega) (by omega)) (Int.le_antisymm (by omega) (by omega)) (Int.le_antisymm (by omega) (by omega)) Pgl_M6) (by first | exact li_cx_tr rfl rfl Pcx_M6) bM6
