set_option maxRecDepth 100000 in
set_option maxHeartbeats 4000000 in
theorem k10_X12_readThing {l : Launch} {Z : li_Z} (d : Nat) (hdZq : 5 ≤ d) (p1Zq : Int32) (M0 : li_M) (hJ : li_J M0) (h1 : 0 ≤ p1Zq.toInt ∧ p1Zq.toInt ≤ 35) (bM0 : M0.2.2 0 = some 180) (hw : (M0.1 175 15).toInt = -1) (PEZq e : Int) (hPEZq : PEZq = (M0.1 175 1).toInt) (he : min (M0.1 175 12).toInt (M0.1 175 13).toInt = e) (hat : (M0.1 175 14).toInt ≤ e) (R1 Q1Zq R2 Q2Zq R3 Q3 : Int) (nq1 : li_mq (M0.1 180) e (2) (-1) ((M0.1 175 14).toInt + 2) R1 Q1Zq) (nq2 : li_mq (M0.1 180) e (2) (-1) (Q1Zq + 1) R2 Q2Zq) (nq3 : li_mq (M0.1 180) e (2) (-1) (Q2Zq + 1) R3 Q3) : li_Met l Z YX12_readThing d [.ref (Z.2.2 175), .int p1Zq] M0 (fun r M' => r = none ∧ li_fs (fun i k => (i = 182 ∧ p1Zq.toInt ≤ ((k : Nat) : Int) ∧ ((k : Nat) : Int) < p1Zq.toInt + 5) ∨ (i = 175 ∧ k = 14) ∨ (i = 175 ∧ k = 15)) M0 M' ∧ li_J M' ∧ (((M0.1 175 15).toInt ≤ (M'.1 175 15).toInt) ∧ 0 ≤ (M'.1 182 (p1Zq.toNatClampNeg)).toInt ∧ (M'.1 182 (p1Zq.toNatClampNeg)).toInt ≤ 5 ∧ 0 ≤ (M'.1 182 (p1Zq.toNatClampNeg + 1)).toInt ∧ (M'.1 182 (p1Zq.toNatClampNeg + 1)).toInt ≤ 5 ∧ (((M'.1 175 15).toInt = -1 ∧ ((97 ≤ rd_ch (li_by (M0.1 180)) e ((M0.1 175 14).toInt) ∧ rd_ch (li_by (M0.1 180)) e ((M0.1 175 14).toInt) ≤ 96 + PEZq) ∧ (97 ≤ rd_ch (li_by (M0.1 180)) e ((M0.1 175 14).toInt + 1) ∧ rd_ch (li_by (M0.1 180)) e ((M0.1 175 14).toInt + 1) ≤ 96 + PEZq) ∧ ¬ rd_ch (li_by (M0.1 180)) e ((M0.1 175 14).toInt + 1) = rd_ch (li_by (M0.1 180)) e ((M0.1 175 14).toInt) ∧ 0 < R1 ∧ rd_ch (li_by (M0.1 180)) e (Q1Zq) = 45 ∧ 0 ≤ R2 ∧ rd_ch (li_by (M0.1 180)) e (Q2Zq) = 61 ∧ 0 ≤ R3) ∧ (M'.1 175 14).toInt = Q3) ∨ (¬ (M'.1 175 15).toInt = -1 ∧ ¬ ((97 ≤ rd_ch (li_by (M0.1 180)) e ((M0.1 175 14).toInt) ∧ rd_ch (li_by (M0.1 180)) e ((M0.1 175 14).toInt) ≤ 96 + PEZq) ∧ (97 ≤ rd_ch (li_by (M0.1 180)) e ((M0.1 175 14).toInt + 1) ∧ rd_ch (li_by (M0.1 180)) e ((M0.1 175 14).toInt + 1) ≤ 96 + PEZq) ∧ ¬ rd_ch (li_by (M0.1 180)) e ((M0.1 175 14).toInt + 1) = rd_ch (li_by (M0.1 180)) e ((M0.1 175 14).toInt) ∧ 0 < R1 ∧ rd_ch (li_by (M0.1 180)) e (Q1Zq) = 45 ∧ 0 ≤ R2 ∧ rd_ch (li_by (M0.1 180)) e (Q2Zq) = 61 ∧ 0 ≤ R3))) ∧ (M0.1 175 14).toInt ≤ (M'.1 175 14).toInt ∧ (M'.1 175 14).toInt ≤ e)) := by
  refine li_enter (by decide +kernel) (Nat.le_of_ble_eq_true rfl) ?_
  show li_T l Z YX12_readThing d 0 [(0, .ref (Z.2.2 175)), (1, .int p1Zq)] [] M0 _
  have hf : li_fs (fun i k => (i = 182 ∧ p1Zq.toInt ≤ ((k : Nat) : Int) ∧ ((k : Nat) : Int) < p1Zq.toInt + 5) ∨ (i = 175 ∧ k = 14) ∨ (i = 175 ∧ k = 15)) M0 M0 := li_fs_refl
  have gp1 := tl_rg p1Zq
  have rM0_1 := J_sl1 (M := M0) hJ
  have rM0_12 := J_sl12 (M := M0) hJ
  have rM0_13 := J_sl13 (M := M0) hJ
  have rM0_14 := J_sl14 (M := M0) hJ
  have rM0_15 := J_sl15 (M := M0) hJ
  refine li_aload_n 0 dX12_readThing_0 rfl ?_
  refine li_getr (k := 16) (N := 52) (T := TX12) (C0 := RX12) dX12_readThing_1 (by decide) sh_175 rfl rfl (by decide) (by decide) li_in12 w_1420 ?_
  refine li_iload_n 1 dX12_readThing_4 rfl ?_
  refine li_aload_n 0 dX12_readThing_5 rfl ?_
  refine li_bipush 97 dX12_readThing_6 (by decide) ?_
  refine li_aload_n 0 dX12_readThing_8 rfl ?_
  refine li_geti (k := 1) (N := 52) (T := TX12) (C0 := RX12) dX12_readThing_9 (by decide) sh_175 rfl rfl (by decide) li_in12 w_1405 ?_
  refine li_top (fun x1Zq ex1 => ?_)
  have gx1 : 0 ≤ x1Zq.toInt ∧ x1Zq.toInt ≤ 6 := by rw [ex1]; exact J_sl1 hJ
  have mx1 : x1Zq.toInt = (M0.1 175 1).toInt := tl_slot ex1
  have sx1 : x1Zq.toInt = (M0.1 175 1).toInt := tl_slot (ex1.trans (hf.1 175 1 (show ¬ ((175 = 182 ∧ p1Zq.toInt ≤ ((1 : Nat) : Int) ∧ ((1 : Nat) : Int) < p1Zq.toInt + 5) ∨ (175 = 175 ∧ 1 = 14) ∨ (175 = 175 ∧ 1 = 15)) by first | (simp; done) | omega)))
  refine li_iconst (-1) dX12_readThing_12 (by decide) ?_
  have em8 : min (M0.1 175 12).toInt (M0.1 175 13).toInt = e := by rw [← he, show (M0.1 175 12).toInt = (M0.1 175 12).toInt from Int.le_antisymm (by omega) (by omega), show (M0.1 175 13).toInt = (M0.1 175 13).toInt from Int.le_antisymm (by omega) (by omega)]
  have ch0 : (M0.1 175 14).toInt = (M0.1 175 14).toInt → (li_hr M0).toInt = rd_ch (li_by (M0.1 180)) e ((M0.1 175 14).toInt) := fun h9 => hr_pt bM0 (by omega) (fs_180 li_fs_refl hf (fun i => (show ¬ ((180 = 182 ∧ p1Zq.toInt ≤ ((i : Nat) : Int) ∧ ((i : Nat) : Int) < p1Zq.toInt + 5) ∨ (180 = 175 ∧ i = 14) ∨ (180 = 175 ∧ i = 15)) by first | (simp; done) | omega))) em8 h9
  have z97 : (97 : Int32).toInt = 97 := rfl
  have zm1 : ((-1) : Int32).toInt = -1 := rfl
  refine li_callV (n := 3) (As := [.int 97, .int x1Zq, .int (-1)]) dX12_readThing_13 (k_X12_oneOf (d - 1) (by omega) 97 x1Zq (-1) M0 hJ ⟨by omega, by omega⟩ ⟨by omega, by omega⟩) (by omega) (Nat.le_of_ble_eq_true rfl) w_1593 w_1595 w_46 w_112 w_1596 (by decide +kernel) rfl (by decide) sh_175 rfl rfl (Nat.le_of_ble_eq_true rfl) (fun r M3Zq h4 => ?_)
  obtain ⟨⟨x2Zq, rfl, qx2⟩, h4, jM3⟩ := h4
  have gx2 := tl_rg x2Zq
  have hf := li_fs_trans hf h4 (fun i k => fun hZq => Or.elim hZq (fun hZq => Or.inr (Or.inl hZq)) (fun hZq => Or.inr (Or.inr hZq)))
  have hJ := jM3
  have rM3_1 := J_sl1 (M := M3Zq) hJ
  have rM3_12 := J_sl12 (M := M3Zq) hJ
  have rM3_13 := J_sl13 (M := M3Zq) hJ
  have rM3_14 := J_sl14 (M := M3Zq) hJ
  have rM3_15 := J_sl15 (M := M3Zq) hJ
  have mM3_1 : (M3Zq.1 175 1).toInt = (M0.1 175 1).toInt := tl_slot (h4.1 175 1 (show ¬ ((175 = 175 ∧ 1 = 14) ∨ (175 = 175 ∧ 1 = 15)) by decide))
  have mM3_12 : (M3Zq.1 175 12).toInt = (M0.1 175 12).toInt := tl_slot (h4.1 175 12 (show ¬ ((175 = 175 ∧ 12 = 14) ∨ (175 = 175 ∧ 12 = 15)) by decide))
  have mM3_13 : (M3Zq.1 175 13).toInt = (M0.1 175 13).toInt := tl_slot (h4.1 175 13 (show ¬ ((175 = 175 ∧ 13 = 14) ∨ (175 = 175 ∧ 13 = 15)) by decide))
  have aM3_182_p1toNatClampNeg : (M3Zq.1 182 (p1Zq.toNatClampNeg)).toInt = (M0.1 182 (p1Zq.toNatClampNeg)).toInt := tl_slot (h4.1 182 (p1Zq.toNatClampNeg) (show ¬ ((182 = 175 ∧ p1Zq.toNatClampNeg = 14) ∨ (182 = 175 ∧ p1Zq.toNatClampNeg = 15)) by first | (simp; done) | omega))
  have aM3_182_p1toNatClampNeg1 : (M3Zq.1 182 (p1Zq.toNatClampNeg + 1)).toInt = (M0.1 182 (p1Zq.toNatClampNeg + 1)).toInt := tl_slot (h4.1 182 (p1Zq.toNatClampNeg + 1) (show ¬ ((182 = 175 ∧ p1Zq.toNatClampNeg + 1 = 14) ∨ (182 = 175 ∧ p1Zq.toNatClampNeg + 1 = 15)) by first | (simp; done) | omega))
  have bM3 : M3Zq.2.2 0 = some 180 := (h4.2.2 0 (fun h9 => by first | exact (h9 : False).elim | (simp at h9; done) | omega)).trans bM0
  have em9 : min (M0.1 175 12).toInt (M0.1 175 13).toInt = e := by rw [← he, show (M0.1 175 12).toInt = (M0.1 175 12).toInt from Int.le_antisymm (by omega) (by omega), show (M0.1 175 13).toInt = (M0.1 175 13).toInt from Int.le_antisymm (by omega) (by omega)]
  have s13 : (((M3Zq.1 175 15).toInt = -1 ∧ (97 ≤ rd_ch (li_by (M0.1 180)) e ((M0.1 175 14).toInt) ∧ rd_ch (li_by (M0.1 180)) e ((M0.1 175 14).toInt) ≤ 96 + PEZq) ∧ (M3Zq.1 175 14).toInt = (M0.1 175 14).toInt + 1 ∧ x2Zq.toInt = rd_ch (li_by (M0.1 180)) e ((M0.1 175 14).toInt) - 97) ∨ (¬ (M3Zq.1 175 15).toInt = -1 ∧ ¬ ((97 ≤ rd_ch (li_by (M0.1 180)) e ((M0.1 175 14).toInt) ∧ rd_ch (li_by (M0.1 180)) e ((M0.1 175 14).toInt) ≤ 96 + PEZq) ∧ (97 ≤ rd_ch (li_by (M0.1 180)) e ((M0.1 175 14).toInt + 1) ∧ rd_ch (li_by (M0.1 180)) e ((M0.1 175 14).toInt + 1) ≤ 96 + PEZq) ∧ ¬ rd_ch (li_by (M0.1 180)) e ((M0.1 175 14).toInt + 1) = rd_ch (li_by (M0.1 180)) e ((M0.1 175 14).toInt) ∧ 0 < R1 ∧ rd_ch (li_by (M0.1 180)) e (Q1Zq) = 45 ∧ 0 ≤ R2 ∧ rd_ch (li_by (M0.1 180)) e (Q2Zq) = 61 ∧ 0 ≤ R3))) ∧ (M0.1 175 14).toInt ≤ (M3Zq.1 175 14).toInt ∧ (M3Zq.1 175 14).toInt ≤ e ∧ -1 ≤ (M3Zq.1 175 15).toInt := by
    have hw : (M0.1 175 15).toInt = -1 := Int.le_antisymm (by omega) (by omega)
    have hcZq := ch0 (Int.le_antisymm (by omega) (by omega))
    by_cases e9Zq : (97 ≤ rd_ch (li_by (M0.1 180)) e ((M0.1 175 14).toInt) ∧ rd_ch (li_by (M0.1 180)) e ((M0.1 175 14).toInt) ≤ 96 + PEZq)
    · have u := qx2.2.1 hw (by omega) (by omega) (fun h9 => by omega)
      exact ⟨Or.inl ⟨u.2.2.1, e9Zq, Int.le_antisymm (by omega) (by omega), Int.le_antisymm (by omega) (by omega)⟩, by omega, by rw [← em9]; exact Int.le_min.mpr ⟨by omega, by omega⟩, by omega⟩
    · have u := qx2.2.2.1 hw (fun h9 => e9Zq (by constructor <;> omega))
      exact ⟨Or.inr ⟨by omega, fun h9 => e9Zq h9.1⟩, by omega, by omega, by omega⟩
  have as13 := s13.2
  have s13 := s13.1
  have bs13 : 0 ≤ x2Zq.toInt ∧ x2Zq.toInt ≤ 5 := ⟨qx2.2.2.2.1, by rcases qx2.2.2.2.2 with h9 | h9 <;> omega⟩
  try clear qx2
  try clear em9
  try clear ch0
  try clear em8
  refine li_iast dX12_readThing_16 (by decide) sh_182 (tl_in ⟨by omega, by omega⟩) ?_
  refine li_nm (fun M5Zq eM5 => ?_)
  have hf := li_fs_ui hf (show (182 = 182 ∧ p1Zq.toInt ≤ (((p1Zq : Int32).toNatClampNeg : Nat) : Int) ∧ (((p1Zq : Int32).toNatClampNeg : Nat) : Int) < p1Zq.toInt + 5) ∨ (182 = 175 ∧ (p1Zq : Int32).toNatClampNeg = 14) ∨ (182 = 175 ∧ (p1Zq : Int32).toNatClampNeg = 15) by have h9 := li_cl (i := p1Zq) (by omega); omega) eM5
  have hJ := hJ.st (by decide) (li_el_free (by first | (unfold li_led; decide) | (unfold li_led; omega)) (by decide) (by decide) (by first | (unfold li_rq; decide) | (unfold li_rq; omega))) eM5
  have rM5_1 := J_sl1 (M := M5Zq) hJ
  have rM5_12 := J_sl12 (M := M5Zq) hJ
  have rM5_13 := J_sl13 (M := M5Zq) hJ
  have rM5_14 := J_sl14 (M := M5Zq) hJ
  have rM5_15 := J_sl15 (M := M5Zq) hJ
  have mM5_1 : (M5Zq.1 175 1).toInt = (M3Zq.1 175 1).toInt := by rw [eM5, li_ui_at, if_neg (by decide)]
  have mM5_12 : (M5Zq.1 175 12).toInt = (M3Zq.1 175 12).toInt := by rw [eM5, li_ui_at, if_neg (by decide)]
  have mM5_13 : (M5Zq.1 175 13).toInt = (M3Zq.1 175 13).toInt := by rw [eM5, li_ui_at, if_neg (by decide)]
  have mM5_14 : (M5Zq.1 175 14).toInt = (M3Zq.1 175 14).toInt := by rw [eM5, li_ui_at, if_neg (by decide)]
  have mM5_15 : (M5Zq.1 175 15).toInt = (M3Zq.1 175 15).toInt := by rw [eM5, li_ui_at, if_neg (by decide)]
  first | (have aM5_182_p1toNatClampNeg : (M5Zq.1 182 (p1Zq.toNatClampNeg)).toInt = (x2Zq : Int32).toInt := by rw [eM5, li_ui_at, if_pos rfl, if_pos (show p1Zq.toNatClampNeg = (p1Zq : Int32).toNatClampNeg by have h9 := li_cl (i := p1Zq) (by omega); have h8 := li_cl (i := p1Zq) (by omega); omega)]) | (have aM5_182_p1toNatClampNeg : (M5Zq.1 182 (p1Zq.toNatClampNeg)).toInt = (M3Zq.1 182 (p1Zq.toNatClampNeg)).toInt := by rw [eM5, li_ui_at, if_pos rfl, if_neg (show ¬ p1Zq.toNatClampNeg = (p1Zq : Int32).toNatClampNeg by have h9 := li_cl (i := p1Zq) (by omega); have h8 := li_cl (i := p1Zq) (by omega); omega)]) | skip
  first | (have aM5_182_p1toNatClampNeg1 : (M5Zq.1 182 (p1Zq.toNatClampNeg + 1)).toInt = (x2Zq : Int32).toInt := by rw [eM5, li_ui_at, if_pos rfl, if_pos (show p1Zq.toNatClampNeg + 1 = (p1Zq : Int32).toNatClampNeg by have h9 := li_cl (i := p1Zq) (by omega); have h8 := li_cl (i := p1Zq) (by omega); omega)]) | (have aM5_182_p1toNatClampNeg1 : (M5Zq.1 182 (p1Zq.toNatClampNeg + 1)).toInt = (M3Zq.1 182 (p1Zq.toNatClampNeg + 1)).toInt := by rw [eM5, li_ui_at, if_pos rfl, if_neg (show ¬ p1Zq.toNatClampNeg + 1 = (p1Zq : Int32).toNatClampNeg by have h9 := li_cl (i := p1Zq) (by omega); have h8 := li_cl (i := p1Zq) (by omega); omega)]) | skip
  have bM5 : M5Zq.2.2 0 = some 180 := by rw [eM5]; exact bM3
  refine li_aload_n 0 dX12_readThing_17 rfl ?_
  refine li_getr (k := 16) (N := 52) (T := TX12) (C0 := RX12) dX12_readThing_18 (by decide) sh_175 rfl rfl (by decide) (by decide) li_in12 w_1420 ?_
  refine li_iload_n 1 dX12_readThing_21 rfl ?_
  refine li_iconst 1 dX12_readThing_22 (by decide) ?_
  refine li_iadd dX12_readThing_23 ?_
  refine li_top (fun x6 ex6 => ?_)
  have z1 : (1 : Int32).toInt = 1 := rfl
  try (have tx6 : x6.toInt = (p1Zq : Int32).toInt + (1 : Int32).toInt := tl_add ex6 ⟨by omega, by omega⟩)
  refine li_aload_n 0 dX12_readThing_24 rfl ?_
  refine li_bipush 97 dX12_readThing_25 (by decide) ?_
  refine li_aload_n 0 dX12_readThing_27 rfl ?_
  refine li_geti (k := 1) (N := 52) (T := TX12) (C0 := RX12) dX12_readThing_28 (by decide) sh_175 rfl rfl (by decide) li_in12 w_1405 ?_
  refine li_top (fun x7 ex7 => ?_)
  have gx7 : 0 ≤ x7.toInt ∧ x7.toInt ≤ 6 := by rw [ex7]; exact J_sl1 hJ
  have mx7 : x7.toInt = (M5Zq.1 175 1).toInt := tl_slot ex7
  have sx7 : x7.toInt = (M0.1 175 1).toInt := tl_slot (ex7.trans (hf.1 175 1 (show ¬ ((175 = 182 ∧ p1Zq.toInt ≤ ((1 : Nat) : Int) ∧ ((1 : Nat) : Int) < p1Zq.toInt + 5) ∨ (175 = 175 ∧ 1 = 14) ∨ (175 = 175 ∧ 1 = 15)) by first | (simp; done) | omega)))
  refine li_aload_n 0 dX12_readThing_31 rfl ?_
  refine li_getr (k := 16) (N := 52) (T := TX12) (C0 := RX12) dX12_readThing_32 (by decide) sh_175 rfl rfl (by decide) (by decide) li_in12 w_1420 ?_
  refine li_iload_n 1 dX12_readThing_35 rfl ?_
  refine li_iald dX12_readThing_36 (by decide) sh_182 (tl_in ⟨by omega, by omega⟩) ?_
  refine li_top (fun x8 ex8 => ?_)
  have gx8 := tl_rg x8
  have wlx8 : x8.toInt = (x2Zq : Int32).toInt := tl_slot (by rw [ex8, eM5, li_ui_at, if_pos rfl, if_pos rfl])
  have em8 : min (M5Zq.1 175 12).toInt (M5Zq.1 175 13).toInt = e := by rw [← he, show (M5Zq.1 175 12).toInt = (M0.1 175 12).toInt from Int.le_antisymm (by omega) (by omega), show (M5Zq.1 175 13).toInt = (M0.1 175 13).toInt from Int.le_antisymm (by omega) (by omega)]
  have ch1 : (M5Zq.1 175 14).toInt = (M0.1 175 14).toInt + 1 → (li_hr M5Zq).toInt = rd_ch (li_by (M0.1 180)) e ((M0.1 175 14).toInt + 1) := fun h9 => hr_pt bM5 (by omega) (fs_180 li_fs_refl hf (fun i => (show ¬ ((180 = 182 ∧ p1Zq.toInt ≤ ((i : Nat) : Int) ∧ ((i : Nat) : Int) < p1Zq.toInt + 5) ∨ (180 = 175 ∧ i = 14) ∨ (180 = 175 ∧ i = 15)) by first | (simp; done) | omega))) em8 h9
  have z97 : (97 : Int32).toInt = 97 := rfl
  refine li_callV (n := 3) (As := [.int 97, .int x7, .int x8]) dX12_readThing_37 (k_X12_oneOf (d - 1) (by omega) 97 x7 x8 M5Zq hJ ⟨by omega, by omega⟩ ⟨by omega, by omega⟩) (by omega) (Nat.le_of_ble_eq_true rfl) w_1593 w_1595 w_46 w_112 w_1596 (by decide +kernel) rfl (by decide) sh_175 rfl rfl (Nat.le_of_ble_eq_true rfl) (fun r M10 h11 => ?_)
  obtain ⟨⟨x9, rfl, qx9⟩, h11, jM10⟩ := h11
  have gx9 := tl_rg x9
  have hf := li_fs_trans hf h11 (fun i k => fun hZq => Or.elim hZq (fun hZq => Or.inr (Or.inl hZq)) (fun hZq => Or.inr (Or.inr hZq)))
  have hJ := jM10
  have rM10_1 := J_sl1 (M := M10) hJ
  have rM10_12 := J_sl12 (M := M10) hJ
  have rM10_13 := J_sl13 (M := M10) hJ
  have rM10_14 := J_sl14 (M := M10) hJ
  have rM10_15 := J_sl15 (M := M10) hJ
  have mM10_1 : (M10.1 175 1).toInt = (M5Zq.1 175 1).toInt := tl_slot (h11.1 175 1 (show ¬ ((175 = 175 ∧ 1 = 14) ∨ (175 = 175 ∧ 1 = 15)) by decide))
  have mM10_12 : (M10.1 175 12).toInt = (M5Zq.1 175 12).toInt := tl_slot (h11.1 175 12 (show ¬ ((175 = 175 ∧ 12 = 14) ∨ (175 = 175 ∧ 12 = 15)) by decide))
  have mM10_13 : (M10.1 175 13).toInt = (M5Zq.1 175 13).toInt := tl_slot (h11.1 175 13 (show ¬ ((175 = 175 ∧ 13 = 14) ∨ (175 = 175 ∧ 13 = 15)) by decide))
  have aM10_182_p1toNatClampNeg : (M10.1 182 (p1Zq.toNatClampNeg)).toInt = (M5Zq.1 182 (p1Zq.toNatClampNeg)).toInt := tl_slot (h11.1 182 (p1Zq.toNatClampNeg) (show ¬ ((182 = 175 ∧ p1Zq.toNatClampNeg = 14) ∨ (182 = 175 ∧ p1Zq.toNatClampNeg = 15)) by first | (simp; done) | omega))
  have aM10_182_p1toNatClampNeg1 : (M10.1 182 (p1Zq.toNatClampNeg + 1)).toInt = (M5Zq.1 182 (p1Zq.toNatClampNeg + 1)).toInt := tl_slot (h11.1 182 (p1Zq.toNatClampNeg + 1) (show ¬ ((182 = 175 ∧ p1Zq.toNatClampNeg + 1 = 14) ∨ (182 = 175 ∧ p1Zq.toNatClampNeg + 1 = 15)) by first | (simp; done) | omega))
  have bM10 : M10.2.2 0 = some 180 := (h11.2.2 0 (fun h9 => by first | exact (h9 : False).elim | (simp at h9; done) | omega)).trans bM5
  have em9 : min (M5Zq.1 175 12).toInt (M5Zq.1 175 13).toInt = e := by rw [← he, show (M5Zq.1 175 12).toInt = (M0.1 175 12).toInt from Int.le_antisymm (by omega) (by omega), show (M5Zq.1 175 13).toInt = (M0.1 175 13).toInt from Int.le_antisymm (by omega) (by omega)]
  have s37 : (((M10.1 175 15).toInt = -1 ∧ (97 ≤ rd_ch (li_by (M0.1 180)) e ((M0.1 175 14).toInt) ∧ rd_ch (li_by (M0.1 180)) e ((M0.1 175 14).toInt) ≤ 96 + PEZq) ∧ (97 ≤ rd_ch (li_by (M0.1 180)) e ((M0.1 175 14).toInt + 1) ∧ rd_ch (li_by (M0.1 180)) e ((M0.1 175 14).toInt + 1) ≤ 96 + PEZq) ∧ ¬ rd_ch (li_by (M0.1 180)) e ((M0.1 175 14).toInt + 1) = rd_ch (li_by (M0.1 180)) e ((M0.1 175 14).toInt) ∧ (M10.1 175 14).toInt = (M0.1 175 14).toInt + 2) ∨ (¬ (M10.1 175 15).toInt = -1 ∧ ¬ ((97 ≤ rd_ch (li_by (M0.1 180)) e ((M0.1 175 14).toInt) ∧ rd_ch (li_by (M0.1 180)) e ((M0.1 175 14).toInt) ≤ 96 + PEZq) ∧ (97 ≤ rd_ch (li_by (M0.1 180)) e ((M0.1 175 14).toInt + 1) ∧ rd_ch (li_by (M0.1 180)) e ((M0.1 175 14).toInt + 1) ≤ 96 + PEZq) ∧ ¬ rd_ch (li_by (M0.1 180)) e ((M0.1 175 14).toInt + 1) = rd_ch (li_by (M0.1 180)) e ((M0.1 175 14).toInt) ∧ 0 < R1 ∧ rd_ch (li_by (M0.1 180)) e (Q1Zq) = 45 ∧ 0 ≤ R2 ∧ rd_ch (li_by (M0.1 180)) e (Q2Zq) = 61 ∧ 0 ≤ R3))) ∧ (M5Zq.1 175 14).toInt ≤ (M10.1 175 14).toInt ∧ (M10.1 175 14).toInt ≤ e ∧ -1 ≤ (M10.1 175 15).toInt := by
    rcases s13 with ⟨c0, k0Zq, ca⟩ | ⟨c0, cb⟩
    · have hw : (M5Zq.1 175 15).toInt = -1 := Int.le_antisymm (by omega) (by omega)
      have hcZq := ch1 (Int.le_antisymm (by omega) (by omega))
      by_cases e9Zq : (97 ≤ rd_ch (li_by (M0.1 180)) e ((M0.1 175 14).toInt + 1) ∧ rd_ch (li_by (M0.1 180)) e ((M0.1 175 14).toInt + 1) ≤ 96 + PEZq) ∧ ¬ rd_ch (li_by (M0.1 180)) e ((M0.1 175 14).toInt + 1) = rd_ch (li_by (M0.1 180)) e ((M0.1 175 14).toInt)
      · have u := qx9.2.1 hw (by omega) (by omega) (fun h9 => e9Zq.2 (Int.le_antisymm (by omega) (by omega)))
        exact ⟨Or.inl ⟨u.2.2.1, k0Zq, e9Zq.1, e9Zq.2, Int.le_antisymm (by omega) (by omega)⟩, by omega, by rw [← em9]; exact Int.le_min.mpr ⟨by omega, by omega⟩, by omega⟩
      · have u := qx9.2.2.1 hw (fun h9 => e9Zq (by exact ⟨⟨by omega, by omega⟩, fun h8 => h9.2.2 (Int.le_antisymm (by omega) (by omega))⟩))
        exact ⟨Or.inr ⟨by omega, fun h9 => e9Zq ⟨h9.2.1, h9.2.2.1⟩⟩, by omega, by omega, by omega⟩
    · have u := qx9.1 (fun h9 => c0 (Int.le_antisymm (by omega) (by omega)))
      exact ⟨Or.inr ⟨fun h9 => c0 (Int.le_antisymm (by omega) (by omega)), cb⟩, by omega, by omega, by omega⟩
  have as37 := s37.2
  have s37 := s37.1
  have bs37 : 0 ≤ x9.toInt ∧ x9.toInt ≤ 5 := ⟨qx9.2.2.2.1, by rcases qx9.2.2.2.2 with h9 | h9 <;> omega⟩
  try clear qx9
  try clear em9
  try clear ch1
  try clear s13
  try clear em8
  refine li_iast dX12_readThing_40 (by decide) sh_182 (tl_in ⟨by omega, by omega⟩) ?_
  refine li_nm (fun M12 eM12 => ?_)
  have hf := li_fs_ui hf (show (182 = 182 ∧ p1Zq.toInt ≤ (((x6 : Int32).toNatClampNeg : Nat) : Int) ∧ (((x6 : Int32).toNatClampNeg : Nat) : Int) < p1Zq.toInt + 5) ∨ (182 = 175 ∧ (x6 : Int32).toNatClampNeg = 14) ∨ (182 = 175 ∧ (x6 : Int32).toNatClampNeg = 15) by have h9 := li_cl (i := x6) (by omega); omega) eM12
  have hJ := hJ.st (by decide) (li_el_free (by first | (unfold li_led; decide) | (unfold li_led; omega)) (by decide) (by decide) (by first | (unfold li_rq; decide) | (unfold li_rq; omega))) eM12
  have rM12_1 := J_sl1 (M := M12) hJ
  have rM12_12 := J_sl12 (M := M12) hJ
  have rM12_13 := J_sl13 (M := M12) hJ
  have rM12_14 := J_sl14 (M := M12) hJ
  have rM12_15 := J_sl15 (M := M12) hJ
  have mM12_1 : (M12.1 175 1).toInt = (M10.1 175 1).toInt := by rw [eM12, li_ui_at, if_neg (by decide)]
  have mM12_12 : (M12.1 175 12).toInt = (M10.1 175 12).toInt := by rw [eM12, li_ui_at, if_neg (by decide)]
  have mM12_13 : (M12.1 175 13).toInt = (M10.1 175 13).toInt := by rw [eM12, li_ui_at, if_neg (by decide)]
  have mM12_14 : (M12.1 175 14).toInt = (M10.1 175 14).toInt := by rw [eM12, li_ui_at, if_neg (by decide)]
  have mM12_15 : (M12.1 175 15).toInt = (M10.1 175 15).toInt := by rw [eM12, li_ui_at, if_neg (by decide)]
  first | (have aM12_182_p1toNatClampNeg : (M12.1 182 (p1Zq.toNatClampNeg)).toInt = (x9 : Int32).toInt := by rw [eM12, li_ui_at, if_pos rfl, if_pos (show p1Zq.toNatClampNeg = (x6 : Int32).toNatClampNeg by have h9 := li_cl (i := x6) (by omega); have h8 := li_cl (i := p1Zq) (by omega); omega)]) | (have aM12_182_p1toNatClampNeg : (M12.1 182 (p1Zq.toNatClampNeg)).toInt = (M10.1 182 (p1Zq.toNatClampNeg)).toInt := by rw [eM12, li_ui_at, if_pos rfl, if_neg (show ¬ p1Zq.toNatClampNeg = (x6 : Int32).toNatClampNeg by have h9 := li_cl (i := x6) (by omega); have h8 := li_cl (i := p1Zq) (by omega); omega)]) | skip
  first | (have aM12_182_p1toNatClampNeg1 : (M12.1 182 (p1Zq.toNatClampNeg + 1)).toInt = (x9 : Int32).toInt := by rw [eM12, li_ui_at, if_pos rfl, if_pos (show p1Zq.toNatClampNeg + 1 = (x6 : Int32).toNatClampNeg by have h9 := li_cl (i := x6) (by omega); have h8 := li_cl (i := p1Zq) (by omega); omega)]) | (have aM12_182_p1toNatClampNeg1 : (M12.1 182 (p1Zq.toNatClampNeg + 1)).toInt = (M10.1 182 (p1Zq.toNatClampNeg + 1)).toInt := by rw [eM12, li_ui_at, if_pos rfl, if_neg (show ¬ p1Zq.toNatClampNeg + 1 = (x6 : Int32).toNatClampNeg by have h9 := li_cl (i := x6) (by omega); have h8 := li_cl (i := p1Zq) (by omega); omega)]) | skip
  have bM12 : M12.2.2 0 = some 180 := by rw [eM12]; exact bM10
  refine li_aload_n 0 dX12_readThing_41 rfl ?_
  refine li_getr (k := 16) (N := 52) (T := TX12) (C0 := RX12) dX12_readThing_42 (by decide) sh_175 rfl rfl (by decide) (by decide) li_in12 w_1420 ?_
  refine li_iload_n 1 dX12_readThing_45 rfl ?_
  refine li_iconst 2 dX12_readThing_46 (by decide) ?_
  refine li_iadd dX12_readThing_47 ?_
  refine li_top (fun x13 ex13 => ?_)
  have z2 : (2 : Int32).toInt = 2 := rfl
  try (have tx13 : x13.toInt = (p1Zq : Int32).toInt + (2 : Int32).toInt := tl_add ex13 ⟨by omega, by omega⟩)
  refine li_aload_n 0 dX12_readThing_48 rfl ?_
  refine li_iconst 2 dX12_readThing_49 (by decide) ?_
  obtain ⟨r1Zq, q1Zq, n1Zq⟩ : ∃ r q, li_mq (M12.1 180) e (2) (-1) ((M12.1 175 14).toInt) r q := li_nq_self
  have g1 := li_nq_gt n1Zq
  have em8 : min (M12.1 175 12).toInt (M12.1 175 13).toInt = e := by rw [← he, show (M12.1 175 12).toInt = (M0.1 175 12).toInt from Int.le_antisymm (by omega) (by omega), show (M12.1 175 13).toInt = (M0.1 175 13).toInt from Int.le_antisymm (by omega) (by omega)]
  have e1Zq : (M12.1 175 14).toInt = (M0.1 175 14).toInt + 2 → r1Zq = R1 ∧ q1Zq = Q1Zq := fun h9 => li_nq_eq nq1 n1Zq (congrArg li_by (fs_180 li_fs_refl hf (fun i => (show ¬ ((180 = 182 ∧ p1Zq.toInt ≤ ((i : Nat) : Int) ∧ ((i : Nat) : Int) < p1Zq.toInt + 5) ∨ (180 = 175 ∧ i = 14) ∨ (180 = 175 ∧ i = 15)) by first | (simp; done) | omega)))) rfl rfl h9
  have z2 : (2 : Int32).toInt = 2 := rfl
  refine li_callV (n := 1) (As := [.int 2]) dX12_readThing_50 (k5_X12_number (d - 1) (by omega) 2 M12 hJ (by decide) bM12 _ _ (li_mq_tr rfl em8 (by decide) rfl rfl rfl rfl n1Zq)) (by omega) (Nat.le_of_ble_eq_true rfl) w_1589 w_1591 w_45 w_112 w_1592 (by decide +kernel) rfl (by decide) sh_175 rfl rfl (Nat.le_of_ble_eq_true rfl) (fun r M15 h16Zq => ?_)
  obtain ⟨⟨x14, rfl, qx14⟩, h16Zq, jM15⟩ := h16Zq
  have gx14 := tl_rg x14
  have hf := li_fs_trans hf h16Zq (fun i k => fun hZq => Or.elim hZq (fun hZq => Or.inr (Or.inl hZq)) (fun hZq => Or.inr (Or.inr hZq)))
  have hJ := jM15
  have rM15_1 := J_sl1 (M := M15) hJ
  have rM15_12 := J_sl12 (M := M15) hJ
  have rM15_13 := J_sl13 (M := M15) hJ
  have rM15_14 := J_sl14 (M := M15) hJ
  have rM15_15 := J_sl15 (M := M15) hJ
  have mM15_1 : (M15.1 175 1).toInt = (M12.1 175 1).toInt := tl_slot (h16Zq.1 175 1 (show ¬ ((175 = 175 ∧ 1 = 14) ∨ (175 = 175 ∧ 1 = 15)) by decide))
  have mM15_12 : (M15.1 175 12).toInt = (M12.1 175 12).toInt := tl_slot (h16Zq.1 175 12 (show ¬ ((175 = 175 ∧ 12 = 14) ∨ (175 = 175 ∧ 12 = 15)) by decide))
  have mM15_13 : (M15.1 175 13).toInt = (M12.1 175 13).toInt := tl_slot (h16Zq.1 175 13 (show ¬ ((175 = 175 ∧ 13 = 14) ∨ (175 = 175 ∧ 13 = 15)) by decide))
  have aM15_182_p1toNatClampNeg : (M15.1 182 (p1Zq.toNatClampNeg)).toInt = (M12.1 182 (p1Zq.toNatClampNeg)).toInt := tl_slot (h16Zq.1 182 (p1Zq.toNatClampNeg) (show ¬ ((182 = 175 ∧ p1Zq.toNatClampNeg = 14) ∨ (182 = 175 ∧ p1Zq.toNatClampNeg = 15)) by first | (simp; done) | omega))
  have aM15_182_p1toNatClampNeg1 : (M15.1 182 (p1Zq.toNatClampNeg + 1)).toInt = (M12.1 182 (p1Zq.toNatClampNeg + 1)).toInt := tl_slot (h16Zq.1 182 (p1Zq.toNatClampNeg + 1) (show ¬ ((182 = 175 ∧ p1Zq.toNatClampNeg + 1 = 14) ∨ (182 = 175 ∧ p1Zq.toNatClampNeg + 1 = 15)) by first | (simp; done) | omega))
  have bM15 : M15.2.2 0 = some 180 := (h16Zq.2.2 0 (fun h9 => by first | exact (h9 : False).elim | (simp at h9; done) | omega)).trans bM12
  have em9 : min (M12.1 175 12).toInt (M12.1 175 13).toInt = e := by rw [← he, show (M12.1 175 12).toInt = (M0.1 175 12).toInt from Int.le_antisymm (by omega) (by omega), show (M12.1 175 13).toInt = (M0.1 175 13).toInt from Int.le_antisymm (by omega) (by omega)]
  have s50 : (((M15.1 175 15).toInt = -1 ∧ (97 ≤ rd_ch (li_by (M0.1 180)) e ((M0.1 175 14).toInt) ∧ rd_ch (li_by (M0.1 180)) e ((M0.1 175 14).toInt) ≤ 96 + PEZq) ∧ (97 ≤ rd_ch (li_by (M0.1 180)) e ((M0.1 175 14).toInt + 1) ∧ rd_ch (li_by (M0.1 180)) e ((M0.1 175 14).toInt + 1) ≤ 96 + PEZq) ∧ ¬ rd_ch (li_by (M0.1 180)) e ((M0.1 175 14).toInt + 1) = rd_ch (li_by (M0.1 180)) e ((M0.1 175 14).toInt) ∧ 0 ≤ R1 ∧ (M15.1 175 14).toInt = Q1Zq ∧ x14.toInt = R1 ∧ (M0.1 175 14).toInt + 3 ≤ Q1Zq) ∨ (¬ (M15.1 175 15).toInt = -1 ∧ ¬ ((97 ≤ rd_ch (li_by (M0.1 180)) e ((M0.1 175 14).toInt) ∧ rd_ch (li_by (M0.1 180)) e ((M0.1 175 14).toInt) ≤ 96 + PEZq) ∧ (97 ≤ rd_ch (li_by (M0.1 180)) e ((M0.1 175 14).toInt + 1) ∧ rd_ch (li_by (M0.1 180)) e ((M0.1 175 14).toInt + 1) ≤ 96 + PEZq) ∧ ¬ rd_ch (li_by (M0.1 180)) e ((M0.1 175 14).toInt + 1) = rd_ch (li_by (M0.1 180)) e ((M0.1 175 14).toInt) ∧ 0 < R1 ∧ rd_ch (li_by (M0.1 180)) e (Q1Zq) = 45 ∧ 0 ≤ R2 ∧ rd_ch (li_by (M0.1 180)) e (Q2Zq) = 61 ∧ 0 ≤ R3))) ∧ (M12.1 175 14).toInt ≤ (M15.1 175 14).toInt ∧ (M15.1 175 14).toInt ≤ e ∧ -1 ≤ (M15.1 175 15).toInt := by
    rcases s37 with ⟨c0, k0Zq, k1Zq, k2Zq, ca⟩ | ⟨c0, cb⟩
    · have hw : (M12.1 175 15).toInt = -1 := Int.le_antisymm (by omega) (by omega)
      have em := e1Zq (Int.le_antisymm (by omega) (by omega))
      have u3 := qx14.2.2.2 (by rw [em9]; omega)
      rw [em9] at u3
      rcases Int.lt_or_le r1Zq 0 with c | c
      · have u := (qx14.1 hw).1 c
        exact ⟨Or.inr ⟨by omega, fun h9 => by have h8 := h9.2.2.2.1; omega⟩, by omega, u3, by omega⟩
      · have u := (qx14.1 hw).2 c
        have g9 := g1.2.1 c
        exact ⟨Or.inl ⟨u.2.2, k0Zq, k1Zq, k2Zq, by omega, Int.le_antisymm (by omega) (by omega), Int.le_antisymm (by omega) (by omega), by omega⟩, by omega, u3, by omega⟩
    · have u := qx14.2.1 (fun h9 => c0 (Int.le_antisymm (by omega) (by omega)))
      exact ⟨Or.inr ⟨fun h9 => c0 (Int.le_antisymm (by omega) (by omega)), cb⟩, by omega, by omega, by omega⟩
  have as50 := s50.2
  have s50 := s50.1
  try clear qx14
  try clear em9
  try clear e1Zq
  try clear s37
  try clear g1
  try clear em8
  refine li_iast dX12_readThing_53 (by decide) sh_182 (tl_in ⟨by omega, by omega⟩) ?_
  refine li_nm (fun M17 eM17 => ?_)
  have hf := li_fs_ui hf (show (182 = 182 ∧ p1Zq.toInt ≤ (((x13 : Int32).toNatClampNeg : Nat) : Int) ∧ (((x13 : Int32).toNatClampNeg : Nat) : Int) < p1Zq.toInt + 5) ∨ (182 = 175 ∧ (x13 : Int32).toNatClampNeg = 14) ∨ (182 = 175 ∧ (x13 : Int32).toNatClampNeg = 15) by have h9 := li_cl (i := x13) (by omega); omega) eM17
  have hJ := hJ.st (by decide) (li_el_free (by first | (unfold li_led; decide) | (unfold li_led; omega)) (by decide) (by decide) (by first | (unfold li_rq; decide) | (unfold li_rq; omega))) eM17
  have rM17_1 := J_sl1 (M := M17) hJ
  have rM17_12 := J_sl12 (M := M17) hJ
  have rM17_13 := J_sl13 (M := M17) hJ
  have rM17_14 := J_sl14 (M := M17) hJ
  have rM17_15 := J_sl15 (M := M17) hJ
  have mM17_1 : (M17.1 175 1).toInt = (M15.1 175 1).toInt := by rw [eM17, li_ui_at, if_neg (by decide)]
  have mM17_12 : (M17.1 175 12).toInt = (M15.1 175 12).toInt := by rw [eM17, li_ui_at, if_neg (by decide)]
  have mM17_13 : (M17.1 175 13).toInt = (M15.1 175 13).toInt := by rw [eM17, li_ui_at, if_neg (by decide)]
  have mM17_14 : (M17.1 175 14).toInt = (M15.1 175 14).toInt := by rw [eM17, li_ui_at, if_neg (by decide)]
  have mM17_15 : (M17.1 175 15).toInt = (M15.1 175 15).toInt := by rw [eM17, li_ui_at, if_neg (by decide)]
  first | (have aM17_182_p1toNatClampNeg : (M17.1 182 (p1Zq.toNatClampNeg)).toInt = (x14 : Int32).toInt := by rw [eM17, li_ui_at, if_pos rfl, if_pos (show p1Zq.toNatClampNeg = (x13 : Int32).toNatClampNeg by have h9 := li_cl (i := x13) (by omega); have h8 := li_cl (i := p1Zq) (by omega); omega)]) | (have aM17_182_p1toNatClampNeg : (M17.1 182 (p1Zq.toNatClampNeg)).toInt = (M15.1 182 (p1Zq.toNatClampNeg)).toInt := by rw [eM17, li_ui_at, if_pos rfl, if_neg (show ¬ p1Zq.toNatClampNeg = (x13 : Int32).toNatClampNeg by have h9 := li_cl (i := x13) (by omega); have h8 := li_cl (i := p1Zq) (by omega); omega)]) | skip
  first | (have aM17_182_p1toNatClampNeg1 : (M17.1 182 (p1Zq.toNatClampNeg + 1)).toInt = (x14 : Int32).toInt := by rw [eM17, li_ui_at, if_pos rfl, if_pos (show p1Zq.toNatClampNeg + 1 = (x13 : Int32).toNatClampNeg by have h9 := li_cl (i := x13) (by omega); have h8 := li_cl (i := p1Zq) (by omega); omega)]) | (have aM17_182_p1toNatClampNeg1 : (M17.1 182 (p1Zq.toNatClampNeg + 1)).toInt = (M15.1 182 (p1Zq.toNatClampNeg + 1)).toInt := by rw [eM17, li_ui_at, if_pos rfl, if_neg (show ¬ p1Zq.toNatClampNeg + 1 = (x13 : Int32).toNatClampNeg by have h9 := li_cl (i := x13) (by omega); have h8 := li_cl (i := p1Zq) (by omega); omega)]) | skip
  have bM17 : M17.2.2 0 = some 180 := by rw [eM17]; exact bM15
  refine li_aload_n 0 dX12_readThing_54 rfl ?_
  refine li_callV (n := 0) (As := []) dX12_readThing_55 (k_X12_fine (d - 1) (by omega)  M17 hJ ) (by omega) (Nat.le_of_ble_eq_true rfl) w_1581 w_1583 w_43 w_112 w_1584 (by decide +kernel) rfl (by decide) sh_175 rfl rfl (Nat.le_of_ble_eq_true rfl) (fun r M19 h20 => ?_)
  obtain ⟨qx18, h20, jM19⟩ := h20
  have hf := li_fs_trans hf h20 (fun i k hZq => False.elim hZq)
  have kM19 : (li_hr M19).toInt = (li_hr M17).toInt := li_hr_fs h20 id id id id (fun _ _ _ => id) (by assumption)
  have hJ := jM19
  have rM19_1 := J_sl1 (M := M19) hJ
  have rM19_12 := J_sl12 (M := M19) hJ
  have rM19_13 := J_sl13 (M := M19) hJ
  have rM19_14 := J_sl14 (M := M19) hJ
  have rM19_15 := J_sl15 (M := M19) hJ
  have mM19_1 : (M19.1 175 1).toInt = (M17.1 175 1).toInt := tl_slot (h20.1 175 1 id)
  have mM19_12 : (M19.1 175 12).toInt = (M17.1 175 12).toInt := tl_slot (h20.1 175 12 id)
  have mM19_13 : (M19.1 175 13).toInt = (M17.1 175 13).toInt := tl_slot (h20.1 175 13 id)
  have mM19_14 : (M19.1 175 14).toInt = (M17.1 175 14).toInt := tl_slot (h20.1 175 14 id)
  have mM19_15 : (M19.1 175 15).toInt = (M17.1 175 15).toInt := tl_slot (h20.1 175 15 id)
  have aM19_182_p1toNatClampNeg : (M19.1 182 (p1Zq.toNatClampNeg)).toInt = (M17.1 182 (p1Zq.toNatClampNeg)).toInt := tl_slot (h20.1 182 (p1Zq.toNatClampNeg) id)
  have aM19_182_p1toNatClampNeg1 : (M19.1 182 (p1Zq.toNatClampNeg + 1)).toInt = (M17.1 182 (p1Zq.toNatClampNeg + 1)).toInt := tl_slot (h20.1 182 (p1Zq.toNatClampNeg + 1) id)
  have bM19 : M19.2.2 0 = some 180 := (h20.2.2 0 (fun h9 => by first | exact (h9 : False).elim | (simp at h9; done) | omega)).trans bM17
  have J82 : ∀  (M21 : li_M), li_fs (fun i k => (i = 182 ∧ p1Zq.toInt ≤ ((k : Nat) : Int) ∧ ((k : Nat) : Int) < p1Zq.toInt + 5) ∨ (i = 175 ∧ k = 14) ∨ (i = 175 ∧ k = 15)) M0 M21 → li_J M21 → (-1 ≤ (M21.1 175 15).toInt) ∧ 0 ≤ (M21.1 182 (p1Zq.toNatClampNeg)).toInt ∧ (M21.1 182 (p1Zq.toNatClampNeg)).toInt ≤ 5 ∧ 0 ≤ (M21.1 182 (p1Zq.toNatClampNeg + 1)).toInt ∧ (M21.1 182 (p1Zq.toNatClampNeg + 1)).toInt ≤ 5 ∧ (M0.1 175 14).toInt ≤ (M21.1 175 14).toInt ∧ (M21.1 175 14).toInt ≤ e ∧ (((M21.1 175 15).toInt = -1 ∧ (97 ≤ rd_ch (li_by (M0.1 180)) e ((M0.1 175 14).toInt) ∧ rd_ch (li_by (M0.1 180)) e ((M0.1 175 14).toInt) ≤ 96 + PEZq) ∧ (97 ≤ rd_ch (li_by (M0.1 180)) e ((M0.1 175 14).toInt + 1) ∧ rd_ch (li_by (M0.1 180)) e ((M0.1 175 14).toInt + 1) ≤ 96 + PEZq) ∧ ¬ rd_ch (li_by (M0.1 180)) e ((M0.1 175 14).toInt + 1) = rd_ch (li_by (M0.1 180)) e ((M0.1 175 14).toInt) ∧ 0 < R1 ∧ (M21.1 175 14).toInt = Q1Zq) ∨ (¬ (M21.1 175 15).toInt = -1 ∧ ¬ ((97 ≤ rd_ch (li_by (M0.1 180)) e ((M0.1 175 14).toInt) ∧ rd_ch (li_by (M0.1 180)) e ((M0.1 175 14).toInt) ≤ 96 + PEZq) ∧ (97 ≤ rd_ch (li_by (M0.1 180)) e ((M0.1 175 14).toInt + 1) ∧ rd_ch (li_by (M0.1 180)) e ((M0.1 175 14).toInt + 1) ≤ 96 + PEZq) ∧ ¬ rd_ch (li_by (M0.1 180)) e ((M0.1 175 14).toInt + 1) = rd_ch (li_by (M0.1 180)) e ((M0.1 175 14).toInt) ∧ 0 < R1 ∧ rd_ch (li_by (M0.1 180)) e (Q1Zq) = 45 ∧ 0 ≤ R2 ∧ rd_ch (li_by (M0.1 180)) e (Q2Zq) = 61 ∧ 0 ≤ R3))) ∧ (M21.1 175 1).toInt = PEZq ∧ (M21.1 175 12).toInt = (M0.1 175 12).toInt ∧ (M21.1 175 13).toInt = (M0.1 175 13).toInt → M21.2.2 0 = some 180 → li_T l Z YX12_readThing d 82 [(0, .ref (Z.2.2 175)), (1, .int p1Zq)] [] M21 (fun r M' => r = none ∧ li_fs (fun i k => (i = 182 ∧ p1Zq.toInt ≤ ((k : Nat) : Int) ∧ ((k : Nat) : Int) < p1Zq.toInt + 5) ∨ (i = 175 ∧ k = 14) ∨ (i = 175 ∧ k = 15)) M0 M' ∧ li_J M' ∧ (((M0.1 175 15).toInt ≤ (M'.1 175 15).toInt) ∧ 0 ≤ (M'.1 182 (p1Zq.toNatClampNeg)).toInt ∧ (M'.1 182 (p1Zq.toNatClampNeg)).toInt ≤ 5 ∧ 0 ≤ (M'.1 182 (p1Zq.toNatClampNeg + 1)).toInt ∧ (M'.1 182 (p1Zq.toNatClampNeg + 1)).toInt ≤ 5 ∧ (((M'.1 175 15).toInt = -1 ∧ ((97 ≤ rd_ch (li_by (M0.1 180)) e ((M0.1 175 14).toInt) ∧ rd_ch (li_by (M0.1 180)) e ((M0.1 175 14).toInt) ≤ 96 + PEZq) ∧ (97 ≤ rd_ch (li_by (M0.1 180)) e ((M0.1 175 14).toInt + 1) ∧ rd_ch (li_by (M0.1 180)) e ((M0.1 175 14).toInt + 1) ≤ 96 + PEZq) ∧ ¬ rd_ch (li_by (M0.1 180)) e ((M0.1 175 14).toInt + 1) = rd_ch (li_by (M0.1 180)) e ((M0.1 175 14).toInt) ∧ 0 < R1 ∧ rd_ch (li_by (M0.1 180)) e (Q1Zq) = 45 ∧ 0 ≤ R2 ∧ rd_ch (li_by (M0.1 180)) e (Q2Zq) = 61 ∧ 0 ≤ R3) ∧ (M'.1 175 14).toInt = Q3) ∨ (¬ (M'.1 175 15).toInt = -1 ∧ ¬ ((97 ≤ rd_ch (li_by (M0.1 180)) e ((M0.1 175 14).toInt) ∧ rd_ch (li_by (M0.1 180)) e ((M0.1 175 14).toInt) ≤ 96 + PEZq) ∧ (97 ≤ rd_ch (li_by (M0.1 180)) e ((M0.1 175 14).toInt + 1) ∧ rd_ch (li_by (M0.1 180)) e ((M0.1 175 14).toInt + 1) ≤ 96 + PEZq) ∧ ¬ rd_ch (li_by (M0.1 180)) e ((M0.1 175 14).toInt + 1) = rd_ch (li_by (M0.1 180)) e ((M0.1 175 14).toInt) ∧ 0 < R1 ∧ rd_ch (li_by (M0.1 180)) e (Q1Zq) = 45 ∧ 0 ≤ R2 ∧ rd_ch (li_by (M0.1 180)) e (Q2Zq) = 61 ∧ 0 ≤ R3))) ∧ (M0.1 175 14).toInt ≤ (M'.1 175 14).toInt ∧ (M'.1 175 14).toInt ≤ e)) := by
    try clear bM19
    try clear aM19_182_p1toNatClampNeg1
    try clear aM19_182_p1toNatClampNeg
    try clear mM19_15
    try clear mM19_14
    try clear mM19_13
    try clear mM19_12
    try clear mM19_1
    try clear rM19_15
    try clear rM19_14
    try clear rM19_13
    try clear rM19_12
    try clear rM19_1
    try clear kM19
    try clear qx18
    try clear h20
    try clear jM19
    try clear bM17
    try clear mM17_15
    try clear mM17_14
    try clear mM17_13
    try clear mM17_12
    try clear mM17_1
    try clear rM17_15
    try clear rM17_14
    try clear rM17_13
    try clear rM17_12
    try clear rM17_1
    try clear eM17
    try clear s50
    try clear as50
    try clear em9
    try clear bM15
    try clear aM15_182_p1toNatClampNeg1
    try clear aM15_182_p1toNatClampNeg
    try clear mM15_13
    try clear mM15_12
    try clear mM15_1
    try clear rM15_15
    try clear rM15_14
    try clear rM15_13
    try clear rM15_12
    try clear rM15_1
    try clear gx14
    try clear qx14
    try clear h16Zq
    try clear jM15
    try clear e1Zq
    try clear em8
    try clear g1
    try clear n1Zq
    try clear tx13
    try clear ex13
    try clear bM12
    try clear mM12_15
    try clear mM12_14
    try clear mM12_13
    try clear mM12_12
    try clear mM12_1
    try clear rM12_15
    try clear rM12_14
    try clear rM12_13
    try clear rM12_12
    try clear rM12_1
    try clear eM12
    try clear bs37
    try clear s37
    try clear as37
    try clear bM10
    try clear aM10_182_p1toNatClampNeg1
    try clear aM10_182_p1toNatClampNeg
    try clear mM10_13
    try clear mM10_12
    try clear mM10_1
    try clear rM10_15
    try clear rM10_14
    try clear rM10_13
    try clear rM10_12
    try clear rM10_1
    try clear gx9
    try clear qx9
    try clear h11
    try clear jM10
    try clear ch1
    try clear wlx8
    try clear gx8
    try clear ex8
    try clear sx7
    try clear mx7
    try clear gx7
    try clear ex7
    try clear tx6
    try clear ex6
    try clear bM5
    try clear mM5_15
    try clear mM5_14
    try clear mM5_13
    try clear mM5_12
    try clear mM5_1
    try clear rM5_15
    try clear rM5_14
    try clear rM5_13
    try clear rM5_12
    try clear rM5_1
    try clear eM5
    try clear bs13
    try clear s13
    try clear as13
    try clear bM3
    try clear aM3_182_p1toNatClampNeg1
    try clear aM3_182_p1toNatClampNeg
    try clear mM3_13
    try clear mM3_12
    try clear mM3_1
    try clear rM3_15
    try clear rM3_14
    try clear rM3_13
    try clear rM3_12
    try clear rM3_1
    try clear gx2
    try clear qx2
    try clear h4
    try clear jM3
    try clear ch0
    try clear sx1
    try clear mx1
    try clear gx1
    try clear ex1
    try clear rM0_15
    try clear rM0_14
    try clear rM0_13
    try clear rM0_12
    try clear rM0_1
    intro  M21 hf hJ hiZq bM21
    have rM21_1 := J_sl1 (M := M21) hJ
    have rM21_12 := J_sl12 (M := M21) hJ
    have rM21_13 := J_sl13 (M := M21) hJ
    have rM21_14 := J_sl14 (M := M21) hJ
    have rM21_15 := J_sl15 (M := M21) hJ
    have mM21_1 : (M21.1 175 1).toInt = (M0.1 175 1).toInt := tl_slot (hf.1 175 1 (show ¬ ((175 = 182 ∧ p1Zq.toInt ≤ ((1 : Nat) : Int) ∧ ((1 : Nat) : Int) < p1Zq.toInt + 5) ∨ (175 = 175 ∧ 1 = 14) ∨ (175 = 175 ∧ 1 = 15)) by first | (simp; done) | omega))
    have mM21_12 : (M21.1 175 12).toInt = (M0.1 175 12).toInt := tl_slot (hf.1 175 12 (show ¬ ((175 = 182 ∧ p1Zq.toInt ≤ ((12 : Nat) : Int) ∧ ((12 : Nat) : Int) < p1Zq.toInt + 5) ∨ (175 = 175 ∧ 12 = 14) ∨ (175 = 175 ∧ 12 = 15)) by first | (simp; done) | omega))
    have mM21_13 : (M21.1 175 13).toInt = (M0.1 175 13).toInt := tl_slot (hf.1 175 13 (show ¬ ((175 = 182 ∧ p1Zq.toInt ≤ ((13 : Nat) : Int) ∧ ((13 : Nat) : Int) < p1Zq.toInt + 5) ∨ (175 = 175 ∧ 13 = 14) ∨ (175 = 175 ∧ 13 = 15)) by first | (simp; done) | omega))
    have s82 := hiZq.2.2.2.2.2.2.2.1
    have f82 : 0 ≤ (M21.1 182 (p1Zq.toNatClampNeg)).toInt ∧ (M21.1 182 (p1Zq.toNatClampNeg)).toInt ≤ 5 ∧ 0 ≤ (M21.1 182 (p1Zq.toNatClampNeg + 1)).toInt ∧ (M21.1 182 (p1Zq.toNatClampNeg + 1)).toInt ≤ 5 ∧ -1 ≤ (M21.1 175 15).toInt ∧ (M0.1 175 14).toInt ≤ (M21.1 175 14).toInt ∧ (M21.1 175 14).toInt ≤ e ∧ (M21.1 175 1).toInt = PEZq ∧ (M21.1 175 12).toInt = (M0.1 175 12).toInt ∧ (M21.1 175 13).toInt = (M0.1 175 13).toInt := by omega
    refine li_aload_n 0 dX12_readThing_82 rfl ?_
    refine li_bipush 45 dX12_readThing_83 (by decide) ?_
    have em8 : min (M21.1 175 12).toInt (M21.1 175 13).toInt = e := by rw [← he, show (M21.1 175 12).toInt = (M0.1 175 12).toInt from Int.le_antisymm (by omega) (by omega), show (M21.1 175 13).toInt = (M0.1 175 13).toInt from Int.le_antisymm (by omega) (by omega)]
    have ch2 : (M21.1 175 14).toInt = Q1Zq → (li_hr M21).toInt = rd_ch (li_by (M0.1 180)) e (Q1Zq) := fun h9 => hr_pt bM21 (by omega) (fs_180 li_fs_refl hf (fun i => (show ¬ ((180 = 182 ∧ p1Zq.toInt ≤ ((i : Nat) : Int) ∧ ((i : Nat) : Int) < p1Zq.toInt + 5) ∨ (180 = 175 ∧ i = 14) ∨ (180 = 175 ∧ i = 15)) by first | (simp; done) | omega))) em8 h9
    have z45Zq : (45 : Int32).toInt = 45 := rfl
    refine li_callV (n := 1) (As := [.int 45]) dX12_readThing_85 (k_X12_need (d - 1) (by omega) 45 M21 hJ (by omega)) (by omega) (Nat.le_of_ble_eq_true rfl) w_1601 w_1603 w_48 w_112 w_1604 (by decide +kernel) rfl (by decide) sh_175 rfl rfl (Nat.le_of_ble_eq_true rfl) (fun r M23 h24 => ?_)
    obtain ⟨rfl, h24, jM23, nM23⟩ := h24
    have hf := li_fs_trans hf h24 (fun i k => fun hZq => Or.elim hZq (fun hZq => Or.inr (Or.inl hZq)) (fun hZq => Or.inr (Or.inr hZq)))
    have hJ := jM23
    have rM23_1 := J_sl1 (M := M23) hJ
    have rM23_12 := J_sl12 (M := M23) hJ
    have rM23_13 := J_sl13 (M := M23) hJ
    have rM23_14 := J_sl14 (M := M23) hJ
    have rM23_15 := J_sl15 (M := M23) hJ
    have mM23_1 : (M23.1 175 1).toInt = (M21.1 175 1).toInt := tl_slot (h24.1 175 1 (show ¬ ((175 = 175 ∧ 1 = 14) ∨ (175 = 175 ∧ 1 = 15)) by decide))
    have mM23_12 : (M23.1 175 12).toInt = (M21.1 175 12).toInt := tl_slot (h24.1 175 12 (show ¬ ((175 = 175 ∧ 12 = 14) ∨ (175 = 175 ∧ 12 = 15)) by decide))
    have mM23_13 : (M23.1 175 13).toInt = (M21.1 175 13).toInt := tl_slot (h24.1 175 13 (show ¬ ((175 = 175 ∧ 13 = 14) ∨ (175 = 175 ∧ 13 = 15)) by decide))
    have aM23_182_p1toNatClampNeg : (M23.1 182 (p1Zq.toNatClampNeg)).toInt = (M21.1 182 (p1Zq.toNatClampNeg)).toInt := tl_slot (h24.1 182 (p1Zq.toNatClampNeg) (show ¬ ((182 = 175 ∧ p1Zq.toNatClampNeg = 14) ∨ (182 = 175 ∧ p1Zq.toNatClampNeg = 15)) by first | (simp; done) | omega))
    have aM23_182_p1toNatClampNeg1 : (M23.1 182 (p1Zq.toNatClampNeg + 1)).toInt = (M21.1 182 (p1Zq.toNatClampNeg + 1)).toInt := tl_slot (h24.1 182 (p1Zq.toNatClampNeg + 1) (show ¬ ((182 = 175 ∧ p1Zq.toNatClampNeg + 1 = 14) ∨ (182 = 175 ∧ p1Zq.toNatClampNeg + 1 = 15)) by first | (simp; done) | omega))
    have bM23 : M23.2.2 0 = some 180 := (h24.2.2 0 (fun h9 => by first | exact (h9 : False).elim | (simp at h9; done) | omega)).trans bM21
    have em9 : min (M21.1 175 12).toInt (M21.1 175 13).toInt = e := by rw [← he, show (M21.1 175 12).toInt = (M0.1 175 12).toInt from Int.le_antisymm (by omega) (by omega), show (M21.1 175 13).toInt = (M0.1 175 13).toInt from Int.le_antisymm (by omega) (by omega)]
    have s85 : (((M23.1 175 15).toInt = -1 ∧ (97 ≤ rd_ch (li_by (M0.1 180)) e ((M0.1 175 14).toInt) ∧ rd_ch (li_by (M0.1 180)) e ((M0.1 175 14).toInt) ≤ 96 + PEZq) ∧ (97 ≤ rd_ch (li_by (M0.1 180)) e ((M0.1 175 14).toInt + 1) ∧ rd_ch (li_by (M0.1 180)) e ((M0.1 175 14).toInt + 1) ≤ 96 + PEZq) ∧ ¬ rd_ch (li_by (M0.1 180)) e ((M0.1 175 14).toInt + 1) = rd_ch (li_by (M0.1 180)) e ((M0.1 175 14).toInt) ∧ 0 < R1 ∧ rd_ch (li_by (M0.1 180)) e (Q1Zq) = 45 ∧ (M23.1 175 14).toInt = Q1Zq + 1) ∨ (¬ (M23.1 175 15).toInt = -1 ∧ ¬ ((97 ≤ rd_ch (li_by (M0.1 180)) e ((M0.1 175 14).toInt) ∧ rd_ch (li_by (M0.1 180)) e ((M0.1 175 14).toInt) ≤ 96 + PEZq) ∧ (97 ≤ rd_ch (li_by (M0.1 180)) e ((M0.1 175 14).toInt + 1) ∧ rd_ch (li_by (M0.1 180)) e ((M0.1 175 14).toInt + 1) ≤ 96 + PEZq) ∧ ¬ rd_ch (li_by (M0.1 180)) e ((M0.1 175 14).toInt + 1) = rd_ch (li_by (M0.1 180)) e ((M0.1 175 14).toInt) ∧ 0 < R1 ∧ rd_ch (li_by (M0.1 180)) e (Q1Zq) = 45 ∧ 0 ≤ R2 ∧ rd_ch (li_by (M0.1 180)) e (Q2Zq) = 61 ∧ 0 ≤ R3))) ∧ (M21.1 175 14).toInt ≤ (M23.1 175 14).toInt ∧ (M23.1 175 14).toInt ≤ e ∧ -1 ≤ (M23.1 175 15).toInt := by
      rcases s82 with ⟨c0, k0Zq, k1Zq, k2Zq, k4Zq, ca⟩ | ⟨c0, cb⟩
      · have hw : (M21.1 175 15).toInt = -1 := Int.le_antisymm (by omega) (by omega)
        have hcZq := ch2 (Int.le_antisymm (by omega) (by omega))
        by_cases e9Zq : (li_hr M21).toInt = (45 : Int32).toInt
        · have u := nM23.1 hw e9Zq
          exact ⟨Or.inl ⟨u.2.1, k0Zq, k1Zq, k2Zq, k4Zq, Int.le_antisymm (by omega) (by omega), Int.le_antisymm (by omega) (by omega)⟩, by omega, by rw [← em9]; exact Int.le_min.mpr ⟨by omega, by omega⟩, by omega⟩
        · have u := nM23.2.1 hw e9Zq
          exact ⟨Or.inr ⟨by omega, fun h9 => e9Zq (by have h8 := h9.2.2.2.2.1; exact Int.le_antisymm (by omega) (by omega))⟩, by omega, by omega, by omega⟩
      · have u := nM23.2.2 (fun h9 => c0 (Int.le_antisymm (by omega) (by omega)))
        exact ⟨Or.inr ⟨fun h9 => c0 (Int.le_antisymm (by omega) (by omega)), cb⟩, by omega, by omega, by omega⟩
    have as85 := s85.2
    have s85 := s85.1
    try clear nM23
    try clear em9
    try clear ch2
    try clear hiZq
    try clear s82
    try clear em8
    refine li_aload_n 0 dX12_readThing_88 rfl ?_
    refine li_getr (k := 16) (N := 52) (T := TX12) (C0 := RX12) dX12_readThing_89 (by decide) sh_175 rfl rfl (by decide) (by decide) li_in12 w_1420 ?_
    refine li_iload_n 1 dX12_readThing_92 rfl ?_
    refine li_iconst 3 dX12_readThing_93 (by decide) ?_
    refine li_iadd dX12_readThing_94 ?_
    refine li_top (fun x25 ex25 => ?_)
    have z3 : (3 : Int32).toInt = 3 := rfl
    try (have tx25 : x25.toInt = (p1Zq : Int32).toInt + (3 : Int32).toInt := tl_add ex25 ⟨by omega, by omega⟩)
    refine li_aload_n 0 dX12_readThing_95 rfl ?_
    refine li_iconst 2 dX12_readThing_96 (by decide) ?_
    obtain ⟨r2, q2Zq, n2Zq⟩ : ∃ r q, li_mq (M23.1 180) e (2) (-1) ((M23.1 175 14).toInt) r q := li_nq_self
    have g2 := li_nq_gt n2Zq
    have em8 : min (M23.1 175 12).toInt (M23.1 175 13).toInt = e := by rw [← he, show (M23.1 175 12).toInt = (M0.1 175 12).toInt from Int.le_antisymm (by omega) (by omega), show (M23.1 175 13).toInt = (M0.1 175 13).toInt from Int.le_antisymm (by omega) (by omega)]
    have e2Zq : (M23.1 175 14).toInt = Q1Zq + 1 → r2 = R2 ∧ q2Zq = Q2Zq := fun h9 => li_nq_eq nq2 n2Zq (congrArg li_by (fs_180 li_fs_refl hf (fun i => (show ¬ ((180 = 182 ∧ p1Zq.toInt ≤ ((i : Nat) : Int) ∧ ((i : Nat) : Int) < p1Zq.toInt + 5) ∨ (180 = 175 ∧ i = 14) ∨ (180 = 175 ∧ i = 15)) by first | (simp; done) | omega)))) rfl rfl h9
    have z2 : (2 : Int32).toInt = 2 := rfl
    refine li_callV (n := 1) (As := [.int 2]) dX12_readThing_97 (k5_X12_number (d - 1) (by omega) 2 M23 hJ (by decide) bM23 _ _ (li_mq_tr rfl em8 (by decide) rfl rfl rfl rfl n2Zq)) (by omega) (Nat.le_of_ble_eq_true rfl) w_1589 w_1591 w_45 w_112 w_1592 (by decide +kernel) rfl (by decide) sh_175 rfl rfl (Nat.le_of_ble_eq_true rfl) (fun r M27 h28 => ?_)
    obtain ⟨⟨x26, rfl, qx26⟩, h28, jM27⟩ := h28
    have gx26 := tl_rg x26
    have hf := li_fs_trans hf h28 (fun i k => fun hZq => Or.elim hZq (fun hZq => Or.inr (Or.inl hZq)) (fun hZq => Or.inr (Or.inr hZq)))
    have hJ := jM27
    have rM27_1 := J_sl1 (M := M27) hJ
    have rM27_12 := J_sl12 (M := M27) hJ
    have rM27_13 := J_sl13 (M := M27) hJ
    have rM27_14 := J_sl14 (M := M27) hJ
    have rM27_15 := J_sl15 (M := M27) hJ
    have mM27_1 : (M27.1 175 1).toInt = (M23.1 175 1).toInt := tl_slot (h28.1 175 1 (show ¬ ((175 = 175 ∧ 1 = 14) ∨ (175 = 175 ∧ 1 = 15)) by decide))
    have mM27_12 : (M27.1 175 12).toInt = (M23.1 175 12).toInt := tl_slot (h28.1 175 12 (show ¬ ((175 = 175 ∧ 12 = 14) ∨ (175 = 175 ∧ 12 = 15)) by decide))
    have mM27_13 : (M27.1 175 13).toInt = (M23.1 175 13).toInt := tl_slot (h28.1 175 13 (show ¬ ((175 = 175 ∧ 13 = 14) ∨ (175 = 175 ∧ 13 = 15)) by decide))
    have aM27_182_p1toNatClampNeg : (M27.1 182 (p1Zq.toNatClampNeg)).toInt = (M23.1 182 (p1Zq.toNatClampNeg)).toInt := tl_slot (h28.1 182 (p1Zq.toNatClampNeg) (show ¬ ((182 = 175 ∧ p1Zq.toNatClampNeg = 14) ∨ (182 = 175 ∧ p1Zq.toNatClampNeg = 15)) by first | (simp; done) | omega))
    have aM27_182_p1toNatClampNeg1 : (M27.1 182 (p1Zq.toNatClampNeg + 1)).toInt = (M23.1 182 (p1Zq.toNatClampNeg + 1)).toInt := tl_slot (h28.1 182 (p1Zq.toNatClampNeg + 1) (show ¬ ((182 = 175 ∧ p1Zq.toNatClampNeg + 1 = 14) ∨ (182 = 175 ∧ p1Zq.toNatClampNeg + 1 = 15)) by first | (simp; done) | omega))
    have bM27 : M27.2.2 0 = some 180 := (h28.2.2 0 (fun h9 => by first | exact (h9 : False).elim | (simp at h9; done) | omega)).trans bM23
    have em9 : min (M23.1 175 12).toInt (M23.1 175 13).toInt = e := by rw [← he, show (M23.1 175 12).toInt = (M0.1 175 12).toInt from Int.le_antisymm (by omega) (by omega), show (M23.1 175 13).toInt = (M0.1 175 13).toInt from Int.le_antisymm (by omega) (by omega)]
    have s97 : (((M27.1 175 15).toInt = -1 ∧ (97 ≤ rd_ch (li_by (M0.1 180)) e ((M0.1 175 14).toInt) ∧ rd_ch (li_by (M0.1 180)) e ((M0.1 175 14).toInt) ≤ 96 + PEZq) ∧ (97 ≤ rd_ch (li_by (M0.1 180)) e ((M0.1 175 14).toInt + 1) ∧ rd_ch (li_by (M0.1 180)) e ((M0.1 175 14).toInt + 1) ≤ 96 + PEZq) ∧ ¬ rd_ch (li_by (M0.1 180)) e ((M0.1 175 14).toInt + 1) = rd_ch (li_by (M0.1 180)) e ((M0.1 175 14).toInt) ∧ 0 < R1 ∧ rd_ch (li_by (M0.1 180)) e (Q1Zq) = 45 ∧ 0 ≤ R2 ∧ (M27.1 175 14).toInt = Q2Zq) ∨ (¬ (M27.1 175 15).toInt = -1 ∧ ¬ ((97 ≤ rd_ch (li_by (M0.1 180)) e ((M0.1 175 14).toInt) ∧ rd_ch (li_by (M0.1 180)) e ((M0.1 175 14).toInt) ≤ 96 + PEZq) ∧ (97 ≤ rd_ch (li_by (M0.1 180)) e ((M0.1 175 14).toInt + 1) ∧ rd_ch (li_by (M0.1 180)) e ((M0.1 175 14).toInt + 1) ≤ 96 + PEZq) ∧ ¬ rd_ch (li_by (M0.1 180)) e ((M0.1 175 14).toInt + 1) = rd_ch (li_by (M0.1 180)) e ((M0.1 175 14).toInt) ∧ 0 < R1 ∧ rd_ch (li_by (M0.1 180)) e (Q1Zq) = 45 ∧ 0 ≤ R2 ∧ rd_ch (li_by (M0.1 180)) e (Q2Zq) = 61 ∧ 0 ≤ R3))) ∧ (M23.1 175 14).toInt ≤ (M27.1 175 14).toInt ∧ (M27.1 175 14).toInt ≤ e ∧ -1 ≤ (M27.1 175 15).toInt := by
      rcases s85 with ⟨c0, k0Zq, k1Zq, k2Zq, k4Zq, k5Zq, ca⟩ | ⟨c0, cb⟩
      · have hw : (M23.1 175 15).toInt = -1 := Int.le_antisymm (by omega) (by omega)
        have em := e2Zq (Int.le_antisymm (by omega) (by omega))
        have u3 := qx26.2.2.2 (by rw [em9]; omega)
        rw [em9] at u3
        rcases Int.lt_or_le r2 0 with c | c
        · have u := (qx26.1 hw).1 c
          exact ⟨Or.inr ⟨by omega, fun h9 => by have h8 := h9.2.2.2.2.2.1; omega⟩, by omega, u3, by omega⟩
        · have u := (qx26.1 hw).2 c
          have g9 := g2.2.1 c
          exact ⟨Or.inl ⟨u.2.2, k0Zq, k1Zq, k2Zq, k4Zq, k5Zq, by omega, Int.le_antisymm (by omega) (by omega)⟩, by omega, u3, by omega⟩
      · have u := qx26.2.1 (fun h9 => c0 (Int.le_antisymm (by omega) (by omega)))
        exact ⟨Or.inr ⟨fun h9 => c0 (Int.le_antisymm (by omega) (by omega)), cb⟩, by omega, by omega, by omega⟩
    have as97 := s97.2
    have s97 := s97.1
    try clear qx26
    try clear em9
    try clear e2Zq
    try clear s85
    try clear g2
    try clear em8
    refine li_iast dX12_readThing_100 (by decide) sh_182 (tl_in ⟨by omega, by omega⟩) ?_
    refine li_nm (fun M29 eM29 => ?_)
    have hf := li_fs_ui hf (show (182 = 182 ∧ p1Zq.toInt ≤ (((x25 : Int32).toNatClampNeg : Nat) : Int) ∧ (((x25 : Int32).toNatClampNeg : Nat) : Int) < p1Zq.toInt + 5) ∨ (182 = 175 ∧ (x25 : Int32).toNatClampNeg = 14) ∨ (182 = 175 ∧ (x25 : Int32).toNatClampNeg = 15) by have h9 := li_cl (i := x25) (by omega); omega) eM29
    have hJ := hJ.st (by decide) (li_el_free (by first | (unfold li_led; decide) | (unfold li_led; omega)) (by decide) (by decide) (by first | (unfold li_rq; decide) | (unfold li_rq; omega))) eM29
    have rM29_1 := J_sl1 (M := M29) hJ
    have rM29_12 := J_sl12 (M := M29) hJ
    have rM29_13 := J_sl13 (M := M29) hJ
    have rM29_14 := J_sl14 (M := M29) hJ
    have rM29_15 := J_sl15 (M := M29) hJ
    have mM29_1 : (M29.1 175 1).toInt = (M27.1 175 1).toInt := by rw [eM29, li_ui_at, if_neg (by decide)]
    have mM29_12 : (M29.1 175 12).toInt = (M27.1 175 12).toInt := by rw [eM29, li_ui_at, if_neg (by decide)]
    have mM29_13 : (M29.1 175 13).toInt = (M27.1 175 13).toInt := by rw [eM29, li_ui_at, if_neg (by decide)]
    have mM29_14 : (M29.1 175 14).toInt = (M27.1 175 14).toInt := by rw [eM29, li_ui_at, if_neg (by decide)]
    have mM29_15 : (M29.1 175 15).toInt = (M27.1 175 15).toInt := by rw [eM29, li_ui_at, if_neg (by decide)]
    first | (have aM29_182_p1toNatClampNeg : (M29.1 182 (p1Zq.toNatClampNeg)).toInt = (x26 : Int32).toInt := by rw [eM29, li_ui_at, if_pos rfl, if_pos (show p1Zq.toNatClampNeg = (x25 : Int32).toNatClampNeg by have h9 := li_cl (i := x25) (by omega); have h8 := li_cl (i := p1Zq) (by omega); omega)]) | (have aM29_182_p1toNatClampNeg : (M29.1 182 (p1Zq.toNatClampNeg)).toInt = (M27.1 182 (p1Zq.toNatClampNeg)).toInt := by rw [eM29, li_ui_at, if_pos rfl, if_neg (show ¬ p1Zq.toNatClampNeg = (x25 : Int32).toNatClampNeg by have h9 := li_cl (i := x25) (by omega); have h8 := li_cl (i := p1Zq) (by omega); omega)]) | skip
    first | (have aM29_182_p1toNatClampNeg1 : (M29.1 182 (p1Zq.toNatClampNeg + 1)).toInt = (x26 : Int32).toInt := by rw [eM29, li_ui_at, if_pos rfl, if_pos (show p1Zq.toNatClampNeg + 1 = (x25 : Int32).toNatClampNeg by have h9 := li_cl (i := x25) (by omega); have h8 := li_cl (i := p1Zq) (by omega); omega)]) | (have aM29_182_p1toNatClampNeg1 : (M29.1 182 (p1Zq.toNatClampNeg + 1)).toInt = (M27.1 182 (p1Zq.toNatClampNeg + 1)).toInt := by rw [eM29, li_ui_at, if_pos rfl, if_neg (show ¬ p1Zq.toNatClampNeg + 1 = (x25 : Int32).toNatClampNeg by have h9 := li_cl (i := x25) (by omega); have h8 := li_cl (i := p1Zq) (by omega); omega)]) | skip
    have bM29 : M29.2.2 0 = some 180 := by rw [eM29]; exact bM27
    refine li_aload_n 0 dX12_readThing_101 rfl ?_
    refine li_bipush 61 dX12_readThing_102 (by decide) ?_
    have em8 : min (M29.1 175 12).toInt (M29.1 175 13).toInt = e := by rw [← he, show (M29.1 175 12).toInt = (M0.1 175 12).toInt from Int.le_antisymm (by omega) (by omega), show (M29.1 175 13).toInt = (M0.1 175 13).toInt from Int.le_antisymm (by omega) (by omega)]
    have ch3 : (M29.1 175 14).toInt = Q2Zq → (li_hr M29).toInt = rd_ch (li_by (M0.1 180)) e (Q2Zq) := fun h9 => hr_pt bM29 (by omega) (fs_180 li_fs_refl hf (fun i => (show ¬ ((180 = 182 ∧ p1Zq.toInt ≤ ((i : Nat) : Int) ∧ ((i : Nat) : Int) < p1Zq.toInt + 5) ∨ (180 = 175 ∧ i = 14) ∨ (180 = 175 ∧ i = 15)) by first | (simp; done) | omega))) em8 h9
    have z61Zq : (61 : Int32).toInt = 61 := rfl
    refine li_callV (n := 1) (As := [.int 61]) dX12_readThing_104 (k_X12_need (d - 1) (by omega) 61 M29 hJ (by omega)) (by omega) (Nat.le_of_ble_eq_true rfl) w_1601 w_1603 w_48 w_112 w_1604 (by decide +kernel) rfl (by decide) sh_175 rfl rfl (Nat.le_of_ble_eq_true rfl) (fun r M31 h32 => ?_)
    obtain ⟨rfl, h32, jM31, nM31⟩ := h32
    have hf := li_fs_trans hf h32 (fun i k => fun hZq => Or.elim hZq (fun hZq => Or.inr (Or.inl hZq)) (fun hZq => Or.inr (Or.inr hZq)))
    have hJ := jM31
    have rM31_1 := J_sl1 (M := M31) hJ
    have rM31_12 := J_sl12 (M := M31) hJ
    have rM31_13 := J_sl13 (M := M31) hJ
    have rM31_14 := J_sl14 (M := M31) hJ
    have rM31_15 := J_sl15 (M := M31) hJ
    have mM31_1 : (M31.1 175 1).toInt = (M29.1 175 1).toInt := tl_slot (h32.1 175 1 (show ¬ ((175 = 175 ∧ 1 = 14) ∨ (175 = 175 ∧ 1 = 15)) by decide))
    have mM31_12 : (M31.1 175 12).toInt = (M29.1 175 12).toInt := tl_slot (h32.1 175 12 (show ¬ ((175 = 175 ∧ 12 = 14) ∨ (175 = 175 ∧ 12 = 15)) by decide))
    have mM31_13 : (M31.1 175 13).toInt = (M29.1 175 13).toInt := tl_slot (h32.1 175 13 (show ¬ ((175 = 175 ∧ 13 = 14) ∨ (175 = 175 ∧ 13 = 15)) by decide))
    have aM31_182_p1toNatClampNeg : (M31.1 182 (p1Zq.toNatClampNeg)).toInt = (M29.1 182 (p1Zq.toNatClampNeg)).toInt := tl_slot (h32.1 182 (p1Zq.toNatClampNeg) (show ¬ ((182 = 175 ∧ p1Zq.toNatClampNeg = 14) ∨ (182 = 175 ∧ p1Zq.toNatClampNeg = 15)) by first | (simp; done) | omega))
    have aM31_182_p1toNatClampNeg1 : (M31.1 182 (p1Zq.toNatClampNeg + 1)).toInt = (M29.1 182 (p1Zq.toNatClampNeg + 1)).toInt := tl_slot (h32.1 182 (p1Zq.toNatClampNeg + 1) (show ¬ ((182 = 175 ∧ p1Zq.toNatClampNeg + 1 = 14) ∨ (182 = 175 ∧ p1Zq.toNatClampNeg + 1 = 15)) by first | (simp; done) | omega))
    have bM31 : M31.2.2 0 = some 180 := (h32.2.2 0 (fun h9 => by first | exact (h9 : False).elim | (simp at h9; done) | omega)).trans bM29
    have em9 : min (M29.1 175 12).toInt (M29.1 175 13).toInt = e := by rw [← he, show (M29.1 175 12).toInt = (M0.1 175 12).toInt from Int.le_antisymm (by omega) (by omega), show (M29.1 175 13).toInt = (M0.1 175 13).toInt from Int.le_antisymm (by omega) (by omega)]
    have s104 : (((M31.1 175 15).toInt = -1 ∧ (97 ≤ rd_ch (li_by (M0.1 180)) e ((M0.1 175 14).toInt) ∧ rd_ch (li_by (M0.1 180)) e ((M0.1 175 14).toInt) ≤ 96 + PEZq) ∧ (97 ≤ rd_ch (li_by (M0.1 180)) e ((M0.1 175 14).toInt + 1) ∧ rd_ch (li_by (M0.1 180)) e ((M0.1 175 14).toInt + 1) ≤ 96 + PEZq) ∧ ¬ rd_ch (li_by (M0.1 180)) e ((M0.1 175 14).toInt + 1) = rd_ch (li_by (M0.1 180)) e ((M0.1 175 14).toInt) ∧ 0 < R1 ∧ rd_ch (li_by (M0.1 180)) e (Q1Zq) = 45 ∧ 0 ≤ R2 ∧ rd_ch (li_by (M0.1 180)) e (Q2Zq) = 61 ∧ (M31.1 175 14).toInt = Q2Zq + 1) ∨ (¬ (M31.1 175 15).toInt = -1 ∧ ¬ ((97 ≤ rd_ch (li_by (M0.1 180)) e ((M0.1 175 14).toInt) ∧ rd_ch (li_by (M0.1 180)) e ((M0.1 175 14).toInt) ≤ 96 + PEZq) ∧ (97 ≤ rd_ch (li_by (M0.1 180)) e ((M0.1 175 14).toInt + 1) ∧ rd_ch (li_by (M0.1 180)) e ((M0.1 175 14).toInt + 1) ≤ 96 + PEZq) ∧ ¬ rd_ch (li_by (M0.1 180)) e ((M0.1 175 14).toInt + 1) = rd_ch (li_by (M0.1 180)) e ((M0.1 175 14).toInt) ∧ 0 < R1 ∧ rd_ch (li_by (M0.1 180)) e (Q1Zq) = 45 ∧ 0 ≤ R2 ∧ rd_ch (li_by (M0.1 180)) e (Q2Zq) = 61 ∧ 0 ≤ R3))) ∧ (M29.1 175 14).toInt ≤ (M31.1 175 14).toInt ∧ (M31.1 175 14).toInt ≤ e ∧ -1 ≤ (M31.1 175 15).toInt := by
      rcases s97 with ⟨c0, k0Zq, k1Zq, k2Zq, k4Zq, k5Zq, k6Zq, ca⟩ | ⟨c0, cb⟩
      · have hw : (M29.1 175 15).toInt = -1 := Int.le_antisymm (by omega) (by omega)
        have hcZq := ch3 (Int.le_antisymm (by omega) (by omega))
        by_cases e9Zq : (li_hr M29).toInt = (61 : Int32).toInt
        · have u := nM31.1 hw e9Zq
          exact ⟨Or.inl ⟨u.2.1, k0Zq, k1Zq, k2Zq, k4Zq, k5Zq, k6Zq, Int.le_antisymm (by omega) (by omega), Int.le_antisymm (by omega) (by omega)⟩, by omega, by rw [← em9]; exact Int.le_min.mpr ⟨by omega, by omega⟩, by omega⟩
        · have u := nM31.2.1 hw e9Zq
          exact ⟨Or.inr ⟨by omega, fun h9 => e9Zq (by have h8 := h9.2.2.2.2.2.2.1; exact Int.le_antisymm (by omega) (by omega))⟩, by omega, by omega, by omega⟩
      · have u := nM31.2.2 (fun h9 => c0 (Int.le_antisymm (by omega) (by omega)))
        exact ⟨Or.inr ⟨fun h9 => c0 (Int.le_antisymm (by omega) (by omega)), cb⟩, by omega, by omega, by omega⟩
    have as104 := s104.2
    have s104 := s104.1
    try clear nM31
    try clear em9
    try clear ch3
    try clear s97
    try clear em8
    refine li_aload_n 0 dX12_readThing_107 rfl ?_
    refine li_getr (k := 16) (N := 52) (T := TX12) (C0 := RX12) dX12_readThing_108 (by decide) sh_175 rfl rfl (by decide) (by decide) li_in12 w_1420 ?_
    refine li_iload_n 1 dX12_readThing_111 rfl ?_
    refine li_iconst 4 dX12_readThing_112 (by decide) ?_
    refine li_iadd dX12_readThing_113 ?_
    refine li_top (fun x33 ex33 => ?_)
    have z4 : (4 : Int32).toInt = 4 := rfl
    try (have tx33 : x33.toInt = (p1Zq : Int32).toInt + (4 : Int32).toInt := tl_add ex33 ⟨by omega, by omega⟩)
    refine li_aload_n 0 dX12_readThing_114 rfl ?_
    refine li_iconst 2 dX12_readThing_115 (by decide) ?_
    obtain ⟨r3, q3, n3Zq⟩ : ∃ r q, li_mq (M31.1 180) e (2) (-1) ((M31.1 175 14).toInt) r q := li_nq_self
    have g3Zq := li_nq_gt n3Zq
    have em8 : min (M31.1 175 12).toInt (M31.1 175 13).toInt = e := by rw [← he, show (M31.1 175 12).toInt = (M0.1 175 12).toInt from Int.le_antisymm (by omega) (by omega), show (M31.1 175 13).toInt = (M0.1 175 13).toInt from Int.le_antisymm (by omega) (by omega)]
    have e3Zq : (M31.1 175 14).toInt = Q2Zq + 1 → r3 = R3 ∧ q3 = Q3 := fun h9 => li_nq_eq nq3 n3Zq (congrArg li_by (fs_180 li_fs_refl hf (fun i => (show ¬ ((180 = 182 ∧ p1Zq.toInt ≤ ((i : Nat) : Int) ∧ ((i : Nat) : Int) < p1Zq.toInt + 5) ∨ (180 = 175 ∧ i = 14) ∨ (180 = 175 ∧ i = 15)) by first | (simp; done) | omega)))) rfl rfl h9
    have z2 : (2 : Int32).toInt = 2 := rfl
    refine li_callV (n := 1) (As := [.int 2]) dX12_readThing_116 (k5_X12_number (d - 1) (by omega) 2 M31 hJ (by decide) bM31 _ _ (li_mq_tr rfl em8 (by decide) rfl rfl rfl rfl n3Zq)) (by omega) (Nat.le_of_ble_eq_true rfl) w_1589 w_1591 w_45 w_112 w_1592 (by decide +kernel) rfl (by decide) sh_175 rfl rfl (Nat.le_of_ble_eq_true rfl) (fun r M35 h36 => ?_)
    obtain ⟨⟨x34, rfl, qx34⟩, h36, jM35⟩ := h36
    have gx34 := tl_rg x34
    have hf := li_fs_trans hf h36 (fun i k => fun hZq => Or.elim hZq (fun hZq => Or.inr (Or.inl hZq)) (fun hZq => Or.inr (Or.inr hZq)))
    have hJ := jM35
    have rM35_1 := J_sl1 (M := M35) hJ
    have rM35_12 := J_sl12 (M := M35) hJ
    have rM35_13 := J_sl13 (M := M35) hJ
    have rM35_14 := J_sl14 (M := M35) hJ
    have rM35_15 := J_sl15 (M := M35) hJ
    have mM35_1 : (M35.1 175 1).toInt = (M31.1 175 1).toInt := tl_slot (h36.1 175 1 (show ¬ ((175 = 175 ∧ 1 = 14) ∨ (175 = 175 ∧ 1 = 15)) by decide))
    have mM35_12 : (M35.1 175 12).toInt = (M31.1 175 12).toInt := tl_slot (h36.1 175 12 (show ¬ ((175 = 175 ∧ 12 = 14) ∨ (175 = 175 ∧ 12 = 15)) by decide))
    have mM35_13 : (M35.1 175 13).toInt = (M31.1 175 13).toInt := tl_slot (h36.1 175 13 (show ¬ ((175 = 175 ∧ 13 = 14) ∨ (175 = 175 ∧ 13 = 15)) by decide))
    have aM35_182_p1toNatClampNeg : (M35.1 182 (p1Zq.toNatClampNeg)).toInt = (M31.1 182 (p1Zq.toNatClampNeg)).toInt := tl_slot (h36.1 182 (p1Zq.toNatClampNeg) (show ¬ ((182 = 175 ∧ p1Zq.toNatClampNeg = 14) ∨ (182 = 175 ∧ p1Zq.toNatClampNeg = 15)) by first | (simp; done) | omega))
    have aM35_182_p1toNatClampNeg1 : (M35.1 182 (p1Zq.toNatClampNeg + 1)).toInt = (M31.1 182 (p1Zq.toNatClampNeg + 1)).toInt := tl_slot (h36.1 182 (p1Zq.toNatClampNeg + 1) (show ¬ ((182 = 175 ∧ p1Zq.toNatClampNeg + 1 = 14) ∨ (182 = 175 ∧ p1Zq.toNatClampNeg + 1 = 15)) by first | (simp; done) | omega))
    have bM35 : M35.2.2 0 = some 180 := (h36.2.2 0 (fun h9 => by first | exact (h9 : False).elim | (simp at h9; done) | omega)).trans bM31
    have em9 : min (M31.1 175 12).toInt (M31.1 175 13).toInt = e := by rw [← he, show (M31.1 175 12).toInt = (M0.1 175 12).toInt from Int.le_antisymm (by omega) (by omega), show (M31.1 175 13).toInt = (M0.1 175 13).toInt from Int.le_antisymm (by omega) (by omega)]
    have s116 : (((M35.1 175 15).toInt = -1 ∧ (97 ≤ rd_ch (li_by (M0.1 180)) e ((M0.1 175 14).toInt) ∧ rd_ch (li_by (M0.1 180)) e ((M0.1 175 14).toInt) ≤ 96 + PEZq) ∧ (97 ≤ rd_ch (li_by (M0.1 180)) e ((M0.1 175 14).toInt + 1) ∧ rd_ch (li_by (M0.1 180)) e ((M0.1 175 14).toInt + 1) ≤ 96 + PEZq) ∧ ¬ rd_ch (li_by (M0.1 180)) e ((M0.1 175 14).toInt + 1) = rd_ch (li_by (M0.1 180)) e ((M0.1 175 14).toInt) ∧ 0 < R1 ∧ rd_ch (li_by (M0.1 180)) e (Q1Zq) = 45 ∧ 0 ≤ R2 ∧ rd_ch (li_by (M0.1 180)) e (Q2Zq) = 61 ∧ 0 ≤ R3 ∧ (M35.1 175 14).toInt = Q3) ∨ (¬ (M35.1 175 15).toInt = -1 ∧ ¬ ((97 ≤ rd_ch (li_by (M0.1 180)) e ((M0.1 175 14).toInt) ∧ rd_ch (li_by (M0.1 180)) e ((M0.1 175 14).toInt) ≤ 96 + PEZq) ∧ (97 ≤ rd_ch (li_by (M0.1 180)) e ((M0.1 175 14).toInt + 1) ∧ rd_ch (li_by (M0.1 180)) e ((M0.1 175 14).toInt + 1) ≤ 96 + PEZq) ∧ ¬ rd_ch (li_by (M0.1 180)) e ((M0.1 175 14).toInt + 1) = rd_ch (li_by (M0.1 180)) e ((M0.1 175 14).toInt) ∧ 0 < R1 ∧ rd_ch (li_by (M0.1 180)) e (Q1Zq) = 45 ∧ 0 ≤ R2 ∧ rd_ch (li_by (M0.1 180)) e (Q2Zq) = 61 ∧ 0 ≤ R3))) ∧ (M31.1 175 14).toInt ≤ (M35.1 175 14).toInt ∧ (M35.1 175 14).toInt ≤ e ∧ -1 ≤ (M35.1 175 15).toInt := by
      rcases s104 with ⟨c0, k0Zq, k1Zq, k2Zq, k4Zq, k5Zq, k6Zq, k7Zq, ca⟩ | ⟨c0, cb⟩
      · have hw : (M31.1 175 15).toInt = -1 := Int.le_antisymm (by omega) (by omega)
        have em := e3Zq (Int.le_antisymm (by omega) (by omega))
        have u3 := qx34.2.2.2 (by rw [em9]; omega)
        rw [em9] at u3
        rcases Int.lt_or_le r3 0 with c | c
        · have u := (qx34.1 hw).1 c
          exact ⟨Or.inr ⟨by omega, fun h9 => by have h8 := h9.2.2.2.2.2.2.2; omega⟩, by omega, u3, by omega⟩
        · have u := (qx34.1 hw).2 c
          have g9 := g3Zq.2.1 c
          exact ⟨Or.inl ⟨u.2.2, k0Zq, k1Zq, k2Zq, k4Zq, k5Zq, k6Zq, k7Zq, by omega, Int.le_antisymm (by omega) (by omega)⟩, by omega, u3, by omega⟩
      · have u := qx34.2.1 (fun h9 => c0 (Int.le_antisymm (by omega) (by omega)))
        exact ⟨Or.inr ⟨fun h9 => c0 (Int.le_antisymm (by omega) (by omega)), cb⟩, by omega, by omega, by omega⟩
    have as116 := s116.2
    have s116 := s116.1
    try clear qx34
    try clear em9
    try clear e3Zq
    try clear s104
    try clear g3Zq
    try clear em8
    refine li_iast dX12_readThing_119 (by decide) sh_182 (tl_in ⟨by omega, by omega⟩) ?_
    refine li_nm (fun M37 eM37 => ?_)
    have hf := li_fs_ui hf (show (182 = 182 ∧ p1Zq.toInt ≤ (((x33 : Int32).toNatClampNeg : Nat) : Int) ∧ (((x33 : Int32).toNatClampNeg : Nat) : Int) < p1Zq.toInt + 5) ∨ (182 = 175 ∧ (x33 : Int32).toNatClampNeg = 14) ∨ (182 = 175 ∧ (x33 : Int32).toNatClampNeg = 15) by have h9 := li_cl (i := x33) (by omega); omega) eM37
    have hJ := hJ.st (by decide) (li_el_free (by first | (unfold li_led; decide) | (unfold li_led; omega)) (by decide) (by decide) (by first | (unfold li_rq; decide) | (unfold li_rq; omega))) eM37
    have rM37_1 := J_sl1 (M := M37) hJ
    have rM37_12 := J_sl12 (M := M37) hJ
    have rM37_13 := J_sl13 (M := M37) hJ
    have rM37_14 := J_sl14 (M := M37) hJ
    have rM37_15 := J_sl15 (M := M37) hJ
    have mM37_1 : (M37.1 175 1).toInt = (M35.1 175 1).toInt := by rw [eM37, li_ui_at, if_neg (by decide)]
    have mM37_12 : (M37.1 175 12).toInt = (M35.1 175 12).toInt := by rw [eM37, li_ui_at, if_neg (by decide)]
    have mM37_13 : (M37.1 175 13).toInt = (M35.1 175 13).toInt := by rw [eM37, li_ui_at, if_neg (by decide)]
    have mM37_14 : (M37.1 175 14).toInt = (M35.1 175 14).toInt := by rw [eM37, li_ui_at, if_neg (by decide)]
    have mM37_15 : (M37.1 175 15).toInt = (M35.1 175 15).toInt := by rw [eM37, li_ui_at, if_neg (by decide)]
    first | (have aM37_182_p1toNatClampNeg : (M37.1 182 (p1Zq.toNatClampNeg)).toInt = (x34 : Int32).toInt := by rw [eM37, li_ui_at, if_pos rfl, if_pos (show p1Zq.toNatClampNeg = (x33 : Int32).toNatClampNeg by have h9 := li_cl (i := x33) (by omega); have h8 := li_cl (i := p1Zq) (by omega); omega)]) | (have aM37_182_p1toNatClampNeg : (M37.1 182 (p1Zq.toNatClampNeg)).toInt = (M35.1 182 (p1Zq.toNatClampNeg)).toInt := by rw [eM37, li_ui_at, if_pos rfl, if_neg (show ¬ p1Zq.toNatClampNeg = (x33 : Int32).toNatClampNeg by have h9 := li_cl (i := x33) (by omega); have h8 := li_cl (i := p1Zq) (by omega); omega)]) | skip
    first | (have aM37_182_p1toNatClampNeg1 : (M37.1 182 (p1Zq.toNatClampNeg + 1)).toInt = (x34 : Int32).toInt := by rw [eM37, li_ui_at, if_pos rfl, if_pos (show p1Zq.toNatClampNeg + 1 = (x33 : Int32).toNatClampNeg by have h9 := li_cl (i := x33) (by omega); have h8 := li_cl (i := p1Zq) (by omega); omega)]) | (have aM37_182_p1toNatClampNeg1 : (M37.1 182 (p1Zq.toNatClampNeg + 1)).toInt = (M35.1 182 (p1Zq.toNatClampNeg + 1)).toInt := by rw [eM37, li_ui_at, if_pos rfl, if_neg (show ¬ p1Zq.toNatClampNeg + 1 = (x33 : Int32).toNatClampNeg by have h9 := li_cl (i := x33) (by omega); have h8 := li_cl (i := p1Zq) (by omega); omega)]) | skip
    have bM37 : M37.2.2 0 = some 180 := by rw [eM37]; exact bM35
    exact li_vret dX12_readThing_120 rfl ⟨rfl, hf, hJ, (by refine ⟨?_, ?_, ?_, ?_, ?_, ?_, ?_, ?_⟩ <;> omega)⟩
  rcases qx18 with ⟨rfl, qx18⟩ | ⟨rfl, qx18⟩
  · skip
    refine li_if_eq 82 dX12_readThing_58 (by decide) (fun c => absurd c (by decide)) (fun c => ?_)
    have s61 := s50.resolve_right (fun h9 => h9.1 (Int.le_antisymm (by omega) (by omega)))
    clear s50
    refine li_aload_n 0 dX12_readThing_61 rfl ?_
    refine li_getr (k := 16) (N := 52) (T := TX12) (C0 := RX12) dX12_readThing_62 (by decide) sh_175 rfl rfl (by decide) (by decide) li_in12 w_1420 ?_
    refine li_iload_n 1 dX12_readThing_65 rfl ?_
    refine li_iconst 2 dX12_readThing_66 (by decide) ?_
    refine li_iadd dX12_readThing_67 ?_
    refine li_top (fun x39 ex39 => ?_)
    have z2 : (2 : Int32).toInt = 2 := rfl
    try (have tx39 : x39.toInt = (p1Zq : Int32).toInt + (2 : Int32).toInt := tl_add ex39 ⟨by omega, by omega⟩)
    refine li_iald dX12_readThing_68 (by decide) sh_182 (tl_in ⟨by omega, by omega⟩) ?_
    refine li_top (fun x40 ex40 => ?_)
    have gx40 := tl_rg x40
    have wlx40 : x40.toInt = (x14 : Int32).toInt := tl_slot ((ex40.trans (h20.1 182 _ (by first | exact id | omega))).trans (by rw [eM17, li_ui_at, if_pos rfl, if_pos (show (x39 : Int32).toNatClampNeg = (x13 : Int32).toNatClampNeg by rw [ex39, ex13])]))
    refine li_if_ne 82 dX12_readThing_69 (by decide) (fun c41 => ?_) (fun c41 => ?_)
    · have tc41 : ¬ x40.toInt = 0 := tl_ne c41
      refine li_pick [0, 1] [(0, .ref (Z.2.2 175)), (1, .int p1Zq)] rfl ?_
      exact J82  M19 hf hJ ⟨(by omega), (by omega), (by omega), (by omega), (by omega), (by omega), (by omega), (by first | exact (fun (h8 : (M19.1 175 15).toInt = _) => Or.inr ⟨by omega, fun h9 => by have h7 := h9.2.2.2.1; omega⟩) mk79 | exact Or.inl ⟨Int.le_antisymm (by omega) (by omega), s61.2.1, s61.2.2.1, s61.2.2.2.1, by omega, Int.le_antisymm (by omega) (by omega)⟩ | exact Or.inr ⟨fun h9 => qx18 (Int.le_antisymm (by omega) (by omega)), (s50.resolve_left (fun h9 => qx18 (Int.le_antisymm (by omega) (by omega)))).2⟩), (Int.le_antisymm (by omega) (by omega)), (Int.le_antisymm (by omega) (by omega)), (Int.le_antisymm (by omega) (by omega))⟩ bM19
    · have tc41 : x40.toInt = 0 := tl_eq c41
      refine li_aload_n 0 dX12_readThing_72 rfl ?_
      refine li_aload_n 0 dX12_readThing_73 rfl ?_
      refine li_geti (k := 14) (N := 52) (T := TX12) (C0 := RX12) dX12_readThing_74 (by decide) sh_175 rfl rfl (by decide) li_in12 w_1418 ?_
      refine li_top (fun x42 ex42 => ?_)
      have gx42 : 0 ≤ x42.toInt ∧ x42.toInt ≤ 81 := by rw [ex42]; exact J_sl14 hJ
      have mx42 : x42.toInt = (M19.1 175 14).toInt := tl_slot ex42
      refine li_iconst 1 dX12_readThing_77 (by decide) ?_
      refine li_isub dX12_readThing_78 ?_
      refine li_top (fun x43 ex43 => ?_)
      have z1 : (1 : Int32).toInt = 1 := rfl
      try (have tx43 : x43.toInt = (x42 : Int32).toInt - (1 : Int32).toInt := tl_sub ex43 ⟨by omega, by omega⟩)
      refine li_callV (n := 1) (As := [.int x43]) dX12_readThing_79 (k_X12_fault (d - 1) (by omega) x43 M19 hJ ⟨by omega, by omega⟩) (by omega) (Nat.le_of_ble_eq_true rfl) w_1585 w_1587 w_44 w_112 w_1588 (by decide +kernel) rfl (by decide) sh_175 rfl rfl (Nat.le_of_ble_eq_true rfl) (fun r M45 h46 => ?_)
      obtain ⟨rfl, h46, jM45, nM45⟩ := h46
      have hf := li_fs_trans hf h46 (fun i k => fun hZq => Or.inr (Or.inr hZq))
      have kM45 : (li_hr M45).toInt = (li_hr M19).toInt := li_hr_fs h46 (show ¬ ((175 = 175 ∧ 12 = 15)) by decide) (show ¬ ((175 = 175 ∧ 13 = 15)) by decide) (show ¬ ((175 = 175 ∧ 14 = 15)) by decide) (show ¬ ((1000 = 175 ∧ 0 = 15)) by decide) (fun q i hZq => (show ¬ ((q = 175 ∧ i = 15)) by first | (unfold li_rq at hZq; rcases hZq with rfl | rfl | rfl <;> simp; done) | (unfold li_rq at hZq; omega))) (by assumption)
      have hJ := jM45
      have rM45_1 := J_sl1 (M := M45) hJ
      have rM45_12 := J_sl12 (M := M45) hJ
      have rM45_13 := J_sl13 (M := M45) hJ
      have rM45_14 := J_sl14 (M := M45) hJ
      have rM45_15 := J_sl15 (M := M45) hJ
      have mM45_1 : (M45.1 175 1).toInt = (M19.1 175 1).toInt := tl_slot (h46.1 175 1 (show ¬ ((175 = 175 ∧ 1 = 15)) by decide))
      have mM45_12 : (M45.1 175 12).toInt = (M19.1 175 12).toInt := tl_slot (h46.1 175 12 (show ¬ ((175 = 175 ∧ 12 = 15)) by decide))
      have mM45_13 : (M45.1 175 13).toInt = (M19.1 175 13).toInt := tl_slot (h46.1 175 13 (show ¬ ((175 = 175 ∧ 13 = 15)) by decide))
      have mM45_14 : (M45.1 175 14).toInt = (M19.1 175 14).toInt := tl_slot (h46.1 175 14 (show ¬ ((175 = 175 ∧ 14 = 15)) by decide))
      have aM45_182_p1toNatClampNeg : (M45.1 182 (p1Zq.toNatClampNeg)).toInt = (M19.1 182 (p1Zq.toNatClampNeg)).toInt := tl_slot (h46.1 182 (p1Zq.toNatClampNeg) (show ¬ ((182 = 175 ∧ p1Zq.toNatClampNeg = 15)) by first | (simp; done) | omega))
      have aM45_182_p1toNatClampNeg1 : (M45.1 182 (p1Zq.toNatClampNeg + 1)).toInt = (M19.1 182 (p1Zq.toNatClampNeg + 1)).toInt := tl_slot (h46.1 182 (p1Zq.toNatClampNeg + 1) (show ¬ ((182 = 175 ∧ p1Zq.toNatClampNeg + 1 = 15)) by first | (simp; done) | omega))
      have bM45 : M45.2.2 0 = some 180 := (h46.2.2 0 (fun h9 => by first | exact (h9 : False).elim | (simp at h9; done) | omega)).trans bM19
      have mk79 : (M45.1 175 15).toInt = (x43 : Int32).toInt := nM45.1 (Int.le_antisymm (by omega) (by omega))
      clear nM45
      refine li_pick [0, 1] [(0, .ref (Z.2.2 175)), (1, .int p1Zq)] rfl ?_
      exact J82  M45 hf hJ ⟨(by omega), (by omega), (by omega), (by omega), (by omega), (by omega), (by omega), (by first | exact (fun (h8 : (M45.1 175 15).toInt = _) => Or.inr ⟨by omega, fun h9 => by have h7 := h9.2.2.2.1; omega⟩) mk79 | exact Or.inl ⟨Int.le_antisymm (by omega) (by omega), s61.2.1, s61.2.2.1, s61.2.2.2.1, by omega, Int.le_antisymm (by omega) (by omega)⟩ | exact Or.inr ⟨fun h9 => qx18 (Int.le_antisymm (by omega) (by omega)), (s50.resolve_left (fun h9 => qx18 (Int.le_antisymm (by omega) (by omega)))).2⟩), (Int.le_antisymm (by omega) (by omega)), (Int.le_antisymm (by omega) (by omega)), (Int.le_antisymm (by omega) (by omega))⟩ bM45
  · skip
    refine li_if_eq 82 dX12_readThing_58 (by decide) (fun c => ?_) (fun c => absurd rfl c)
    refine li_pick [0, 1] [(0, .ref (Z.2.2 175)), (1, .int p1Zq)] rfl ?_
    exact J82  M19 hf hJ ⟨(by omega), (by omega), (by omega), (by omega), (by omega), (by omega), (by omega), (by first | exact (fun (h8 : (M19.1 175 15).toInt = _) => Or.inr ⟨by omega, fun h9 => by have h7 := h9.2.2.2.1; omega⟩) mk79 | exact Or.inl ⟨Int.le_antisymm (by omega) (by omega), s61.2.1, s61.2.2.1, s61.2.2.2.1, by omega, Int.le_antisymm (by omega) (by omega)⟩ | exact Or.inr ⟨fun h9 => qx18 (Int.le_antisymm (by omega) (by omega)), (s50.resolve_left (fun h9 => qx18 (Int.le_antisymm (by omega) (by omega)))).2⟩), (Int.le_antisymm (by omega) (by omega)), (Int.le_antisymm (by omega) (by omega)), (Int.le_antisymm (by omega) (by omega))⟩ bM19
