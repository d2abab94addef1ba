set_option maxRecDepth 100000 in
set_option maxHeartbeats 4000000 in
theorem k14_X12_readRule {l : Launch} {Z : li_Z} (d : Nat) (hdZq : 346 ≤ d) (M0 : li_M) (hJ : li_J M0) (TY : Int) (hTY : TY = (M0.1 175 7).toInt) (hBZq : Nat → Int32) (hhB : li_by (M0.1 180) = hBZq) : li_Met l Z YX12_readRule d [.ref (Z.2.2 175)] M0 (fun r M' => ((r = some (.int 1) ∧ ((TY = 0 ∨ (0 < TY ∧ ∃ q : Int, rpr hBZq (min TY 40) 0 0 0 1 q ∧ 0 ≤ q ∧ q ≤ min TY 40 ∧ TY ≤ q)) ∧ (M'.1 175 7).toInt = 0)) ∨ (r = some (.int 0) ∧ ((0 < TY ∧ ∃ okZq q : Int, rpr hBZq (min TY 40) 0 0 0 okZq q ∧ 0 ≤ q ∧ q ≤ min TY 40 ∧ ¬ (okZq = 1 ∧ TY ≤ q) ∧ (M'.1 175 15).toInt = q) ∧ (M'.1 175 7).toInt = 0))) ∧ li_fs (fun i k => i = 1000 ∨ (i = 175 ∧ k = 12) ∨ (i = 175 ∧ k = 13) ∨ (i = 175 ∧ k = 14) ∨ (i = 175 ∧ k = 15) ∨ (i = 175 ∧ k = 20) ∨ (i = 175 ∧ k = 7)) M0 M' ∧ li_J M') := by
  refine li_enter (by decide +kernel) (Nat.le_of_ble_eq_true rfl) ?_
  show li_T l Z YX12_readRule d 0 [(0, .ref (Z.2.2 175))] [] M0 _
  have hf : li_fs (fun i k => i = 1000 ∨ (i = 175 ∧ k = 12) ∨ (i = 175 ∧ k = 13) ∨ (i = 175 ∧ k = 14) ∨ (i = 175 ∧ k = 15) ∨ (i = 175 ∧ k = 20) ∨ (i = 175 ∧ k = 7)) M0 M0 := li_fs_refl
  have rM0_7 := J_sl7 (M := M0) hJ
  have rM0_12 := J_sl12 (M := M0) hJ
  have rM0_13 := J_sl13 (M := M0) hJ
  have rM0_14 := J_sl14 (M := M0) hJ
  have rM0_15 := J_sl15 (M := M0) hJ
  refine li_aload_n 0 dX12_readRule_0 rfl ?_
  refine li_geti (k := 7) (N := 52) (T := TX12) (C0 := RX12) dX12_readRule_1 (by decide) sh_175 rfl rfl (by decide) li_in12 w_1411 ?_
  refine li_top (fun x1Zq ex1 => ?_)
  have gx1 : 0 ≤ x1Zq.toInt ∧ x1Zq.toInt ≤ 80 := by rw [ex1]; exact J_sl7 hJ
  have mx1 : x1Zq.toInt = (M0.1 175 7).toInt := tl_slot ex1
  refine li_istore_n [(1, .int x1Zq), (0, .ref (Z.2.2 175))] dX12_readRule_4 (by decide) rfl ?_
  refine li_aload_n 1 dX12_readRule_5 rfl ?_
  refine li_aload_n 1 dX12_readRule_6 rfl ?_
  refine li_getr (k := 6) (N := 52) (T := TX12) (C0 := RX12) dX12_readRule_7 (by decide) sh_175 rfl rfl (by decide) (by decide) li_in12 w_1410 ?_
  refine li_iload_n 0 dX12_readRule_10 rfl ?_
  refine li_bipush 40 dX12_readRule_11 (by decide) ?_
  have z40 : (40 : Int32).toInt = 40 := rfl
  refine li_callV (n := 3) (As := [.ref (Z.2.2 180), .int x1Zq, .int 40]) dX12_readRule_13 (k_X12_begin (d - 1) (by first | (unfold li_rq; decide) | (unfold li_rq; omega)) x1Zq 40 M0 hJ (show 0 ≤ (x1Zq : Int32).toInt ∧ (x1Zq : Int32).toInt ≤ (li_qn 180 : Int) by have := li_qn_fix; omega) (by omega)) (by omega) (Nat.le_of_ble_eq_true rfl) w_1577 w_1579 w_42 w_112 w_1580 (by decide +kernel) rfl (by decide) sh_175 rfl rfl (Nat.le_of_ble_eq_true rfl) (fun r M3Zq h4 => ?_)
  obtain ⟨rfl, h4, jM3, nM3⟩ := h4
  have hf := li_fs_trans hf h4 (fun i k => fun hZq => Or.elim hZq (fun hZq => Or.inr (Or.inl hZq)) (fun hZq => Or.elim hZq (fun hZq => Or.inr (Or.inr (Or.inl hZq))) (fun hZq => Or.elim hZq (fun hZq => Or.inr (Or.inr (Or.inr (Or.inl hZq)))) (fun hZq => Or.elim hZq (fun hZq => Or.inr (Or.inr (Or.inr (Or.inr (Or.inl hZq))))) (fun hZq => Or.inl hZq)))))
  have hJ := jM3
  have rM3_7 := J_sl7 (M := M3Zq) hJ
  have rM3_12 := J_sl12 (M := M3Zq) hJ
  have rM3_13 := J_sl13 (M := M3Zq) hJ
  have rM3_14 := J_sl14 (M := M3Zq) hJ
  have rM3_15 := J_sl15 (M := M3Zq) hJ
  have mM3_7 : (M3Zq.1 175 7).toInt = (M0.1 175 7).toInt := tl_slot (h4.1 175 7 (show ¬ ((175 = 175 ∧ 7 = 12) ∨ (175 = 175 ∧ 7 = 13) ∨ (175 = 175 ∧ 7 = 14) ∨ (175 = 175 ∧ 7 = 15) ∨ 175 = 1000) by decide))
  have bM3 : M3Zq.2.2 0 = some 180 := nM3.2.2.2.2
  refine li_aload_n 1 dX12_readRule_16 rfl ?_
  refine li_iconst 0 dX12_readRule_17 (by decide) ?_
  refine li_puti (k := 7) (N := 52) (T := TX12) (C0 := RX12) dX12_readRule_18 (by decide) sh_175 rfl rfl (by decide) li_in12 tyX12_ok nmX12 rfl rfl rfl rfl w_1411 ?_
  refine li_nm (fun M5Zq eM5 => ?_)
  have hf := li_fs_ui hf (Or.inr (Or.inr (Or.inr (Or.inr (Or.inr (Or.inr (⟨rfl, rfl⟩))))))) eM5
  have z0 : (0 : Int32).toInt = 0 := rfl
  have hJ := J_pt7 hJ (show 0 ≤ (0 : Int32).toInt ∧ (0 : Int32).toInt ≤ 80 from ⟨(by omega), (by omega)⟩) eM5
  have rM5_7 := J_sl7 (M := M5Zq) hJ
  have rM5_12 := J_sl12 (M := M5Zq) hJ
  have rM5_13 := J_sl13 (M := M5Zq) hJ
  have rM5_14 := J_sl14 (M := M5Zq) hJ
  have rM5_15 := J_sl15 (M := M5Zq) hJ
  have mM5_7 : (M5Zq.1 175 7).toInt = 0 := by rw [eM5, li_ui_at, if_pos rfl, if_pos rfl]; rfl
  have mM5_12 : (M5Zq.1 175 12).toInt = (M3Zq.1 175 12).toInt := by rw [eM5, li_ui_at, if_pos rfl, if_neg (by decide)]
  have mM5_13 : (M5Zq.1 175 13).toInt = (M3Zq.1 175 13).toInt := by rw [eM5, li_ui_at, if_pos rfl, if_neg (by decide)]
  have mM5_14 : (M5Zq.1 175 14).toInt = (M3Zq.1 175 14).toInt := by rw [eM5, li_ui_at, if_pos rfl, if_neg (by decide)]
  have mM5_15 : (M5Zq.1 175 15).toInt = (M3Zq.1 175 15).toInt := by rw [eM5, li_ui_at, if_pos rfl, if_neg (by decide)]
  have bM5 : M5Zq.2.2 0 = some 180 := by rw [eM5]; exact bM3
  refine li_aload_n 1 dX12_readRule_21 rfl ?_
  refine li_iconst 0 dX12_readRule_22 (by decide) ?_
  refine li_puti (k := 20) (N := 52) (T := TX12) (C0 := RX12) dX12_readRule_23 (by decide) sh_175 rfl rfl (by decide) li_in12 tyX12_ok nmX12 rfl rfl (li_nz (Or.inl rfl)) (li_fz (Or.inl rfl)) w_1424 ?_
  refine li_nm (fun M6Zq eM6 => ?_)
  have hf := li_fs_ui hf (Or.inr (Or.inr (Or.inr (Or.inr (Or.inr (Or.inl ⟨rfl, rfl⟩)))))) eM6
  have z0 : (0 : Int32).toInt = 0 := rfl
  have hJ := hJ.put (k := 20) (by decide) (rg_free rfl) eM6
  have rM6_7 := J_sl7 (M := M6Zq) hJ
  have rM6_12 := J_sl12 (M := M6Zq) hJ
  have rM6_13 := J_sl13 (M := M6Zq) hJ
  have rM6_14 := J_sl14 (M := M6Zq) hJ
  have rM6_15 := J_sl15 (M := M6Zq) hJ
  have mM6_7 : (M6Zq.1 175 7).toInt = (M5Zq.1 175 7).toInt := by rw [eM6, li_ui_at, if_pos rfl, if_neg (by decide)]
  have mM6_12 : (M6Zq.1 175 12).toInt = (M5Zq.1 175 12).toInt := by rw [eM6, li_ui_at, if_pos rfl, if_neg (by decide)]
  have mM6_13 : (M6Zq.1 175 13).toInt = (M5Zq.1 175 13).toInt := by rw [eM6, li_ui_at, if_pos rfl, if_neg (by decide)]
  have mM6_14 : (M6Zq.1 175 14).toInt = (M5Zq.1 175 14).toInt := by rw [eM6, li_ui_at, if_pos rfl, if_neg (by decide)]
  have mM6_15 : (M6Zq.1 175 15).toInt = (M5Zq.1 175 15).toInt := by rw [eM6, li_ui_at, if_pos rfl, if_neg (by decide)]
  have bM6 : M6Zq.2.2 0 = some 180 := by rw [eM6]; exact bM5
  refine li_iload_n 0 dX12_readRule_26 rfl ?_
  refine li_if_le 52 dX12_readRule_27 (by decide) (fun c7Zq => ?_) (fun c7Zq => ?_)
  · have tc7 : x1Zq.toInt ≤ 0 := tl_le c7Zq
    have k1Zq : li_hd ((TY = 0 ∧ (M6Zq.1 175 15).toInt = -1) ∨ (0 < TY ∧ ∃ okZq q : Int, rpr hBZq (min TY 40) 0 0 0 okZq q ∧ 0 ≤ q ∧ q ≤ min TY 40 ∧ ((okZq = 1 ∧ TY ≤ q ∧ (M6Zq.1 175 15).toInt = -1) ∨ (¬ (okZq = 1 ∧ TY ≤ q) ∧ (M6Zq.1 175 15).toInt = q)))) := (by first | (rcases ea4 with cZq | cZq; exact Or.inr ⟨by omega, 1, qA, ra1 cZq.1, by omega, by omega, Or.inr ⟨fun h9 => absurd h9.2 (by omega), wf⟩⟩; exact Or.inr ⟨by omega, 0, qA, ra0 cZq.1, by omega, by omega, Or.inr ⟨fun h9 => absurd h9.1 (by decide), wf⟩⟩) | (rcases ea4 with cZq | cZq; exact Or.inr ⟨by omega, 1, qA, ra1 cZq.1, by omega, by omega, Or.inl ⟨rfl, by omega, Int.le_antisymm (by omega) (by omega)⟩⟩; exact Or.inr ⟨by omega, 0, qA, ra0 cZq.1, by omega, by omega, Or.inr ⟨fun h9 => absurd h9.1 (by decide), Int.le_antisymm (by omega) (by omega)⟩⟩) | (exact Or.inl ⟨Int.le_antisymm (by omega) (by omega), Int.le_antisymm (by omega) (by omega)⟩))
    refine li_aload_n 1 dX12_readRule_52 rfl ?_
    refine li_callV (n := 0) (As := []) dX12_readRule_53 (k_X12_fine (d - 1) (by omega)  M6Zq hJ ) (by omega) (Nat.le_of_ble_eq_true rfl) w_1581 w_1583 w_43 w_112 w_1584 (by decide +kernel) rfl (by decide) sh_175 rfl rfl (Nat.le_of_ble_eq_true rfl) (fun r M9Zq h10 => ?_)
    obtain ⟨qx8, h10, jM9⟩ := h10
    have hf := li_fs_trans hf h10 (fun i k hZq => False.elim hZq)
    have kM9 : (li_hr M9Zq).toInt = (li_hr M6Zq).toInt := li_hr_fs h10 id id id id (fun _ _ _ => id) (by assumption)
    have hJ := jM9
    have rM9_7 := J_sl7 (M := M9Zq) hJ
    have rM9_12 := J_sl12 (M := M9Zq) hJ
    have rM9_13 := J_sl13 (M := M9Zq) hJ
    have rM9_14 := J_sl14 (M := M9Zq) hJ
    have rM9_15 := J_sl15 (M := M9Zq) hJ
    have mM9_7 : (M9Zq.1 175 7).toInt = (M6Zq.1 175 7).toInt := tl_slot (h10.1 175 7 id)
    have mM9_12 : (M9Zq.1 175 12).toInt = (M6Zq.1 175 12).toInt := tl_slot (h10.1 175 12 id)
    have mM9_13 : (M9Zq.1 175 13).toInt = (M6Zq.1 175 13).toInt := tl_slot (h10.1 175 13 id)
    have mM9_14 : (M9Zq.1 175 14).toInt = (M6Zq.1 175 14).toInt := tl_slot (h10.1 175 14 id)
    have mM9_15 : (M9Zq.1 175 15).toInt = (M6Zq.1 175 15).toInt := tl_slot (h10.1 175 15 id)
    have bM9 : M9Zq.2.2 0 = some 180 := (h10.2.2 0 (fun h9 => by first | exact (h9 : False).elim | (simp at h9; done) | omega)).trans bM6
    rcases qx8 with ⟨rfl, qx8⟩ | ⟨rfl, qx8⟩
    · skip
      have z1 : (1 : Int32).toInt = 1 := rfl
      exact li_iret dX12_readRule_56 rfl (li_nz (Or.inr rfl)) ⟨Or.inl ⟨rfl, (by first | (refine ⟨?_, Int.le_antisymm (by omega) (by omega)⟩; rcases k1Zq with cZq | ⟨cZq, okZq, q, r1Zq, r2, r3, r4⟩; exact Or.inl cZq.1; rcases r4 with sZq | sZq; exact Or.inr ⟨cZq, q, by rw [← sZq.1]; exact r1Zq, r2, r3, sZq.2.1⟩; exact absurd (show (M9Zq.1 175 15).toInt = -1 from Int.le_antisymm (by omega) (by omega)) (by omega)) | (refine ⟨?_, Int.le_antisymm (by omega) (by omega)⟩; rcases k1Zq with cZq | ⟨cZq, okZq, q, r1Zq, r2, r3, r4⟩; exact absurd cZq.2 (by omega); rcases r4 with sZq | sZq; exact absurd sZq.2.2 (by omega); exact ⟨cZq, okZq, q, r1Zq, r2, r3, sZq.1, (Int.le_antisymm (by omega) (by omega))⟩))⟩, hf, hJ⟩
    · skip
      have z0 : (0 : Int32).toInt = 0 := rfl
      exact li_iret dX12_readRule_56 rfl (li_nz (Or.inl rfl)) ⟨Or.inr ⟨rfl, (by first | (refine ⟨?_, Int.le_antisymm (by omega) (by omega)⟩; rcases k1Zq with cZq | ⟨cZq, okZq, q, r1Zq, r2, r3, r4⟩; exact Or.inl cZq.1; rcases r4 with sZq | sZq; exact Or.inr ⟨cZq, q, by rw [← sZq.1]; exact r1Zq, r2, r3, sZq.2.1⟩; exact absurd (show (M9Zq.1 175 15).toInt = -1 from Int.le_antisymm (by omega) (by omega)) (by omega)) | (refine ⟨?_, Int.le_antisymm (by omega) (by omega)⟩; rcases k1Zq with cZq | ⟨cZq, okZq, q, r1Zq, r2, r3, r4⟩; exact absurd cZq.2 (by omega); rcases r4 with sZq | sZq; exact absurd sZq.2.2 (by omega); exact ⟨cZq, okZq, q, r1Zq, r2, r3, sZq.1, (Int.le_antisymm (by omega) (by omega))⟩))⟩, hf, hJ⟩
  · have tc7 : 0 < x1Zq.toInt := tl_nle c7Zq
    refine li_aload_n 1 dX12_readRule_30 rfl ?_
    refine li_iconst 0 dX12_readRule_31 (by decide) ?_
    have z0 : (0 : Int32).toInt = 0 := rfl
    refine li_callV (n := 1) (As := [.int 0]) dX12_readRule_32 ((@kk14_parse l Z hBZq (min TY 40) 81).2.2.2 0 M6Zq (d - 1) hJ bM6 ((congrArg li_by (funext fun i => hf.1 180 i ((fun i => (show ¬ (180 = 1000 ∨ (180 = 175 ∧ i = 12) ∨ (180 = 175 ∧ i = 13) ∨ (180 = 175 ∧ i = 14) ∨ (180 = 175 ∧ i = 15) ∨ (180 = 175 ∧ i = 20) ∨ (180 = 175 ∧ i = 7)) by first | (simp; done) | omega)) i))).trans hhB) (by rw [show (M6Zq.1 175 12).toInt = TY from Int.le_antisymm (by omega) (by omega), show (M6Zq.1 175 13).toInt = 40 from Int.le_antisymm (by omega) (by omega)]) (by have := J_sl14 hJ; omega) (by omega) (Int.le_antisymm (by omega) (by omega)) ⟨by decide, by decide⟩ (by omega)) (by omega) (Nat.le_of_ble_eq_true rfl) w_1625 w_1627 w_52 w_112 w_1628 (by decide +kernel) rfl (by decide) sh_175 rfl rfl (Nat.le_of_ble_eq_true rfl) (fun r M12 h13 => ?_)
    obtain ⟨⟨x11, rfl, qx11⟩, h13, jM12⟩ := h13
    have gx11 := tl_rg x11
    have hf := li_fs_trans hf h13 (fun i k => fun hZq => Or.elim hZq (fun hZq => Or.inr (Or.inr (Or.inr (Or.inl hZq)))) (fun hZq => Or.inr (Or.inr (Or.inr (Or.inr (Or.inl hZq))))))
    have hJ := jM12
    have rM12_7 := J_sl7 (M := M12) hJ
    have rM12_12 := J_sl12 (M := M12) hJ
    have rM12_13 := J_sl13 (M := M12) hJ
    have rM12_14 := J_sl14 (M := M12) hJ
    have rM12_15 := J_sl15 (M := M12) hJ
    have mM12_7 : (M12.1 175 7).toInt = (M6Zq.1 175 7).toInt := tl_slot (h13.1 175 7 (show ¬ ((175 = 175 ∧ 7 = 14) ∨ (175 = 175 ∧ 7 = 15)) by decide))
    have mM12_12 : (M12.1 175 12).toInt = (M6Zq.1 175 12).toInt := tl_slot (h13.1 175 12 (show ¬ ((175 = 175 ∧ 12 = 14) ∨ (175 = 175 ∧ 12 = 15)) by decide))
    have mM12_13 : (M12.1 175 13).toInt = (M6Zq.1 175 13).toInt := tl_slot (h13.1 175 13 (show ¬ ((175 = 175 ∧ 13 = 14) ∨ (175 = 175 ∧ 13 = 15)) by decide))
    have bM12 : M12.2.2 0 = some 180 := (h13.2.2 0 (fun h9 => by first | exact (h9 : False).elim | (simp at h9; done) | omega)).trans bM6
    obtain ⟨okA, qA, ra, ea1, ea2, ea3, ea4⟩ := qx11
    have ra1 : okA = 1 → rpr hBZq (min TY 40) 0 0 0 1 qA := fun h9 => rp_to ra (by decide) (Int.le_antisymm (by omega) (by omega)) h9.symm rfl
    have ra0 : okA = 0 → rpr hBZq (min TY 40) 0 0 0 0 qA := fun h9 => rp_to ra (by decide) (Int.le_antisymm (by omega) (by omega)) h9.symm rfl
    refine li_pop dX12_readRule_35 rfl ?_
    refine li_aload_n 1 dX12_readRule_36 rfl ?_
    refine li_geti (k := 14) (N := 52) (T := TX12) (C0 := RX12) dX12_readRule_37 (by decide) sh_175 rfl rfl (by decide) li_in12 w_1418 ?_
    refine li_top (fun x14 ex14 => ?_)
    have gx14 : 0 ≤ x14.toInt ∧ x14.toInt ≤ 81 := by rw [ex14]; exact J_sl14 hJ
    have mx14 : x14.toInt = (M12.1 175 14).toInt := tl_slot ex14
    refine li_iload_n 0 dX12_readRule_40 rfl ?_
    refine li_icmp_ge 52 dX12_readRule_41 (by decide) (fun c15Zq => ?_) (fun c15Zq => ?_)
    · have tc15 : x1Zq.toInt ≤ x14.toInt := tl_le c15Zq
      have k1Zq : li_hd ((TY = 0 ∧ (M12.1 175 15).toInt = -1) ∨ (0 < TY ∧ ∃ okZq q : Int, rpr hBZq (min TY 40) 0 0 0 okZq q ∧ 0 ≤ q ∧ q ≤ min TY 40 ∧ ((okZq = 1 ∧ TY ≤ q ∧ (M12.1 175 15).toInt = -1) ∨ (¬ (okZq = 1 ∧ TY ≤ q) ∧ (M12.1 175 15).toInt = q)))) := (by first | (rcases ea4 with cZq | cZq; exact Or.inr ⟨by omega, 1, qA, ra1 cZq.1, by omega, by omega, Or.inr ⟨fun h9 => absurd h9.2 (by omega), wf⟩⟩; exact Or.inr ⟨by omega, 0, qA, ra0 cZq.1, by omega, by omega, Or.inr ⟨fun h9 => absurd h9.1 (by decide), wf⟩⟩) | (rcases ea4 with cZq | cZq; exact Or.inr ⟨by omega, 1, qA, ra1 cZq.1, by omega, by omega, Or.inl ⟨rfl, by omega, Int.le_antisymm (by omega) (by omega)⟩⟩; exact Or.inr ⟨by omega, 0, qA, ra0 cZq.1, by omega, by omega, Or.inr ⟨fun h9 => absurd h9.1 (by decide), Int.le_antisymm (by omega) (by omega)⟩⟩) | (exact Or.inl ⟨Int.le_antisymm (by omega) (by omega), Int.le_antisymm (by omega) (by omega)⟩))
      refine li_aload_n 1 dX12_readRule_52 rfl ?_
      refine li_callV (n := 0) (As := []) dX12_readRule_53 (k_X12_fine (d - 1) (by omega)  M12 hJ ) (by omega) (Nat.le_of_ble_eq_true rfl) w_1581 w_1583 w_43 w_112 w_1584 (by decide +kernel) rfl (by decide) sh_175 rfl rfl (Nat.le_of_ble_eq_true rfl) (fun r M17 h18 => ?_)
      obtain ⟨qx16, h18, jM17⟩ := h18
      have hf := li_fs_trans hf h18 (fun i k hZq => False.elim hZq)
      have kM17 : (li_hr M17).toInt = (li_hr M12).toInt := li_hr_fs h18 id id id id (fun _ _ _ => id) (by assumption)
      have hJ := jM17
      have rM17_7 := J_sl7 (M := M17) hJ
      have rM17_12 := J_sl12 (M := M17) hJ
      have rM17_13 := J_sl13 (M := M17) hJ
      have rM17_14 := J_sl14 (M := M17) hJ
      have rM17_15 := J_sl15 (M := M17) hJ
      have mM17_7 : (M17.1 175 7).toInt = (M12.1 175 7).toInt := tl_slot (h18.1 175 7 id)
      have mM17_12 : (M17.1 175 12).toInt = (M12.1 175 12).toInt := tl_slot (h18.1 175 12 id)
      have mM17_13 : (M17.1 175 13).toInt = (M12.1 175 13).toInt := tl_slot (h18.1 175 13 id)
      have mM17_14 : (M17.1 175 14).toInt = (M12.1 175 14).toInt := tl_slot (h18.1 175 14 id)
      have mM17_15 : (M17.1 175 15).toInt = (M12.1 175 15).toInt := tl_slot (h18.1 175 15 id)
      have bM17 : M17.2.2 0 = some 180 := (h18.2.2 0 (fun h9 => by first | exact (h9 : False).elim | (simp at h9; done) | omega)).trans bM12
      rcases qx16 with ⟨rfl, qx16⟩ | ⟨rfl, qx16⟩
      · skip
        have z1 : (1 : Int32).toInt = 1 := rfl
        exact li_iret dX12_readRule_56 rfl (li_nz (Or.inr rfl)) ⟨Or.inl ⟨rfl, (by first | (refine ⟨?_, Int.le_antisymm (by omega) (by omega)⟩; rcases k1Zq with cZq | ⟨cZq, okZq, q, r1Zq, r2, r3, r4⟩; exact Or.inl cZq.1; rcases r4 with sZq | sZq; exact Or.inr ⟨cZq, q, by rw [← sZq.1]; exact r1Zq, r2, r3, sZq.2.1⟩; exact absurd (show (M17.1 175 15).toInt = -1 from Int.le_antisymm (by omega) (by omega)) (by omega)) | (refine ⟨?_, Int.le_antisymm (by omega) (by omega)⟩; rcases k1Zq with cZq | ⟨cZq, okZq, q, r1Zq, r2, r3, r4⟩; exact absurd cZq.2 (by omega); rcases r4 with sZq | sZq; exact absurd sZq.2.2 (by omega); exact ⟨cZq, okZq, q, r1Zq, r2, r3, sZq.1, (Int.le_antisymm (by omega) (by omega))⟩))⟩, hf, hJ⟩
      · skip
        have z0 : (0 : Int32).toInt = 0 := rfl
        exact li_iret dX12_readRule_56 rfl (li_nz (Or.inl rfl)) ⟨Or.inr ⟨rfl, (by first | (refine ⟨?_, Int.le_antisymm (by omega) (by omega)⟩; rcases k1Zq with cZq | ⟨cZq, okZq, q, r1Zq, r2, r3, r4⟩; exact Or.inl cZq.1; rcases r4 with sZq | sZq; exact Or.inr ⟨cZq, q, by rw [← sZq.1]; exact r1Zq, r2, r3, sZq.2.1⟩; exact absurd (show (M17.1 175 15).toInt = -1 from Int.le_antisymm (by omega) (by omega)) (by omega)) | (refine ⟨?_, Int.le_antisymm (by omega) (by omega)⟩; rcases k1Zq with cZq | ⟨cZq, okZq, q, r1Zq, r2, r3, r4⟩; exact absurd cZq.2 (by omega); rcases r4 with sZq | sZq; exact absurd sZq.2.2 (by omega); exact ⟨cZq, okZq, q, r1Zq, r2, r3, sZq.1, (Int.le_antisymm (by omega) (by omega))⟩))⟩, hf, hJ⟩
    · have tc15 : x14.toInt < x1Zq.toInt := tl_nle c15Zq
      refine li_aload_n 1 dX12_readRule_44 rfl ?_
      refine li_aload_n 1 dX12_readRule_45 rfl ?_
      refine li_geti (k := 14) (N := 52) (T := TX12) (C0 := RX12) dX12_readRule_46 (by decide) sh_175 rfl rfl (by decide) li_in12 w_1418 ?_
      refine li_top (fun x19 ex19 => ?_)
      have gx19 : 0 ≤ x19.toInt ∧ x19.toInt ≤ 81 := by rw [ex19]; exact J_sl14 hJ
      have mx19 : x19.toInt = (M12.1 175 14).toInt := tl_slot ex19
      refine li_callV (n := 1) (As := [.int x19]) dX12_readRule_49 (k_X12_fault (d - 1) (by omega) x19 M12 hJ ⟨by omega, by omega⟩) (by omega) (Nat.le_of_ble_eq_true rfl) w_1585 w_1587 w_44 w_112 w_1588 (by decide +kernel) rfl (by decide) sh_175 rfl rfl (Nat.le_of_ble_eq_true rfl) (fun r M21 h22 => ?_)
      obtain ⟨rfl, h22, jM21, nM21⟩ := h22
      have hf := li_fs_trans hf h22 (fun i k => fun hZq => Or.inr (Or.inr (Or.inr (Or.inr (Or.inl hZq)))))
      have kM21 : (li_hr M21).toInt = (li_hr M12).toInt := li_hr_fs h22 (show ¬ ((175 = 175 ∧ 12 = 15)) by decide) (show ¬ ((175 = 175 ∧ 13 = 15)) by decide) (show ¬ ((175 = 175 ∧ 14 = 15)) by decide) (show ¬ ((1000 = 175 ∧ 0 = 15)) by decide) (fun q i hZq => (show ¬ ((q = 175 ∧ i = 15)) by first | (unfold li_rq at hZq; rcases hZq with rfl | rfl | rfl <;> simp; done) | (unfold li_rq at hZq; omega))) (by assumption)
      have hJ := jM21
      have rM21_7 := J_sl7 (M := M21) hJ
      have rM21_12 := J_sl12 (M := M21) hJ
      have rM21_13 := J_sl13 (M := M21) hJ
      have rM21_14 := J_sl14 (M := M21) hJ
      have rM21_15 := J_sl15 (M := M21) hJ
      have mM21_7 : (M21.1 175 7).toInt = (M12.1 175 7).toInt := tl_slot (h22.1 175 7 (show ¬ ((175 = 175 ∧ 7 = 15)) by decide))
      have mM21_12 : (M21.1 175 12).toInt = (M12.1 175 12).toInt := tl_slot (h22.1 175 12 (show ¬ ((175 = 175 ∧ 12 = 15)) by decide))
      have mM21_13 : (M21.1 175 13).toInt = (M12.1 175 13).toInt := tl_slot (h22.1 175 13 (show ¬ ((175 = 175 ∧ 13 = 15)) by decide))
      have mM21_14 : (M21.1 175 14).toInt = (M12.1 175 14).toInt := tl_slot (h22.1 175 14 (show ¬ ((175 = 175 ∧ 14 = 15)) by decide))
      have bM21 : M21.2.2 0 = some 180 := (h22.2.2 0 (fun h9 => by first | exact (h9 : False).elim | (simp at h9; done) | omega)).trans bM12
      have wf : (M21.1 175 15).toInt = qA := by
        rcases ea4 with cZq | cZq
        · exact (nM21.1 (Int.le_antisymm (by omega) (by omega))).trans (Int.le_antisymm (by omega) (by omega))
        · exact (nM21.2 (by omega)).trans (Int.le_antisymm (by omega) (by omega))
      have k1Zq : li_hd ((TY = 0 ∧ (M21.1 175 15).toInt = -1) ∨ (0 < TY ∧ ∃ okZq q : Int, rpr hBZq (min TY 40) 0 0 0 okZq q ∧ 0 ≤ q ∧ q ≤ min TY 40 ∧ ((okZq = 1 ∧ TY ≤ q ∧ (M21.1 175 15).toInt = -1) ∨ (¬ (okZq = 1 ∧ TY ≤ q) ∧ (M21.1 175 15).toInt = q)))) := (by first | (rcases ea4 with cZq | cZq; exact Or.inr ⟨by omega, 1, qA, ra1 cZq.1, by omega, by omega, Or.inr ⟨fun h9 => absurd h9.2 (by omega), wf⟩⟩; exact Or.inr ⟨by omega, 0, qA, ra0 cZq.1, by omega, by omega, Or.inr ⟨fun h9 => absurd h9.1 (by decide), wf⟩⟩) | (rcases ea4 with cZq | cZq; exact Or.inr ⟨by omega, 1, qA, ra1 cZq.1, by omega, by omega, Or.inl ⟨rfl, by omega, Int.le_antisymm (by omega) (by omega)⟩⟩; exact Or.inr ⟨by omega, 0, qA, ra0 cZq.1, by omega, by omega, Or.inr ⟨fun h9 => absurd h9.1 (by decide), Int.le_antisymm (by omega) (by omega)⟩⟩) | (exact Or.inl ⟨Int.le_antisymm (by omega) (by omega), Int.le_antisymm (by omega) (by omega)⟩))
      refine li_aload_n 1 dX12_readRule_52 rfl ?_
      refine li_callV (n := 0) (As := []) dX12_readRule_53 (k_X12_fine (d - 1) (by omega)  M21 hJ ) (by omega) (Nat.le_of_ble_eq_true rfl) w_1581 w_1583 w_43 w_112 w_1584 (by decide +kernel) rfl (by decide) sh_175 rfl rfl (Nat.le_of_ble_eq_true rfl) (fun r M24 h25 => ?_)
      obtain ⟨qx23, h25, jM24⟩ := h25
      have hf := li_fs_trans hf h25 (fun i k hZq => False.elim hZq)
      have kM24 : (li_hr M24).toInt = (li_hr M21).toInt := li_hr_fs h25 id id id id (fun _ _ _ => id) (by assumption)
      have hJ := jM24
      have rM24_7 := J_sl7 (M := M24) hJ
      have rM24_12 := J_sl12 (M := M24) hJ
      have rM24_13 := J_sl13 (M := M24) hJ
      have rM24_14 := J_sl14 (M := M24) hJ
      have rM24_15 := J_sl15 (M := M24) hJ
      have mM24_7 : (M24.1 175 7).toInt = (M21.1 175 7).toInt := tl_slot (h25.1 175 7 id)
      have mM24_12 : (M24.1 175 12).toInt = (M21.1 175 12).toInt := tl_slot (h25.1 175 12 id)
      have mM24_13 : (M24.1 175 13).toInt = (M21.1 175 13).toInt := tl_slot (h25.1 175 13 id)
      have mM24_14 : (M24.1 175 14).toInt = (M21.1 175 14).toInt := tl_slot (h25.1 175 14 id)
      have mM24_15 : (M24.1 175 15).toInt = (M21.1 175 15).toInt := tl_slot (h25.1 175 15 id)
      have bM24 : M24.2.2 0 = some 180 := (h25.2.2 0 (fun h9 => by first | exact (h9 : False).elim | (simp at h9; done) | omega)).trans bM21
      rcases qx23 with ⟨rfl, qx23⟩ | ⟨rfl, qx23⟩
      · skip
        have z1 : (1 : Int32).toInt = 1 := rfl
        exact li_iret dX12_readRule_56 rfl (li_nz (Or.inr rfl)) ⟨Or.inl ⟨rfl, (by first | (refine ⟨?_, Int.le_antisymm (by omega) (by omega)⟩; rcases k1Zq with cZq | ⟨cZq, okZq, q, r1Zq, r2, r3, r4⟩; exact Or.inl cZq.1; rcases r4 with sZq | sZq; exact Or.inr ⟨cZq, q, by rw [← sZq.1]; exact r1Zq, r2, r3, sZq.2.1⟩; exact absurd (show (M24.1 175 15).toInt = -1 from Int.le_antisymm (by omega) (by omega)) (by omega)) | (refine ⟨?_, Int.le_antisymm (by omega) (by omega)⟩; rcases k1Zq with cZq | ⟨cZq, okZq, q, r1Zq, r2, r3, r4⟩; exact absurd cZq.2 (by omega); rcases r4 with sZq | sZq; exact absurd sZq.2.2 (by omega); exact ⟨cZq, okZq, q, r1Zq, r2, r3, sZq.1, (Int.le_antisymm (by omega) (by omega))⟩))⟩, hf, hJ⟩
      · skip
        have z0 : (0 : Int32).toInt = 0 := rfl
        exact li_iret dX12_readRule_56 rfl (li_nz (Or.inl rfl)) ⟨Or.inr ⟨rfl, (by first | (refine ⟨?_, Int.le_antisymm (by omega) (by omega)⟩; rcases k1Zq with cZq | ⟨cZq, okZq, q, r1Zq, r2, r3, r4⟩; exact Or.inl cZq.1; rcases r4 with sZq | sZq; exact Or.inr ⟨cZq, q, by rw [← sZq.1]; exact r1Zq, r2, r3, sZq.2.1⟩; exact absurd (show (M24.1 175 15).toInt = -1 from Int.le_antisymm (by omega) (by omega)) (by omega)) | (refine ⟨?_, Int.le_antisymm (by omega) (by omega)⟩; rcases k1Zq with cZq | ⟨cZq, okZq, q, r1Zq, r2, r3, r4⟩; exact absurd cZq.2 (by omega); rcases r4 with sZq | sZq; exact absurd sZq.2.2 (by omega); exact ⟨cZq, okZq, q, r1Zq, r2, r3, sZq.1, (Int.le_antisymm (by omega) (by omega))⟩))⟩, hf, hJ⟩

set_option maxRecDepth 100000 in
set_option maxHeartbeats 4000000 in
theorem k14_X12_rule {l : Launch} {Z : li_Z} (d : Nat) (hdZq : 347 ≤ d) (M0 : li_M) (hJ : li_J M0) (TY : Int) (hTY : TY = (M0.1 175 7).toInt) (hBZq : Nat → Int32) (hhB : li_by (M0.1 180) = hBZq) : li_Met l Z YX12_rule d [.ref (Z.2.2 175)] M0 (fun r M' => (∃ x : Int32, r = some (.int x) ∧ ((TY = 0 ∧ x.toInt = 0) ∨ (0 < TY ∧ ∃ okZq q : Int, rpr hBZq (min TY 40) 0 0 0 okZq q ∧ 0 ≤ q ∧ q ≤ min TY 40 ∧ ((okZq = 1 ∧ TY ≤ q ∧ x.toInt = 0) ∨ (¬ (okZq = 1 ∧ TY ≤ q) ∧ x.toInt = -1 - q))))) ∧ li_fs (fun i k => i = 183 ∨ i = 184 ∨ i = 1000 ∨ (i = 175 ∧ k = 10) ∨ (i = 175 ∧ k = 12) ∨ (i = 175 ∧ k = 13) ∨ (i = 175 ∧ k = 14) ∨ (i = 175 ∧ k = 15) ∨ (i = 175 ∧ k = 18) ∨ (i = 175 ∧ k = 20) ∨ (i = 175 ∧ k = 7)) M0 M' ∧ li_J M' ∧ (M'.1 175 7).toInt = 0) := by
  refine li_enter (by decide +kernel) (Nat.le_of_ble_eq_true rfl) ?_
  show li_T l Z YX12_rule d 0 [(0, .ref (Z.2.2 175))] [] M0 _
  have hf : li_fs (fun i k => i = 183 ∨ i = 184 ∨ i = 1000 ∨ (i = 175 ∧ k = 10) ∨ (i = 175 ∧ k = 12) ∨ (i = 175 ∧ k = 13) ∨ (i = 175 ∧ k = 14) ∨ (i = 175 ∧ k = 15) ∨ (i = 175 ∧ k = 18) ∨ (i = 175 ∧ k = 20) ∨ (i = 175 ∧ k = 7)) M0 M0 := li_fs_refl
  have rM0_7 := J_sl7 (M := M0) hJ
  have rM0_15 := J_sl15 (M := M0) hJ
  refine li_aload_n 0 dX12_rule_0 rfl ?_
  refine li_iconst 0 dX12_rule_1 (by decide) ?_
  refine li_puti (k := 10) (N := 52) (T := TX12) (C0 := RX12) dX12_rule_2 (by decide) sh_175 rfl rfl (by decide) li_in12 tyX12_ok nmX12 rfl rfl rfl rfl w_1414 ?_
  refine li_nm (fun M1Zq eM1 => ?_)
  have hf := li_fs_ui hf (Or.inr (Or.inr (Or.inr (Or.inl ⟨rfl, rfl⟩)))) eM1
  have z0 : (0 : Int32).toInt = 0 := rfl
  have hJ := hJ.put (k := 10) (by decide) (rg_free rfl) eM1
  have rM1_7 := J_sl7 (M := M1Zq) hJ
  have rM1_15 := J_sl15 (M := M1Zq) hJ
  have mM1_7 : (M1Zq.1 175 7).toInt = (M0.1 175 7).toInt := by rw [eM1, li_ui_at, if_pos rfl, if_neg (by decide)]
  have mM1_15 : (M1Zq.1 175 15).toInt = (M0.1 175 15).toInt := by rw [eM1, li_ui_at, if_pos rfl, if_neg (by decide)]
  refine li_aload_n 0 dX12_rule_5 rfl ?_
  refine li_geti (k := 7) (N := 52) (T := TX12) (C0 := RX12) dX12_rule_6 (by decide) sh_175 rfl rfl (by decide) li_in12 w_1411 ?_
  refine li_top (fun x2Zq ex2Zq => ?_)
  have gx2 : 0 ≤ x2Zq.toInt ∧ x2Zq.toInt ≤ 80 := by rw [ex2Zq]; exact J_sl7 hJ
  have mx2 : x2Zq.toInt = (M1Zq.1 175 7).toInt := tl_slot ex2Zq
  refine li_istore_n [(1, .int x2Zq), (0, .ref (Z.2.2 175))] dX12_rule_9 (by decide) rfl ?_
  refine li_aload_n 1 dX12_rule_10 rfl ?_
  refine li_callV (n := 0) (As := []) dX12_rule_11 (k14_X12_readRule (d - 1) (by omega) M1Zq hJ TY (Int.le_antisymm (by omega) (by omega)) hBZq ((congrArg li_by (funext fun i => hf.1 180 i ((fun i => (show ¬ (180 = 183 ∨ 180 = 184 ∨ 180 = 1000 ∨ (180 = 175 ∧ i = 10) ∨ (180 = 175 ∧ i = 12) ∨ (180 = 175 ∧ i = 13) ∨ (180 = 175 ∧ i = 14) ∨ (180 = 175 ∧ i = 15) ∨ (180 = 175 ∧ i = 18) ∨ (180 = 175 ∧ i = 20) ∨ (180 = 175 ∧ i = 7)) by first | (simp; done) | omega)) i))).trans hhB)) (by omega) (Nat.le_of_ble_eq_true rfl) w_1621 w_1623 w_51 w_112 w_1624 (by decide +kernel) rfl (by decide) sh_175 rfl rfl (Nat.le_of_ble_eq_true rfl) (fun r M4Zq h5 => ?_)
  obtain ⟨qx3, h5, jM4⟩ := h5
  have hf := li_fs_trans hf h5 (fun i k => fun hZq => Or.elim hZq (fun hZq => Or.inr (Or.inr (Or.inl hZq))) (fun hZq => Or.elim hZq (fun hZq => Or.inr (Or.inr (Or.inr (Or.inr (Or.inl hZq))))) (fun hZq => Or.elim hZq (fun hZq => Or.inr (Or.inr (Or.inr (Or.inr (Or.inr (Or.inl hZq)))))) (fun hZq => Or.elim hZq (fun hZq => Or.inr (Or.inr (Or.inr (Or.inr (Or.inr (Or.inr (Or.inl hZq))))))) (fun hZq => Or.elim hZq (fun hZq => Or.inr (Or.inr (Or.inr (Or.inr (Or.inr (Or.inr (Or.inr (Or.inl hZq)))))))) (fun hZq => Or.elim hZq (fun hZq => Or.inr (Or.inr (Or.inr (Or.inr (Or.inr (Or.inr (Or.inr (Or.inr (Or.inr (Or.inl hZq)))))))))) (fun hZq => Or.inr (Or.inr (Or.inr (Or.inr (Or.inr (Or.inr (Or.inr (Or.inr (Or.inr (Or.inr hZq))))))))))))))))
  have hJ := jM4
  have rM4_7 := J_sl7 (M := M4Zq) hJ
  have rM4_15 := J_sl15 (M := M4Zq) hJ
  rcases qx3 with ⟨rfl, qx3⟩ | ⟨rfl, qx3⟩
  · skip
    refine li_if_ne 24 dX12_rule_14 (by decide) (fun cZq => ?_) (fun cZq => absurd cZq (by decide))
    have q97 := qx3.1
    have q96 : TY ≤ 40 := by rcases q97 with cZq | ⟨cZq, q, r1Zq, r2, r3, r4⟩ <;> omega
    refine li_iconst 0 dX12_rule_24 (by decide) ?_
    refine li_istore_n [(2, .int 0), (1, .int x2Zq), (0, .ref (Z.2.2 175))] dX12_rule_25 (by decide) rfl ?_
    have L26 : ∀ (n : Nat) (x7 : Int32) (M8Zq : li_M), ((x2Zq : Int32).toInt - (x7 : Int32).toInt).toNat < n → li_fs (fun i k => i = 183 ∨ i = 184 ∨ i = 1000 ∨ (i = 175 ∧ k = 10) ∨ (i = 175 ∧ k = 12) ∨ (i = 175 ∧ k = 13) ∨ (i = 175 ∧ k = 14) ∨ (i = 175 ∧ k = 15) ∨ (i = 175 ∧ k = 18) ∨ (i = 175 ∧ k = 20) ∨ (i = 175 ∧ k = 7)) M0 M8Zq → li_J M8Zq → 0 ≤ (x7 : Int32).toInt ∧ (x2Zq : Int32).toInt ≤ 40 ∧ (M8Zq.1 175 7).toInt = 0 → li_T l Z YX12_rule d 26 [(2, .int x7), (1, .int x2Zq), (0, .ref (Z.2.2 175))] [] M8Zq (fun r M' => (∃ x : Int32, r = some (.int x) ∧ ((TY = 0 ∧ x.toInt = 0) ∨ (0 < TY ∧ ∃ okZq q : Int, rpr hBZq (min TY 40) 0 0 0 okZq q ∧ 0 ≤ q ∧ q ≤ min TY 40 ∧ ((okZq = 1 ∧ TY ≤ q ∧ x.toInt = 0) ∨ (¬ (okZq = 1 ∧ TY ≤ q) ∧ x.toInt = -1 - q))))) ∧ li_fs (fun i k => i = 183 ∨ i = 184 ∨ i = 1000 ∨ (i = 175 ∧ k = 10) ∨ (i = 175 ∧ k = 12) ∨ (i = 175 ∧ k = 13) ∨ (i = 175 ∧ k = 14) ∨ (i = 175 ∧ k = 15) ∨ (i = 175 ∧ k = 18) ∨ (i = 175 ∧ k = 20) ∨ (i = 175 ∧ k = 7)) M0 M' ∧ li_J M' ∧ (M'.1 175 7).toInt = 0) := by
      try clear cZq
      try clear rM4_15
      try clear rM4_7
      try clear qx3
      try clear h5
      try clear jM4
      try clear mx2
      try clear ex2Zq
      try clear mM1_15
      try clear mM1_7
      try clear rM1_15
      try clear rM1_7
      try clear eM1
      try clear rM0_15
      try clear rM0_7
      intro n
      induction n with
      | zero => intro x7 M8Zq hn; exact absurd hn (Nat.not_lt_zero _)
      | succ n ih26 =>
        intro x7 M8Zq hn hf hJ hiZq
        have gx7 := tl_rg x7
        have rM8_7 := J_sl7 (M := M8Zq) hJ
        have rM8_15 := J_sl15 (M := M8Zq) hJ
        refine li_iload_n 0 dX12_rule_26 rfl ?_
        refine li_iload_n 1 dX12_rule_27 rfl ?_
        refine li_icmp_ge 49 dX12_rule_28 (by decide) (fun c9Zq => ?_) (fun c9Zq => ?_)
        · have tc9 : x2Zq.toInt ≤ x7.toInt := tl_le c9Zq
          refine li_aload_n 2 dX12_rule_49 rfl ?_
          refine li_iload_n 1 dX12_rule_50 rfl ?_
          refine li_puti (k := 18) (N := 52) (T := TX12) (C0 := RX12) dX12_rule_51 (by decide) sh_175 rfl rfl (by decide) li_in12 tyX12_ok nmX12 rfl rfl rfl rfl w_1422 ?_
          refine li_nm (fun M10 eM10 => ?_)
          have hf := li_fs_ui hf (Or.inr (Or.inr (Or.inr (Or.inr (Or.inr (Or.inr (Or.inr (Or.inr (Or.inl ⟨rfl, rfl⟩))))))))) eM10
          have hJ := J_pt18 hJ (show 0 ≤ (x2Zq : Int32).toInt ∧ (x2Zq : Int32).toInt ≤ 40 from ⟨(by omega), (by omega)⟩) eM10
          have rM10_7 := J_sl7 (M := M10) hJ
          have rM10_15 := J_sl15 (M := M10) hJ
          have mM10_7 : (M10.1 175 7).toInt = (M8Zq.1 175 7).toInt := by rw [eM10, li_ui_at, if_pos rfl, if_neg (by decide)]
          have mM10_15 : (M10.1 175 15).toInt = (M8Zq.1 175 15).toInt := by rw [eM10, li_ui_at, if_pos rfl, if_neg (by decide)]
          refine li_iconst 0 dX12_rule_54 (by decide) ?_
          have z0 : (0 : Int32).toInt = 0 := rfl
          exact li_iret dX12_rule_55 rfl rfl ⟨⟨_, rfl, (by first | (obtain ⟨cZq, okZq, q, r1Zq, r2, r3, r4, r5Zq⟩ := q98; exact Or.inr ⟨cZq, okZq, q, r1Zq, r2, r3, Or.inr ⟨r4, Int.le_antisymm (by omega) (by omega)⟩⟩) | (rcases q97 with cZq | ⟨cZq, q, r1Zq, r2, r3, r4⟩; exact Or.inl ⟨cZq, rfl⟩; exact Or.inr ⟨cZq, 1, q, r1Zq, r2, r3, Or.inl ⟨rfl, r4, rfl⟩⟩))⟩, hf, hJ, (by omega)⟩
        · have tc9 : x7.toInt < x2Zq.toInt := tl_nle c9Zq
          refine li_aload_n 2 dX12_rule_31 rfl ?_
          obtain ⟨q11Zq, hq11, rq11⟩ := hJ.2.2.1
          refine li_getm (r := 1) (k := 17) (N := 52) (T := TX12) (C0 := RX12) dX12_rule_32 (by decide) sh_175 rfl rfl hq11 (by decide) li_in12 w_1421 ?_
          refine li_iload_n 0 dX12_rule_35 rfl ?_
          refine li_aload_n 2 dX12_rule_36 rfl ?_
          refine li_getr (k := 6) (N := 52) (T := TX12) (C0 := RX12) dX12_rule_37 (by decide) sh_175 rfl rfl (by decide) (by decide) li_in12 w_1410 ?_
          refine li_iload_n 0 dX12_rule_40 rfl ?_
          refine li_bald dX12_rule_41 (by decide) sh_180 (tl_in ⟨by omega, by omega⟩) ?_
          refine li_top (fun x12 ex12 => ?_)
          have gx12 := tl_rg x12
          refine li_bast dX12_rule_42 (snU rq11) (shU rq11) (tl_in ⟨by omega, by omega⟩) ?_
          have uM13 : q11Zq = 183 ∨ q11Zq = 184 := rq11
          refine li_nm (fun M13 eM13 => ?_)
          have hf := li_fs_ui hf (show q11Zq = 183 ∨ q11Zq = 184 ∨ q11Zq = 1000 ∨ (q11Zq = 175 ∧ (x7 : Int32).toNatClampNeg = 10) ∨ (q11Zq = 175 ∧ (x7 : Int32).toNatClampNeg = 12) ∨ (q11Zq = 175 ∧ (x7 : Int32).toNatClampNeg = 13) ∨ (q11Zq = 175 ∧ (x7 : Int32).toNatClampNeg = 14) ∨ (q11Zq = 175 ∧ (x7 : Int32).toNatClampNeg = 15) ∨ (q11Zq = 175 ∧ (x7 : Int32).toNatClampNeg = 18) ∨ (q11Zq = 175 ∧ (x7 : Int32).toNatClampNeg = 20) ∨ (q11Zq = 175 ∧ (x7 : Int32).toNatClampNeg = 7) by omega) eM13
          have hJ := hJ.st (by unfold li_rl at rq11; omega) (li_el_byte (rl_rq rq11)) eM13
          have rM13_7 := J_sl7 (M := M13) hJ
          have rM13_15 := J_sl15 (M := M13) hJ
          have mM13_7 : (M13.1 175 7).toInt = (M8Zq.1 175 7).toInt := by rw [eM13, li_ui_at, if_neg (by unfold li_rl at rq11; omega)]
          have mM13_15 : (M13.1 175 15).toInt = (M8Zq.1 175 15).toInt := by rw [eM13, li_ui_at, if_neg (by unfold li_rl at rq11; omega)]
          obtain ⟨x14, ex14⟩ : ∃ yZq : Int32, yZq = x7 + 1 := ⟨_, rfl⟩
          have z1 : (1 : Int32).toInt = 1 := rfl
          try (have tx14 : x14.toInt = (x7 : Int32).toInt + (1 : Int32).toInt := tl_add ex14 ⟨by omega, by omega⟩)
          refine li_iinc 0 [(2, .int x14), (1, .int x2Zq), (0, .ref (Z.2.2 175))] x14 dX12_rule_43 rfl (by rw [ex14]; rfl) (by decide) rfl ?_
          refine li_goto 26 dX12_rule_46 (by decide) ?_
          refine li_pick [0, 1, 2] [(2, .int x14), (1, .int x2Zq), (0, .ref (Z.2.2 175))] rfl ?_
          exact ih26 x14 M13 (by omega) hf hJ ⟨(by omega), (by omega), (Int.le_antisymm (by omega) (by omega))⟩
    have z0 : (0 : Int32).toInt = 0 := rfl
    exact L26 _ 0 M4Zq (Nat.lt_succ_self _) hf hJ ⟨(by omega), (by omega), (Int.le_antisymm (by omega) (by omega))⟩
  · skip
    refine li_if_ne 24 dX12_rule_14 (by decide) (fun cZq => absurd rfl cZq) (fun cZq => ?_)
    have q98 := qx3.1
    refine li_iconst (-1) dX12_rule_17 (by decide) ?_
    refine li_aload_n 1 dX12_rule_18 rfl ?_
    refine li_geti (k := 15) (N := 52) (T := TX12) (C0 := RX12) dX12_rule_19 (by decide) sh_175 rfl rfl (by decide) li_in12 w_1419 ?_
    refine li_top (fun x16 ex16 => ?_)
    have gx16 : -1 ≤ x16.toInt ∧ x16.toInt ≤ 81 := by rw [ex16]; exact J_sl15 hJ
    have mx16 : x16.toInt = (M4Zq.1 175 15).toInt := tl_slot ex16
    refine li_isub dX12_rule_22 ?_
    refine li_top (fun x17 ex17 => ?_)
    have zm1 : ((-1) : Int32).toInt = -1 := rfl
    try (have tx17 : x17.toInt = ((-1) : Int32).toInt - (x16 : Int32).toInt := tl_sub ex17 ⟨by omega, by omega⟩)
    exact li_iret dX12_rule_23 rfl rfl ⟨⟨_, rfl, (by first | (obtain ⟨cZq, okZq, q, r1Zq, r2, r3, r4, r5Zq⟩ := q98; exact Or.inr ⟨cZq, okZq, q, r1Zq, r2, r3, Or.inr ⟨r4, Int.le_antisymm (by omega) (by omega)⟩⟩) | (rcases q97 with cZq | ⟨cZq, q, r1Zq, r2, r3, r4⟩; exact Or.inl ⟨cZq, rfl⟩; exact Or.inr ⟨cZq, 1, q, r1Zq, r2, r3, Or.inl ⟨rfl, r4, rfl⟩⟩))⟩, hf, hJ, (by omega)⟩
