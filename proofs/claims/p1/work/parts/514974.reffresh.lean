set_option maxRecDepth 100000 in
set_option maxHeartbeats 4000000 in
theorem k15_X12_readWording {l : Launch} {Z : li_Z} (d : Nat) (hdZq : 1 ≤ d) (M0 : li_M) (hJ : li_J M0) (z7 : (M0.1 175 7).toInt = 0) : li_Met l Z YX12_readWording d [.ref (Z.2.2 175)] M0 (fun r M' => (∃ x : Int32, r = some (.int x) ∧ (x.toInt = -1)) ∧ li_fs (fun i k => (i = 175 ∧ k = 7)) M0 M' ∧ li_J M') := by
  refine li_enter (by decide +kernel) (Nat.le_of_ble_eq_true rfl) ?_
  show li_T l Z YX12_readWording d 0 [(0, .ref (Z.2.2 175))] [] M0 _
  have hf : li_fs (fun i k => (i = 175 ∧ k = 7)) M0 M0 := li_fs_refl
  have rM0_7 := J_sl7 (M := M0) hJ
  refine li_aload_n 0 dX12_readWording_0 rfl ?_
  refine li_geti (k := 7) (N := 52) (T := TX12) (C0 := RX12) dX12_readWording_1 (by decide) sh_175 rfl rfl (by decide) li_in12 w_1411 ?_
  refine li_top (fun x1Zq ex1 => ?_)
  have gx1 : 0 ≤ x1Zq.toInt ∧ x1Zq.toInt ≤ 80 := by rw [ex1]; exact J_sl7 hJ
  have mx1 : x1Zq.toInt = (M0.1 175 7).toInt := tl_slot ex1
  refine li_istore_n [(1, .int x1Zq), (0, .ref (Z.2.2 175))] dX12_readWording_4 (by decide) rfl ?_
  refine li_aload_n 1 dX12_readWording_5 rfl ?_
  refine li_iconst 0 dX12_readWording_6 (by decide) ?_
  refine li_puti (k := 7) (N := 52) (T := TX12) (C0 := RX12) dX12_readWording_7 (by decide) sh_175 rfl rfl (by decide) li_in12 tyX12_ok nmX12 rfl rfl rfl rfl w_1411 ?_
  refine li_nm (fun M2Zq eM2 => ?_)
  have hf := li_fs_ui hf (⟨rfl, rfl⟩) eM2
  have z0 : (0 : Int32).toInt = 0 := rfl
  have hJ := J_pt7 hJ (show 0 ≤ (0 : Int32).toInt ∧ (0 : Int32).toInt ≤ 80 by omega) eM2
  have rM2_7 := J_sl7 (M := M2Zq) hJ
  have mM2_7 : (M2Zq.1 175 7).toInt = 0 := by rw [eM2, li_ui_at, if_pos rfl, if_pos rfl]; rfl
  refine li_iconst 0 dX12_readWording_10 (by decide) ?_
  refine li_istore_n [(2, .int 0), (1, .int x1Zq), (0, .ref (Z.2.2 175))] dX12_readWording_11 (by decide) rfl ?_
  have L12Zq : ∀ (n : Nat) (x3 : Int32) (M4Zq : li_M), ((x3 : Int32).toInt).toNat < n → li_fs (fun i k => (i = 175 ∧ k = 7)) M0 M4Zq → li_J M4Zq → 0 ≤ (x3 : Int32).toInt ∧ (x1Zq : Int32).toInt = 0 → li_T l Z YX12_readWording d 12 [(2, .int x3), (1, .int x1Zq), (0, .ref (Z.2.2 175))] [] M4Zq (fun r M' => (∃ x : Int32, r = some (.int x) ∧ (x.toInt = -1)) ∧ li_fs (fun i k => (i = 175 ∧ k = 7)) M0 M' ∧ li_J M') := by
    intro n
    induction n with
    | zero => intro x3 M4Zq hn; exact absurd hn (Nat.not_lt_zero _)
    | succ n ih12 =>
      intro x3 M4Zq hn hf hJ hiZq
      have gx3 := tl_rg x3
      have rM4_7 := J_sl7 (M := M4Zq) hJ
      refine li_iload_n 0 dX12_readWording_12 rfl ?_
      refine li_iload_n 1 dX12_readWording_13 rfl ?_
      refine li_icmp_ge 49 dX12_readWording_14 (by decide) (fun c5Zq => ?_) (fun c5Zq => ?_)
      · have tc5 : x1Zq.toInt ≤ x3.toInt := tl_le c5Zq
        refine li_iload_n 1 dX12_readWording_49 rfl ?_
        refine li_if_ne 55 dX12_readWording_50 (by decide) (fun c6Zq => ?_) (fun c6Zq => ?_)
        · have tc6 : ¬ x1Zq.toInt = 0 := tl_ne c6Zq
          exfalso; omega
        · have tc6 : x1Zq.toInt = 0 := tl_eq c6Zq
          refine li_iconst (-1) dX12_readWording_53 (by decide) ?_
          have zm1 : ((-1) : Int32).toInt = -1 := rfl
          exact li_iret dX12_readWording_54 rfl rfl ⟨⟨_, rfl, (by first | omega | (intro _; omega) | (refine ⟨?_, ?_⟩ <;> first | omega | (intro _; omega)) | (refine ⟨?_, ?_, ?_, ?_⟩ <;> first | omega | (intro _; omega)))⟩, hf, hJ⟩
      · have tc5 : x3.toInt < x1Zq.toInt := tl_nle c5Zq
        exfalso; omega
  have z0 : (0 : Int32).toInt = 0 := rfl
  exact L12Zq _ 0 M2Zq (Nat.lt_succ_self _) hf hJ (by omega)
set_option maxRecDepth 100000 in
set_option maxHeartbeats 4000000 in
theorem k15_X12_shorter {l : Launch} {Z : li_Z} (d : Nat) (hdZq : 2 ≤ d) (M0 : li_M) (hJ : li_J M0) (z7 : (M0.1 175 7).toInt = 0) : li_Met l Z YX12_shorter d [.ref (Z.2.2 175)] M0 (fun r M' => (∃ x : Int32, r = some (.int x) ∧ (x.toInt = -1)) ∧ li_fs (fun i k => (i = 175 ∧ k = 10) ∨ (i = 175 ∧ k = 7)) M0 M' ∧ li_J M') := by
  refine li_enter (by decide +kernel) (Nat.le_of_ble_eq_true rfl) ?_
  show li_T l Z YX12_shorter d 0 [(0, .ref (Z.2.2 175))] [] M0 _
  have hf : li_fs (fun i k => (i = 175 ∧ k = 10) ∨ (i = 175 ∧ k = 7)) M0 M0 := li_fs_refl
  have rM0_7 := J_sl7 (M := M0) hJ
  refine li_aload_n 0 dX12_shorter_0 rfl ?_
  refine li_iconst 0 dX12_shorter_1 (by decide) ?_
  refine li_puti (k := 10) (N := 52) (T := TX12) (C0 := RX12) dX12_shorter_2 (by decide) sh_175 rfl rfl (by decide) li_in12 tyX12_ok nmX12 rfl rfl rfl rfl w_1414 ?_
  refine li_nm (fun M1Zq eM1 => ?_)
  have hf := li_fs_ui hf (Or.inl ⟨rfl, rfl⟩) eM1
  have z0 : (0 : Int32).toInt = 0 := rfl
  have hJ := hJ.put (k := 10) (by decide) (rg_free rfl) eM1
  have rM1_7 := J_sl7 (M := M1Zq) hJ
  have mM1_7 : (M1Zq.1 175 7).toInt = (M0.1 175 7).toInt := by rw [eM1, li_ui_at, if_pos rfl, if_neg (by decide)]
  refine li_aload_n 0 dX12_shorter_5 rfl ?_
  refine li_callV (n := 0) (As := []) dX12_shorter_6 (k15_X12_readWording (d - 1) (by omega)  M1Zq hJ (by omega) ) (by omega) (Nat.le_of_ble_eq_true rfl) w_1910 w_1912 w_93 w_112 w_1913 (by decide +kernel) rfl (by decide) sh_175 rfl rfl (Nat.le_of_ble_eq_true rfl) (fun r M3Zq h4 => ?_)
  obtain ⟨⟨x2Zq, rfl, qx2⟩, h4, jM3⟩ := h4
  have gx2 := tl_rg x2Zq
  have hf := li_fs_trans hf h4 (fun i k => fun hZq => Or.inr hZq)
  have hJ := jM3
  have rM3_7 := J_sl7 (M := M3Zq) hJ
  refine li_istore_n [(1, .int x2Zq), (0, .ref (Z.2.2 175))] dX12_shorter_9 (by decide) rfl ?_
  refine li_iload_n 0 dX12_shorter_10 rfl ?_
  refine li_if_ge 16 dX12_shorter_11 (by decide) (fun c5Zq => ?_) (fun c5Zq => ?_)
  · have tc5 : 0 ≤ x2Zq.toInt := tl_le c5Zq
    exfalso; omega
  · have tc5 : x2Zq.toInt < 0 := tl_nle c5Zq
    refine li_iload_n 0 dX12_shorter_14 rfl ?_
    exact li_iret dX12_shorter_15 rfl rfl ⟨⟨_, rfl, (by first | omega | (intro _; omega) | (refine ⟨?_, ?_⟩ <;> first | omega | (intro _; omega)) | (refine ⟨?_, ?_, ?_, ?_⟩ <;> first | omega | (intro _; omega)))⟩, hf, hJ⟩
set_option maxRecDepth 100000 in
set_option maxHeartbeats 4000000 in
theorem k15_X12_becomes {l : Launch} {Z : li_Z} (d : Nat) (hdZq : 2 ≤ d) (M0 : li_M) (hJ : li_J M0) (z7 : (M0.1 175 7).toInt = 0) : li_Met l Z YX12_becomes d [.ref (Z.2.2 175)] M0 (fun r M' => (∃ x : Int32, r = some (.int x) ∧ (x.toInt = -1)) ∧ li_fs (fun i k => (i = 175 ∧ k = 10) ∨ (i = 175 ∧ k = 7)) M0 M' ∧ li_J M') := by
  refine li_enter (by decide +kernel) (Nat.le_of_ble_eq_true rfl) ?_
  show li_T l Z YX12_becomes d 0 [(0, .ref (Z.2.2 175))] [] M0 _
  have hf : li_fs (fun i k => (i = 175 ∧ k = 10) ∨ (i = 175 ∧ k = 7)) M0 M0 := li_fs_refl
  have rM0_7 := J_sl7 (M := M0) hJ
  refine li_aload_n 0 dX12_becomes_0 rfl ?_
  refine li_iconst 0 dX12_becomes_1 (by decide) ?_
  refine li_puti (k := 10) (N := 52) (T := TX12) (C0 := RX12) dX12_becomes_2 (by decide) sh_175 rfl rfl (by decide) li_in12 tyX12_ok nmX12 rfl rfl rfl rfl w_1414 ?_
  refine li_nm (fun M1Zq eM1 => ?_)
  have hf := li_fs_ui hf (Or.inl ⟨rfl, rfl⟩) eM1
  have z0 : (0 : Int32).toInt = 0 := rfl
  have hJ := hJ.put (k := 10) (by decide) (rg_free rfl) eM1
  have rM1_7 := J_sl7 (M := M1Zq) hJ
  have mM1_7 : (M1Zq.1 175 7).toInt = (M0.1 175 7).toInt := by rw [eM1, li_ui_at, if_pos rfl, if_neg (by decide)]
  refine li_aload_n 0 dX12_becomes_5 rfl ?_
  refine li_callV (n := 0) (As := []) dX12_becomes_6 (k15_X12_readWording (d - 1) (by omega)  M1Zq hJ (by omega) ) (by omega) (Nat.le_of_ble_eq_true rfl) w_1910 w_1912 w_93 w_112 w_1913 (by decide +kernel) rfl (by decide) sh_175 rfl rfl (Nat.le_of_ble_eq_true rfl) (fun r M3Zq h4 => ?_)
  obtain ⟨⟨x2Zq, rfl, qx2⟩, h4, jM3⟩ := h4
  have gx2 := tl_rg x2Zq
  have hf := li_fs_trans hf h4 (fun i k => fun hZq => Or.inr hZq)
  have hJ := jM3
  have rM3_7 := J_sl7 (M := M3Zq) hJ
  refine li_istore_n [(1, .int x2Zq), (0, .ref (Z.2.2 175))] dX12_becomes_9 (by decide) rfl ?_
  refine li_iload_n 0 dX12_becomes_10 rfl ?_
  refine li_if_ge 18 dX12_becomes_11 (by decide) (fun c5Zq => ?_) (fun c5Zq => ?_)
  · have tc5 : 0 ≤ x2Zq.toInt := tl_le c5Zq
    exfalso; omega
  · have tc5 : x2Zq.toInt < 0 := tl_nle c5Zq
    refine li_iload_n 0 dX12_becomes_14 rfl ?_
    refine li_goto 27 dX12_becomes_15 (by decide) ?_
    exact li_iret dX12_becomes_27 rfl rfl ⟨⟨_, rfl, (by first | omega | (intro _; omega) | (refine ⟨?_, ?_⟩ <;> first | omega | (intro _; omega)) | (refine ⟨?_, ?_, ?_, ?_⟩ <;> first | omega | (intro _; omega)))⟩, hf, hJ⟩
set_option maxRecDepth 100000 in
set_option maxHeartbeats 4000000 in
theorem k15_X12_talk {l : Launch} {Z : li_Z} (d : Nat) (hdZq : 2 ≤ d) (M0 : li_M) (hJ : li_J M0) (z7 : (M0.1 175 7).toInt = 0) : li_Met l Z YX12_talk d [.ref (Z.2.2 175)] M0 (fun r M' => (∃ x : Int32, r = some (.int x) ∧ (x.toInt = 0)) ∧ li_fs (fun i k => i = 181 ∨ i = 187 ∨ i = 1000 ∨ (i = 175 ∧ k = 10) ∨ (i = 175 ∧ k = 12) ∨ (i = 175 ∧ k = 13) ∨ (i = 175 ∧ k = 14) ∨ (i = 175 ∧ k = 15) ∨ (i = 175 ∧ k = 28) ∨ (i = 175 ∧ k = 7) ∨ (i = 175 ∧ k = 9)) M0 M' ∧ li_J M') := by
  refine li_enter (by decide +kernel) (Nat.le_of_ble_eq_true rfl) ?_
  show li_T l Z YX12_talk d 0 [(0, .ref (Z.2.2 175))] [] M0 _
  have hf : li_fs (fun i k => i = 181 ∨ i = 187 ∨ i = 1000 ∨ (i = 175 ∧ k = 10) ∨ (i = 175 ∧ k = 12) ∨ (i = 175 ∧ k = 13) ∨ (i = 175 ∧ k = 14) ∨ (i = 175 ∧ k = 15) ∨ (i = 175 ∧ k = 28) ∨ (i = 175 ∧ k = 7) ∨ (i = 175 ∧ k = 9)) M0 M0 := li_fs_refl
  have rM0_7 := J_sl7 (M := M0) hJ
  have rM0_9 := J_sl9 (M := M0) hJ
  have rM0_12 := J_sl12 (M := M0) hJ
  have rM0_13 := J_sl13 (M := M0) hJ
  have rM0_14 := J_sl14 (M := M0) hJ
  have rM0_15 := J_sl15 (M := M0) hJ
  refine li_aload_n 0 dX12_talk_0 rfl ?_
  refine li_iconst 0 dX12_talk_1 (by decide) ?_
  refine li_puti (k := 10) (N := 52) (T := TX12) (C0 := RX12) dX12_talk_2 (by decide) sh_175 rfl rfl (by decide) li_in12 tyX12_ok nmX12 rfl rfl rfl rfl w_1414 ?_
  refine li_nm (fun M1Zq eM1 => ?_)
  have hf := li_fs_ui hf (Or.inr (Or.inr (Or.inr (Or.inl ⟨rfl, rfl⟩)))) eM1
  have z0 : (0 : Int32).toInt = 0 := rfl
  have hJ := hJ.put (k := 10) (by decide) (rg_free rfl) eM1
  have rM1_7 := J_sl7 (M := M1Zq) hJ
  have rM1_9 := J_sl9 (M := M1Zq) hJ
  have rM1_12 := J_sl12 (M := M1Zq) hJ
  have rM1_13 := J_sl13 (M := M1Zq) hJ
  have rM1_14 := J_sl14 (M := M1Zq) hJ
  have rM1_15 := J_sl15 (M := M1Zq) hJ
  have mM1_7 : (M1Zq.1 175 7).toInt = (M0.1 175 7).toInt := by rw [eM1, li_ui_at, if_pos rfl, if_neg (by decide)]
  have mM1_9 : (M1Zq.1 175 9).toInt = (M0.1 175 9).toInt := by rw [eM1, li_ui_at, if_pos rfl, if_neg (by decide)]
  have mM1_12 : (M1Zq.1 175 12).toInt = (M0.1 175 12).toInt := by rw [eM1, li_ui_at, if_pos rfl, if_neg (by decide)]
  have mM1_13 : (M1Zq.1 175 13).toInt = (M0.1 175 13).toInt := by rw [eM1, li_ui_at, if_pos rfl, if_neg (by decide)]
  have mM1_14 : (M1Zq.1 175 14).toInt = (M0.1 175 14).toInt := by rw [eM1, li_ui_at, if_pos rfl, if_neg (by decide)]
  have mM1_15 : (M1Zq.1 175 15).toInt = (M0.1 175 15).toInt := by rw [eM1, li_ui_at, if_pos rfl, if_neg (by decide)]
  refine li_aload_n 0 dX12_talk_5 rfl ?_
  refine li_aload_n 0 dX12_talk_6 rfl ?_
  refine li_getr (k := 6) (N := 52) (T := TX12) (C0 := RX12) dX12_talk_7 (by decide) sh_175 rfl rfl (by decide) (by decide) li_in12 w_1410 ?_
  refine li_aload_n 0 dX12_talk_10 rfl ?_
  refine li_geti (k := 7) (N := 52) (T := TX12) (C0 := RX12) dX12_talk_11 (by decide) sh_175 rfl rfl (by decide) li_in12 w_1411 ?_
  refine li_top (fun x2Zq ex2Zq => ?_)
  have gx2 : 0 ≤ x2Zq.toInt ∧ x2Zq.toInt ≤ 80 := by rw [ex2Zq]; exact J_sl7 hJ
  have mx2 : x2Zq.toInt = (M1Zq.1 175 7).toInt := tl_slot ex2Zq
  refine li_bipush 60 dX12_talk_14 (by decide) ?_
  have z60Zq : (60 : Int32).toInt = 60 := rfl
  refine li_callV (n := 3) (As := [.ref (Z.2.2 180), .int x2Zq, .int 60]) dX12_talk_16 (k_X12_begin (d - 1) (by unfold li_rq; omega) x2Zq 60 M1Zq hJ (show 0 ≤ (x2Zq : Int32).toInt ∧ (x2Zq : Int32).toInt ≤ (li_qn 180 : Int) by have := li_qn_fix; omega) (by omega)) (by omega) (Nat.le_of_ble_eq_true rfl) w_1581 w_1583 w_42 w_112 w_1584 (by decide +kernel) rfl (by decide) sh_175 rfl rfl (Nat.le_of_ble_eq_true rfl) (fun r M4Zq h5 => ?_)
  obtain ⟨rfl, h5, jM4, nM4⟩ := h5
  have hf := li_fs_trans hf h5 (fun i k => fun hZq => Or.elim hZq (fun hZq => Or.inr (Or.inr (Or.inr (Or.inr (Or.inl hZq))))) (fun hZq => Or.elim hZq (fun hZq => Or.inr (Or.inr (Or.inr (Or.inr (Or.inr (Or.inl hZq)))))) (fun hZq => Or.elim hZq (fun hZq => Or.inr (Or.inr (Or.inr (Or.inr (Or.inr (Or.inr (Or.inl hZq))))))) (fun hZq => Or.elim hZq (fun hZq => Or.inr (Or.inr (Or.inr (Or.inr (Or.inr (Or.inr (Or.inr (Or.inl hZq)))))))) (fun hZq => Or.inr (Or.inr (Or.inl hZq)))))))
  have hJ := jM4
  have rM4_7 := J_sl7 (M := M4Zq) hJ
  have rM4_9 := J_sl9 (M := M4Zq) hJ
  have rM4_12 := J_sl12 (M := M4Zq) hJ
  have rM4_13 := J_sl13 (M := M4Zq) hJ
  have rM4_14 := J_sl14 (M := M4Zq) hJ
  have rM4_15 := J_sl15 (M := M4Zq) hJ
  have mM4_7 : (M4Zq.1 175 7).toInt = (M1Zq.1 175 7).toInt := tl_slot (h5.1 175 7 (show ¬ ((175 = 175 ∧ 7 = 12) ∨ (175 = 175 ∧ 7 = 13) ∨ (175 = 175 ∧ 7 = 14) ∨ (175 = 175 ∧ 7 = 15) ∨ 175 = 1000) by decide))
  have mM4_9 : (M4Zq.1 175 9).toInt = (M1Zq.1 175 9).toInt := tl_slot (h5.1 175 9 (show ¬ ((175 = 175 ∧ 9 = 12) ∨ (175 = 175 ∧ 9 = 13) ∨ (175 = 175 ∧ 9 = 14) ∨ (175 = 175 ∧ 9 = 15) ∨ 175 = 1000) by decide))
  refine li_aload_n 0 dX12_talk_19 rfl ?_
  refine li_iconst 0 dX12_talk_20 (by decide) ?_
  refine li_puti (k := 7) (N := 52) (T := TX12) (C0 := RX12) dX12_talk_21 (by decide) sh_175 rfl rfl (by decide) li_in12 tyX12_ok nmX12 rfl rfl rfl rfl w_1411 ?_
  refine li_nm (fun M6Zq eM6 => ?_)
  have hf := li_fs_ui hf (Or.inr (Or.inr (Or.inr (Or.inr (Or.inr (Or.inr (Or.inr (Or.inr (Or.inr (Or.inl ⟨rfl, rfl⟩)))))))))) eM6
  have z0 : (0 : Int32).toInt = 0 := rfl
  have hJ := J_pt7 hJ (show 0 ≤ (0 : Int32).toInt ∧ (0 : Int32).toInt ≤ 80 by omega) eM6
  have rM6_7 := J_sl7 (M := M6Zq) hJ
  have rM6_9 := J_sl9 (M := M6Zq) hJ
  have rM6_12 := J_sl12 (M := M6Zq) hJ
  have rM6_13 := J_sl13 (M := M6Zq) hJ
  have rM6_14 := J_sl14 (M := M6Zq) hJ
  have rM6_15 := J_sl15 (M := M6Zq) hJ
  have mM6_7 : (M6Zq.1 175 7).toInt = 0 := by rw [eM6, li_ui_at, if_pos rfl, if_pos rfl]; rfl
  have mM6_9 : (M6Zq.1 175 9).toInt = (M4Zq.1 175 9).toInt := by rw [eM6, li_ui_at, if_pos rfl, if_neg (by decide)]
  have mM6_12 : (M6Zq.1 175 12).toInt = (M4Zq.1 175 12).toInt := by rw [eM6, li_ui_at, if_pos rfl, if_neg (by decide)]
  have mM6_13 : (M6Zq.1 175 13).toInt = (M4Zq.1 175 13).toInt := by rw [eM6, li_ui_at, if_pos rfl, if_neg (by decide)]
  have mM6_14 : (M6Zq.1 175 14).toInt = (M4Zq.1 175 14).toInt := by rw [eM6, li_ui_at, if_pos rfl, if_neg (by decide)]
  have mM6_15 : (M6Zq.1 175 15).toInt = (M4Zq.1 175 15).toInt := by rw [eM6, li_ui_at, if_pos rfl, if_neg (by decide)]
  refine li_iconst 0 dX12_talk_24 (by decide) ?_
  refine li_istore_n [(1, .int 0), (0, .ref (Z.2.2 175))] dX12_talk_25 (by decide) rfl ?_
  refine li_aload_n 1 dX12_talk_26 rfl ?_
  refine li_geti (k := 12) (N := 52) (T := TX12) (C0 := RX12) dX12_talk_27 (by decide) sh_175 rfl rfl (by decide) li_in12 w_1416 ?_
  refine li_top (fun x7 ex7 => ?_)
  have gx7 : 0 ≤ x7.toInt ∧ x7.toInt ≤ 80 := by rw [ex7]; exact J_sl12 hJ
  have mx7 : x7.toInt = (M6Zq.1 175 12).toInt := tl_slot ex7
  have J38 : ∀ (x9 : Int32) (M10 : li_M), li_fs (fun i k => i = 181 ∨ i = 187 ∨ i = 1000 ∨ (i = 175 ∧ k = 10) ∨ (i = 175 ∧ k = 12) ∨ (i = 175 ∧ k = 13) ∨ (i = 175 ∧ k = 14) ∨ (i = 175 ∧ k = 15) ∨ (i = 175 ∧ k = 28) ∨ (i = 175 ∧ k = 7) ∨ (i = 175 ∧ k = 9)) M0 M10 → li_J M10 → (x9 : Int32).toInt = 0 ∧ (M10.1 175 14).toInt = 0 ∧ (M10.1 175 15).toInt = -1 ∧ (M10.1 175 12).toInt = 0 → li_T l Z YX12_talk d 38 [(1, .int 0), (0, .ref (Z.2.2 175))] [.int x9] M10 (fun r M' => (∃ x : Int32, r = some (.int x) ∧ (x.toInt = 0)) ∧ li_fs (fun i k => i = 181 ∨ i = 187 ∨ i = 1000 ∨ (i = 175 ∧ k = 10) ∨ (i = 175 ∧ k = 12) ∨ (i = 175 ∧ k = 13) ∨ (i = 175 ∧ k = 14) ∨ (i = 175 ∧ k = 15) ∨ (i = 175 ∧ k = 28) ∨ (i = 175 ∧ k = 7) ∨ (i = 175 ∧ k = 9)) M0 M' ∧ li_J M') := by
    intro x9 M10 hf hJ hiZq
    have gx9 := tl_rg x9
    have rM10_7 := J_sl7 (M := M10) hJ
    have rM10_9 := J_sl9 (M := M10) hJ
    have rM10_12 := J_sl12 (M := M10) hJ
    have rM10_13 := J_sl13 (M := M10) hJ
    have rM10_14 := J_sl14 (M := M10) hJ
    have rM10_15 := J_sl15 (M := M10) hJ
    refine li_istore_n [(2, .int x9), (1, .int 0), (0, .ref (Z.2.2 175))] dX12_talk_38 (by decide) rfl ?_
    have J70 : ∀ (x11 : Int32) (x12 : Int32) (M13 : li_M), li_fs (fun i k => i = 181 ∨ i = 187 ∨ i = 1000 ∨ (i = 175 ∧ k = 10) ∨ (i = 175 ∧ k = 12) ∨ (i = 175 ∧ k = 13) ∨ (i = 175 ∧ k = 14) ∨ (i = 175 ∧ k = 15) ∨ (i = 175 ∧ k = 28) ∨ (i = 175 ∧ k = 7) ∨ (i = 175 ∧ k = 9)) M0 M13 → li_J M13 → (x12 : Int32).toInt = 0 ∧ (M13.1 175 14).toInt = 0 ∧ (M13.1 175 15).toInt = -1 ∧ (M13.1 175 12).toInt = 0 → li_T l Z YX12_talk d 70 [(2, .int x11), (1, .int x12), (0, .ref (Z.2.2 175))] [] M13 (fun r M' => (∃ x : Int32, r = some (.int x) ∧ (x.toInt = 0)) ∧ li_fs (fun i k => i = 181 ∨ i = 187 ∨ i = 1000 ∨ (i = 175 ∧ k = 10) ∨ (i = 175 ∧ k = 12) ∨ (i = 175 ∧ k = 13) ∨ (i = 175 ∧ k = 14) ∨ (i = 175 ∧ k = 15) ∨ (i = 175 ∧ k = 28) ∨ (i = 175 ∧ k = 7) ∨ (i = 175 ∧ k = 9)) M0 M' ∧ li_J M') := by
      intro x11 x12 M13 hf hJ hiZq
      have gx11 := tl_rg x11
      have gx12 := tl_rg x12
      have rM13_7 := J_sl7 (M := M13) hJ
      have rM13_9 := J_sl9 (M := M13) hJ
      have rM13_12 := J_sl12 (M := M13) hJ
      have rM13_13 := J_sl13 (M := M13) hJ
      have rM13_14 := J_sl14 (M := M13) hJ
      have rM13_15 := J_sl15 (M := M13) hJ
      refine li_aload_n 2 dX12_talk_70 rfl ?_
      refine li_geti (k := 14) (N := 52) (T := TX12) (C0 := RX12) dX12_talk_71 (by decide) sh_175 rfl rfl (by decide) li_in12 w_1418 ?_
      refine li_top (fun x14 ex14 => ?_)
      have gx14 : 0 ≤ x14.toInt ∧ x14.toInt ≤ 81 := by rw [ex14]; exact J_sl14 hJ
      have mx14 : x14.toInt = (M13.1 175 14).toInt := tl_slot ex14
      refine li_aload_n 2 dX12_talk_74 rfl ?_
      refine li_geti (k := 12) (N := 52) (T := TX12) (C0 := RX12) dX12_talk_75 (by decide) sh_175 rfl rfl (by decide) li_in12 w_1416 ?_
      refine li_top (fun x15 ex15 => ?_)
      have gx15 : 0 ≤ x15.toInt ∧ x15.toInt ≤ 80 := by rw [ex15]; exact J_sl12 hJ
      have mx15 : x15.toInt = (M13.1 175 12).toInt := tl_slot ex15
      have J89 : ∀  (M17 : li_M), li_fs (fun i k => i = 181 ∨ i = 187 ∨ i = 1000 ∨ (i = 175 ∧ k = 10) ∨ (i = 175 ∧ k = 12) ∨ (i = 175 ∧ k = 13) ∨ (i = 175 ∧ k = 14) ∨ (i = 175 ∧ k = 15) ∨ (i = 175 ∧ k = 28) ∨ (i = 175 ∧ k = 7) ∨ (i = 175 ∧ k = 9)) M0 M17 → li_J M17 → (M17.1 175 15).toInt = -1 → li_T l Z YX12_talk d 89 [(2, .int x11), (1, .int x12), (0, .ref (Z.2.2 175))] [] M17 (fun r M' => (∃ x : Int32, r = some (.int x) ∧ (x.toInt = 0)) ∧ li_fs (fun i k => i = 181 ∨ i = 187 ∨ i = 1000 ∨ (i = 175 ∧ k = 10) ∨ (i = 175 ∧ k = 12) ∨ (i = 175 ∧ k = 13) ∨ (i = 175 ∧ k = 14) ∨ (i = 175 ∧ k = 15) ∨ (i = 175 ∧ k = 28) ∨ (i = 175 ∧ k = 7) ∨ (i = 175 ∧ k = 9)) M0 M' ∧ li_J M') := by
        intro  M17 hf hJ hiZq
        have rM17_7 := J_sl7 (M := M17) hJ
        have rM17_9 := J_sl9 (M := M17) hJ
        have rM17_12 := J_sl12 (M := M17) hJ
        have rM17_13 := J_sl13 (M := M17) hJ
        have rM17_14 := J_sl14 (M := M17) hJ
        have rM17_15 := J_sl15 (M := M17) hJ
        refine li_aload_n 2 dX12_talk_89 rfl ?_
        refine li_callV (n := 0) (As := []) dX12_talk_90 (k_X12_fine (d - 1) (by omega)  M17 hJ ) (by omega) (Nat.le_of_ble_eq_true rfl) w_1585 w_1587 w_43 w_112 w_1588 (by decide +kernel) rfl (by decide) sh_175 rfl rfl (Nat.le_of_ble_eq_true rfl) (fun r M19 h20 => ?_)
        obtain ⟨qx18, h20, jM19⟩ := h20
        have hf := li_fs_trans hf h20 (fun i k hZq => False.elim hZq)
        have hJ := jM19
        have rM19_7 := J_sl7 (M := M19) hJ
        have rM19_9 := J_sl9 (M := M19) hJ
        have rM19_12 := J_sl12 (M := M19) hJ
        have rM19_13 := J_sl13 (M := M19) hJ
        have rM19_14 := J_sl14 (M := M19) hJ
        have rM19_15 := J_sl15 (M := M19) hJ
        have mM19_7 : (M19.1 175 7).toInt = (M17.1 175 7).toInt := tl_slot (h20.1 175 7 id)
        have mM19_9 : (M19.1 175 9).toInt = (M17.1 175 9).toInt := tl_slot (h20.1 175 9 id)
        have mM19_12 : (M19.1 175 12).toInt = (M17.1 175 12).toInt := tl_slot (h20.1 175 12 id)
        have mM19_13 : (M19.1 175 13).toInt = (M17.1 175 13).toInt := tl_slot (h20.1 175 13 id)
        have mM19_14 : (M19.1 175 14).toInt = (M17.1 175 14).toInt := tl_slot (h20.1 175 14 id)
        have mM19_15 : (M19.1 175 15).toInt = (M17.1 175 15).toInt := tl_slot (h20.1 175 15 id)
        rcases qx18 with ⟨rfl, qx18⟩ | ⟨rfl, qx18⟩
        · skip
          refine li_if_ne 103 dX12_talk_93 (by decide) (fun c => ?_) (fun c => absurd c (by decide))
          refine li_aload_n 2 dX12_talk_103 rfl ?_
          refine li_getr (k := 0) (N := 52) (T := TX12) (C0 := RX12) dX12_talk_104 (by decide) sh_175 rfl rfl (by decide) (by decide) li_in12 w_1404 ?_
          refine li_aload_n 2 dX12_talk_107 rfl ?_
          refine li_getr (k := 24) (N := 52) (T := TX12) (C0 := RX12) dX12_talk_108 (by decide) sh_175 rfl rfl (by decide) (by decide) li_in12 w_1428 ?_
          refine li_iconst 0 dX12_talk_111 (by decide) ?_
          have z0 : (0 : Int32).toInt = 0 := rfl
          refine li_callS (n := 3) (As := [.ref (Z.2.2 176), .ref (Z.2.2 187), .int 0]) dX12_talk_112 (k_X12_lay_na (d - 1) (by omega) 0 M19 hJ (by omega)) (by omega) (Nat.le_of_ble_eq_true rfl) w_1749 w_1750 w_112 w_1751 (by decide +kernel) rfl rfl (Nat.le_of_ble_eq_true rfl) (fun r M23 h24 => ?_)
          obtain ⟨rfl, h24, jM23⟩ := h24
          have hf := li_fs_trans hf h24 (fun i k => fun hZq => Or.inr (Or.inl hZq))
          have hJ := jM23
          have rM23_7 := J_sl7 (M := M23) hJ
          have rM23_9 := J_sl9 (M := M23) hJ
          have rM23_12 := J_sl12 (M := M23) hJ
          have rM23_13 := J_sl13 (M := M23) hJ
          have rM23_14 := J_sl14 (M := M23) hJ
          have rM23_15 := J_sl15 (M := M23) hJ
          have mM23_7 : (M23.1 175 7).toInt = (M19.1 175 7).toInt := tl_slot (h24.1 175 7 (show ¬ (175 = 187) by decide))
          have mM23_9 : (M23.1 175 9).toInt = (M19.1 175 9).toInt := tl_slot (h24.1 175 9 (show ¬ (175 = 187) by decide))
          have mM23_12 : (M23.1 175 12).toInt = (M19.1 175 12).toInt := tl_slot (h24.1 175 12 (show ¬ (175 = 187) by decide))
          have mM23_13 : (M23.1 175 13).toInt = (M19.1 175 13).toInt := tl_slot (h24.1 175 13 (show ¬ (175 = 187) by decide))
          have mM23_14 : (M23.1 175 14).toInt = (M19.1 175 14).toInt := tl_slot (h24.1 175 14 (show ¬ (175 = 187) by decide))
          have mM23_15 : (M23.1 175 15).toInt = (M19.1 175 15).toInt := tl_slot (h24.1 175 15 (show ¬ (175 = 187) by decide))
          refine li_aload_n 2 dX12_talk_115 rfl ?_
          refine li_iconst 0 dX12_talk_116 (by decide) ?_
          refine li_puti (k := 28) (N := 52) (T := TX12) (C0 := RX12) dX12_talk_117 (by decide) sh_175 rfl rfl (by decide) li_in12 tyX12_ok nmX12 rfl rfl rfl rfl w_1432 ?_
          refine li_nm (fun M25 eM25 => ?_)
          have hf := li_fs_ui hf (Or.inr (Or.inr (Or.inr (Or.inr (Or.inr (Or.inr (Or.inr (Or.inr (Or.inl ⟨rfl, rfl⟩))))))))) eM25
          have z0 : (0 : Int32).toInt = 0 := rfl
          have hJ := hJ.put (k := 28) (by decide) (rg_free rfl) eM25
          have rM25_7 := J_sl7 (M := M25) hJ
          have rM25_9 := J_sl9 (M := M25) hJ
          have rM25_12 := J_sl12 (M := M25) hJ
          have rM25_13 := J_sl13 (M := M25) hJ
          have rM25_14 := J_sl14 (M := M25) hJ
          have rM25_15 := J_sl15 (M := M25) hJ
          have mM25_7 : (M25.1 175 7).toInt = (M23.1 175 7).toInt := by rw [eM25, li_ui_at, if_pos rfl, if_neg (by decide)]
          have mM25_9 : (M25.1 175 9).toInt = (M23.1 175 9).toInt := by rw [eM25, li_ui_at, if_pos rfl, if_neg (by decide)]
          have mM25_12 : (M25.1 175 12).toInt = (M23.1 175 12).toInt := by rw [eM25, li_ui_at, if_pos rfl, if_neg (by decide)]
          have mM25_13 : (M25.1 175 13).toInt = (M23.1 175 13).toInt := by rw [eM25, li_ui_at, if_pos rfl, if_neg (by decide)]
          have mM25_14 : (M25.1 175 14).toInt = (M23.1 175 14).toInt := by rw [eM25, li_ui_at, if_pos rfl, if_neg (by decide)]
          have mM25_15 : (M25.1 175 15).toInt = (M23.1 175 15).toInt := by rw [eM25, li_ui_at, if_pos rfl, if_neg (by decide)]
          refine li_iconst 0 dX12_talk_120 (by decide) ?_
          refine li_istore_n [(3, .int 0), (2, .int x11), (1, .int x12), (0, .ref (Z.2.2 175))] dX12_talk_121 (by decide) rfl ?_
          have L122 : ∀ (n : Nat) (x26 : Int32) (M27 : li_M), ((x26 : Int32).toInt).toNat < n → li_fs (fun i k => i = 181 ∨ i = 187 ∨ i = 1000 ∨ (i = 175 ∧ k = 10) ∨ (i = 175 ∧ k = 12) ∨ (i = 175 ∧ k = 13) ∨ (i = 175 ∧ k = 14) ∨ (i = 175 ∧ k = 15) ∨ (i = 175 ∧ k = 28) ∨ (i = 175 ∧ k = 7) ∨ (i = 175 ∧ k = 9)) M0 M27 → li_J M27 → (x26 : Int32).toInt = 0 ∧ (x12 : Int32).toInt = 0 → li_T l Z YX12_talk d 122 [(3, .int x26), (2, .int x11), (1, .int x12), (0, .ref (Z.2.2 175))] [] M27 (fun r M' => (∃ x : Int32, r = some (.int x) ∧ (x.toInt = 0)) ∧ li_fs (fun i k => i = 181 ∨ i = 187 ∨ i = 1000 ∨ (i = 175 ∧ k = 10) ∨ (i = 175 ∧ k = 12) ∨ (i = 175 ∧ k = 13) ∨ (i = 175 ∧ k = 14) ∨ (i = 175 ∧ k = 15) ∨ (i = 175 ∧ k = 28) ∨ (i = 175 ∧ k = 7) ∨ (i = 175 ∧ k = 9)) M0 M' ∧ li_J M') := by
            intro n
            induction n with
            | zero => intro x26 M27 hn; exact absurd hn (Nat.not_lt_zero _)
            | succ n ih122 =>
              intro x26 M27 hn hf hJ hiZq
              have gx26 := tl_rg x26
              have rM27_7 := J_sl7 (M := M27) hJ
              have rM27_9 := J_sl9 (M := M27) hJ
              have rM27_12 := J_sl12 (M := M27) hJ
              have rM27_13 := J_sl13 (M := M27) hJ
              have rM27_14 := J_sl14 (M := M27) hJ
              have rM27_15 := J_sl15 (M := M27) hJ
              refine li_iload_n 0 dX12_talk_122 rfl ?_
              refine li_iload_n 2 dX12_talk_123 rfl ?_
              refine li_icmp_ge 178 dX12_talk_124 (by decide) (fun c28Zq => ?_) (fun c28Zq => ?_)
              · have tc28 : x12.toInt ≤ x26.toInt := tl_le c28Zq
                refine li_iload_n 0 dX12_talk_178 rfl ?_
                have J190 : ∀  (M30 : li_M), li_fs (fun i k => i = 181 ∨ i = 187 ∨ i = 1000 ∨ (i = 175 ∧ k = 10) ∨ (i = 175 ∧ k = 12) ∨ (i = 175 ∧ k = 13) ∨ (i = 175 ∧ k = 14) ∨ (i = 175 ∧ k = 15) ∨ (i = 175 ∧ k = 28) ∨ (i = 175 ∧ k = 7) ∨ (i = 175 ∧ k = 9)) M0 M30 → li_J M30 → li_T l Z YX12_talk d 190 [(3, .int x26), (2, .int x11), (1, .int x12), (0, .ref (Z.2.2 175))] [] M30 (fun r M' => (∃ x : Int32, r = some (.int x) ∧ (x.toInt = 0)) ∧ li_fs (fun i k => i = 181 ∨ i = 187 ∨ i = 1000 ∨ (i = 175 ∧ k = 10) ∨ (i = 175 ∧ k = 12) ∨ (i = 175 ∧ k = 13) ∨ (i = 175 ∧ k = 14) ∨ (i = 175 ∧ k = 15) ∨ (i = 175 ∧ k = 28) ∨ (i = 175 ∧ k = 7) ∨ (i = 175 ∧ k = 9)) M0 M' ∧ li_J M') := by
                  intro  M30 hf hJ
                  have rM30_7 := J_sl7 (M := M30) hJ
                  have rM30_9 := J_sl9 (M := M30) hJ
                  have rM30_12 := J_sl12 (M := M30) hJ
                  have rM30_13 := J_sl13 (M := M30) hJ
                  have rM30_14 := J_sl14 (M := M30) hJ
                  have rM30_15 := J_sl15 (M := M30) hJ
                  refine li_aload_n 3 dX12_talk_190 rfl ?_
                  refine li_iconst 0 dX12_talk_191 (by decide) ?_
                  refine li_puti (k := 9) (N := 52) (T := TX12) (C0 := RX12) dX12_talk_192 (by decide) sh_175 rfl rfl (by decide) li_in12 tyX12_ok nmX12 rfl rfl rfl rfl w_1413 ?_
                  refine li_nm (fun M31 eM31 => ?_)
                  have hf := li_fs_ui hf (Or.inr (Or.inr (Or.inr (Or.inr (Or.inr (Or.inr (Or.inr (Or.inr (Or.inr (Or.inr (⟨rfl, rfl⟩))))))))))) eM31
                  have z0 : (0 : Int32).toInt = 0 := rfl
                  have hJ := J_pt9 hJ (show 0 ≤ (0 : Int32).toInt ∧ (0 : Int32).toInt ≤ 20 by omega) eM31
                  have rM31_7 := J_sl7 (M := M31) hJ
                  have rM31_9 := J_sl9 (M := M31) hJ
                  have rM31_12 := J_sl12 (M := M31) hJ
                  have rM31_13 := J_sl13 (M := M31) hJ
                  have rM31_14 := J_sl14 (M := M31) hJ
                  have rM31_15 := J_sl15 (M := M31) hJ
                  have mM31_7 : (M31.1 175 7).toInt = (M30.1 175 7).toInt := by rw [eM31, li_ui_at, if_pos rfl, if_neg (by decide)]
                  have mM31_9 : (M31.1 175 9).toInt = 0 := by rw [eM31, li_ui_at, if_pos rfl, if_pos rfl]; rfl
                  have mM31_12 : (M31.1 175 12).toInt = (M30.1 175 12).toInt := by rw [eM31, li_ui_at, if_pos rfl, if_neg (by decide)]
                  have mM31_13 : (M31.1 175 13).toInt = (M30.1 175 13).toInt := by rw [eM31, li_ui_at, if_pos rfl, if_neg (by decide)]
                  have mM31_14 : (M31.1 175 14).toInt = (M30.1 175 14).toInt := by rw [eM31, li_ui_at, if_pos rfl, if_neg (by decide)]
                  have mM31_15 : (M31.1 175 15).toInt = (M30.1 175 15).toInt := by rw [eM31, li_ui_at, if_pos rfl, if_neg (by decide)]
                  refine li_aload_n 3 dX12_talk_195 rfl ?_
                  refine li_iload_n 0 dX12_talk_196 rfl ?_
                  refine li_iload_n 2 dX12_talk_197 rfl ?_
                  have J206 : ∀ (x33 : Int32) (M34 : li_M), li_fs (fun i k => i = 181 ∨ i = 187 ∨ i = 1000 ∨ (i = 175 ∧ k = 10) ∨ (i = 175 ∧ k = 12) ∨ (i = 175 ∧ k = 13) ∨ (i = 175 ∧ k = 14) ∨ (i = 175 ∧ k = 15) ∨ (i = 175 ∧ k = 28) ∨ (i = 175 ∧ k = 7) ∨ (i = 175 ∧ k = 9)) M0 M34 → li_J M34 → (M34.1 175 9).toInt = 0 → li_T l Z YX12_talk d 206 [(3, .int x26), (2, .int x11), (1, .int x12), (0, .ref (Z.2.2 175))] [.int x33, .ref (Z.2.2 175)] M34 (fun r M' => (∃ x : Int32, r = some (.int x) ∧ (x.toInt = 0)) ∧ li_fs (fun i k => i = 181 ∨ i = 187 ∨ i = 1000 ∨ (i = 175 ∧ k = 10) ∨ (i = 175 ∧ k = 12) ∨ (i = 175 ∧ k = 13) ∨ (i = 175 ∧ k = 14) ∨ (i = 175 ∧ k = 15) ∨ (i = 175 ∧ k = 28) ∨ (i = 175 ∧ k = 7) ∨ (i = 175 ∧ k = 9)) M0 M' ∧ li_J M') := by
                    intro x33 M34 hf hJ hiZq
                    have gx33 := tl_rg x33
                    have rM34_7 := J_sl7 (M := M34) hJ
                    have rM34_9 := J_sl9 (M := M34) hJ
                    have rM34_12 := J_sl12 (M := M34) hJ
                    have rM34_13 := J_sl13 (M := M34) hJ
                    have rM34_14 := J_sl14 (M := M34) hJ
                    have rM34_15 := J_sl15 (M := M34) hJ
                    refine li_callV (n := 1) (As := [.int x33]) dX12_talk_206 (k_X12_tell (d - 1) (by omega) x33 M34 hJ (by omega)) (by omega) (Nat.le_of_ble_eq_true rfl) w_1787 w_1789 w_77 w_112 w_1790 (by decide +kernel) rfl (by decide) sh_175 rfl rfl (Nat.le_of_ble_eq_true rfl) (fun r M36 h37 => ?_)
                    obtain ⟨rfl, h37, jM36, nM36⟩ := h37
                    have hf := li_fs_trans hf h37 (fun i k => fun hZq => Or.elim hZq (fun hZq => Or.inl hZq) (fun hZq => Or.inr (Or.inr (Or.inr (Or.inr (Or.inr (Or.inr (Or.inr (Or.inr (Or.inr (Or.inr hZq)))))))))))
                    have hJ := jM36
                    have rM36_7 := J_sl7 (M := M36) hJ
                    have rM36_9 := J_sl9 (M := M36) hJ
                    have rM36_12 := J_sl12 (M := M36) hJ
                    have rM36_13 := J_sl13 (M := M36) hJ
                    have rM36_14 := J_sl14 (M := M36) hJ
                    have rM36_15 := J_sl15 (M := M36) hJ
                    have mM36_7 : (M36.1 175 7).toInt = (M34.1 175 7).toInt := tl_slot (h37.1 175 7 (show ¬ (175 = 181 ∨ (175 = 175 ∧ 7 = 9)) by decide))
                    have mM36_12 : (M36.1 175 12).toInt = (M34.1 175 12).toInt := tl_slot (h37.1 175 12 (show ¬ (175 = 181 ∨ (175 = 175 ∧ 12 = 9)) by decide))
                    have mM36_13 : (M36.1 175 13).toInt = (M34.1 175 13).toInt := tl_slot (h37.1 175 13 (show ¬ (175 = 181 ∨ (175 = 175 ∧ 13 = 9)) by decide))
                    have mM36_14 : (M36.1 175 14).toInt = (M34.1 175 14).toInt := tl_slot (h37.1 175 14 (show ¬ (175 = 181 ∨ (175 = 175 ∧ 14 = 9)) by decide))
                    have mM36_15 : (M36.1 175 15).toInt = (M34.1 175 15).toInt := tl_slot (h37.1 175 15 (show ¬ (175 = 181 ∨ (175 = 175 ∧ 15 = 9)) by decide))
                    refine li_aload_n 3 dX12_talk_209 rfl ?_
                    refine li_aload_n 3 dX12_talk_210 rfl ?_
                    refine li_geti (k := 28) (N := 52) (T := TX12) (C0 := RX12) dX12_talk_211 (by decide) sh_175 rfl rfl (by decide) li_in12 w_1432 ?_
                    refine li_top (fun x38 ex38 => ?_)
                    have gx38 := tl_rg x38
                    have mx38 : x38.toInt = (M36.1 175 28).toInt := tl_slot ex38
                    refine li_callV (n := 1) (As := [.int x38]) dX12_talk_214 (k_X12_tell (d - 1) (by omega) x38 M36 hJ (by omega)) (by omega) (Nat.le_of_ble_eq_true rfl) w_1787 w_1789 w_77 w_112 w_1790 (by decide +kernel) rfl (by decide) sh_175 rfl rfl (Nat.le_of_ble_eq_true rfl) (fun r M40 h41 => ?_)
                    obtain ⟨rfl, h41, jM40, nM40⟩ := h41
                    have hf := li_fs_trans hf h41 (fun i k => fun hZq => Or.elim hZq (fun hZq => Or.inl hZq) (fun hZq => Or.inr (Or.inr (Or.inr (Or.inr (Or.inr (Or.inr (Or.inr (Or.inr (Or.inr (Or.inr hZq)))))))))))
                    have hJ := jM40
                    have rM40_7 := J_sl7 (M := M40) hJ
                    have rM40_9 := J_sl9 (M := M40) hJ
                    have rM40_12 := J_sl12 (M := M40) hJ
                    have rM40_13 := J_sl13 (M := M40) hJ
                    have rM40_14 := J_sl14 (M := M40) hJ
                    have rM40_15 := J_sl15 (M := M40) hJ
                    have mM40_7 : (M40.1 175 7).toInt = (M36.1 175 7).toInt := tl_slot (h41.1 175 7 (show ¬ (175 = 181 ∨ (175 = 175 ∧ 7 = 9)) by decide))
                    have mM40_12 : (M40.1 175 12).toInt = (M36.1 175 12).toInt := tl_slot (h41.1 175 12 (show ¬ (175 = 181 ∨ (175 = 175 ∧ 12 = 9)) by decide))
                    have mM40_13 : (M40.1 175 13).toInt = (M36.1 175 13).toInt := tl_slot (h41.1 175 13 (show ¬ (175 = 181 ∨ (175 = 175 ∧ 13 = 9)) by decide))
                    have mM40_14 : (M40.1 175 14).toInt = (M36.1 175 14).toInt := tl_slot (h41.1 175 14 (show ¬ (175 = 181 ∨ (175 = 175 ∧ 14 = 9)) by decide))
                    have mM40_15 : (M40.1 175 15).toInt = (M36.1 175 15).toInt := tl_slot (h41.1 175 15 (show ¬ (175 = 181 ∨ (175 = 175 ∧ 15 = 9)) by decide))
                    refine li_iload_n 0 dX12_talk_217 rfl ?_
                    exact li_iret dX12_talk_218 rfl rfl ⟨⟨_, rfl, (by first | omega | (intro _; omega) | (refine ⟨?_, ?_⟩ <;> first | omega | (intro _; omega)) | (refine ⟨?_, ?_, ?_, ?_⟩ <;> first | omega | (intro _; omega)))⟩, hf, hJ⟩
                  refine li_icmp_ge 205 dX12_talk_198 (by decide) (fun c32Zq => ?_) (fun c32Zq => ?_)
                  · have tc32 : x12.toInt ≤ x26.toInt := tl_le c32Zq
                    refine li_iconst 0 dX12_talk_205 (by decide) ?_
                    refine li_pick [0, 1, 2, 3] [(3, .int x26), (2, .int x11), (1, .int x12), (0, .ref (Z.2.2 175))] rfl ?_
                    have z0 : (0 : Int32).toInt = 0 := rfl
                    exact J206 0 M31 hf hJ (by omega)
                  · have tc32 : x26.toInt < x12.toInt := tl_nle c32Zq
                    refine li_iconst 1 dX12_talk_201 (by decide) ?_
                    refine li_goto 206 dX12_talk_202 (by decide) ?_
                    refine li_pick [0, 1, 2, 3] [(3, .int x26), (2, .int x11), (1, .int x12), (0, .ref (Z.2.2 175))] rfl ?_
                    have z1 : (1 : Int32).toInt = 1 := rfl
                    exact J206 1 M31 hf hJ (by omega)
                refine li_if_le 190 dX12_talk_179 (by decide) (fun c29Zq => ?_) (fun c29Zq => ?_)
                · have tc29 : x26.toInt ≤ 0 := tl_le c29Zq
                  refine li_pick [0, 1, 2, 3] [(3, .int x26), (2, .int x11), (1, .int x12), (0, .ref (Z.2.2 175))] rfl ?_
                  exact J190  M27 hf hJ
                · have tc29 : 0 < x26.toInt := tl_nle c29Zq
                  exfalso; omega
              · have tc28 : x26.toInt < x12.toInt := tl_nle c28Zq
                exfalso; omega
          have z0 : (0 : Int32).toInt = 0 := rfl
          exact L122 _ 0 M25 (Nat.lt_succ_self _) hf hJ (by omega)
        · exfalso; omega
      refine li_icmp_ge 89 dX12_talk_78 (by decide) (fun c16 => ?_) (fun c16 => ?_)
      · have tc16 : x15.toInt ≤ x14.toInt := tl_le c16
        refine li_pick [0, 1, 2] [(2, .int x11), (1, .int x12), (0, .ref (Z.2.2 175))] rfl ?_
        exact J89  M13 hf hJ (by omega)
      · have tc16 : x14.toInt < x15.toInt := tl_nle c16
        exfalso; omega
    have L39 : ∀ (n : Nat) (x42 : Int32) (x43 : Int32) (M44 : li_M), ((x43 : Int32).toInt).toNat < n → li_fs (fun i k => i = 181 ∨ i = 187 ∨ i = 1000 ∨ (i = 175 ∧ k = 10) ∨ (i = 175 ∧ k = 12) ∨ (i = 175 ∧ k = 13) ∨ (i = 175 ∧ k = 14) ∨ (i = 175 ∧ k = 15) ∨ (i = 175 ∧ k = 28) ∨ (i = 175 ∧ k = 7) ∨ (i = 175 ∧ k = 9)) M0 M44 → li_J M44 → (x42 : Int32).toInt = 0 ∧ (x43 : Int32).toInt = 0 ∧ (M44.1 175 14).toInt = 0 ∧ (M44.1 175 15).toInt = -1 ∧ (M44.1 175 12).toInt = 0 → li_T l Z YX12_talk d 39 [(2, .int x42), (1, .int x43), (0, .ref (Z.2.2 175))] [] M44 (fun r M' => (∃ x : Int32, r = some (.int x) ∧ (x.toInt = 0)) ∧ li_fs (fun i k => i = 181 ∨ i = 187 ∨ i = 1000 ∨ (i = 175 ∧ k = 10) ∨ (i = 175 ∧ k = 12) ∨ (i = 175 ∧ k = 13) ∨ (i = 175 ∧ k = 14) ∨ (i = 175 ∧ k = 15) ∨ (i = 175 ∧ k = 28) ∨ (i = 175 ∧ k = 7) ∨ (i = 175 ∧ k = 9)) M0 M' ∧ li_J M') := by
      intro n
      induction n with
      | zero => intro x42 x43 M44 hn; exact absurd hn (Nat.not_lt_zero _)
      | succ n ih39 =>
        intro x42 x43 M44 hn hf hJ hiZq
        have gx42 := tl_rg x42
        have gx43 := tl_rg x43
        have rM44_7 := J_sl7 (M := M44) hJ
        have rM44_9 := J_sl9 (M := M44) hJ
        have rM44_12 := J_sl12 (M := M44) hJ
        have rM44_13 := J_sl13 (M := M44) hJ
        have rM44_14 := J_sl14 (M := M44) hJ
        have rM44_15 := J_sl15 (M := M44) hJ
        refine li_iload_n 0 dX12_talk_39 rfl ?_
        refine li_if_eq 70 dX12_talk_40 (by decide) (fun c45 => ?_) (fun c45 => ?_)
        · have tc45 : x42.toInt = 0 := tl_eq c45
          refine li_pick [0, 1, 2] [(2, .int x42), (1, .int x43), (0, .ref (Z.2.2 175))] rfl ?_
          exact J70 x42 x43 M44 hf hJ (by omega)
        · have tc45 : ¬ x42.toInt = 0 := tl_ne c45
          exfalso; omega
    have z0 : (0 : Int32).toInt = 0 := rfl
    exact L39 _ x9 0 M10 (Nat.lt_succ_self _) hf hJ (by omega)
  refine li_if_le 37 dX12_talk_30 (by decide) (fun c8Zq => ?_) (fun c8Zq => ?_)
  · have tc8 : x7.toInt ≤ 0 := tl_le c8Zq
    refine li_iconst 0 dX12_talk_37 (by decide) ?_
    refine li_pick [0, 1] [(1, .int 0), (0, .ref (Z.2.2 175))] rfl ?_
    have z0 : (0 : Int32).toInt = 0 := rfl
    exact J38 0 M6Zq hf hJ (by omega)
  · have tc8 : 0 < x7.toInt := tl_nle c8Zq
    refine li_iconst 1 dX12_talk_33 (by decide) ?_
    refine li_goto 38 dX12_talk_34 (by decide) ?_
    refine li_pick [0, 1] [(1, .int 0), (0, .ref (Z.2.2 175))] rfl ?_
    have z1 : (1 : Int32).toInt = 1 := rfl
    exact J38 1 M6Zq hf hJ (by omega)
set_option maxRecDepth 100000 in
set_option maxHeartbeats 4000000 in
theorem k15_X12_grammar {l : Launch} {Z : li_Z} (d : Nat) (hdZq : 2 ≤ d) (M0 : li_M) (hJ : li_J M0) (z7 : (M0.1 175 7).toInt = 0) : li_Met l Z YX12_grammar d [.ref (Z.2.2 175)] M0 (fun r M' => (∃ x : Int32, r = some (.int x) ∧ (x.toInt = 0)) ∧ li_fs (fun i k => i = 1000 ∨ (i = 175 ∧ k = 10) ∨ (i = 175 ∧ k = 12) ∨ (i = 175 ∧ k = 13) ∨ (i = 175 ∧ k = 14) ∨ (i = 175 ∧ k = 15) ∨ (i = 175 ∧ k = 38) ∨ (i = 175 ∧ k = 7)) M0 M' ∧ li_J M') := by
  refine li_enter (by decide +kernel) (Nat.le_of_ble_eq_true rfl) ?_
  show li_T l Z YX12_grammar d 0 [(0, .ref (Z.2.2 175))] [] M0 _
  have hf : li_fs (fun i k => i = 1000 ∨ (i = 175 ∧ k = 10) ∨ (i = 175 ∧ k = 12) ∨ (i = 175 ∧ k = 13) ∨ (i = 175 ∧ k = 14) ∨ (i = 175 ∧ k = 15) ∨ (i = 175 ∧ k = 38) ∨ (i = 175 ∧ k = 7)) M0 M0 := li_fs_refl
  have rM0_7 := J_sl7 (M := M0) hJ
  have rM0_12 := J_sl12 (M := M0) hJ
  have rM0_13 := J_sl13 (M := M0) hJ
  have rM0_14 := J_sl14 (M := M0) hJ
  have rM0_15 := J_sl15 (M := M0) hJ
  refine li_aload_n 0 dX12_grammar_0 rfl ?_
  refine li_iconst 0 dX12_grammar_1 (by decide) ?_
  refine li_puti (k := 10) (N := 52) (T := TX12) (C0 := RX12) dX12_grammar_2 (by decide) sh_175 rfl rfl (by decide) li_in12 tyX12_ok nmX12 rfl rfl rfl rfl w_1414 ?_
  refine li_nm (fun M1Zq eM1 => ?_)
  have hf := li_fs_ui hf (Or.inr (Or.inl ⟨rfl, rfl⟩)) eM1
  have z0 : (0 : Int32).toInt = 0 := rfl
  have hJ := hJ.put (k := 10) (by decide) (rg_free rfl) eM1
  have rM1_7 := J_sl7 (M := M1Zq) hJ
  have rM1_12 := J_sl12 (M := M1Zq) hJ
  have rM1_13 := J_sl13 (M := M1Zq) hJ
  have rM1_14 := J_sl14 (M := M1Zq) hJ
  have rM1_15 := J_sl15 (M := M1Zq) hJ
  have mM1_7 : (M1Zq.1 175 7).toInt = (M0.1 175 7).toInt := by rw [eM1, li_ui_at, if_pos rfl, if_neg (by decide)]
  have mM1_12 : (M1Zq.1 175 12).toInt = (M0.1 175 12).toInt := by rw [eM1, li_ui_at, if_pos rfl, if_neg (by decide)]
  have mM1_13 : (M1Zq.1 175 13).toInt = (M0.1 175 13).toInt := by rw [eM1, li_ui_at, if_pos rfl, if_neg (by decide)]
  have mM1_14 : (M1Zq.1 175 14).toInt = (M0.1 175 14).toInt := by rw [eM1, li_ui_at, if_pos rfl, if_neg (by decide)]
  have mM1_15 : (M1Zq.1 175 15).toInt = (M0.1 175 15).toInt := by rw [eM1, li_ui_at, if_pos rfl, if_neg (by decide)]
  refine li_aload_n 0 dX12_grammar_5 rfl ?_
  refine li_aload_n 0 dX12_grammar_6 rfl ?_
  refine li_getr (k := 6) (N := 52) (T := TX12) (C0 := RX12) dX12_grammar_7 (by decide) sh_175 rfl rfl (by decide) (by decide) li_in12 w_1410 ?_
  refine li_aload_n 0 dX12_grammar_10 rfl ?_
  refine li_geti (k := 7) (N := 52) (T := TX12) (C0 := RX12) dX12_grammar_11 (by decide) sh_175 rfl rfl (by decide) li_in12 w_1411 ?_
  refine li_top (fun x2Zq ex2Zq => ?_)
  have gx2 : 0 ≤ x2Zq.toInt ∧ x2Zq.toInt ≤ 80 := by rw [ex2Zq]; exact J_sl7 hJ
  have mx2 : x2Zq.toInt = (M1Zq.1 175 7).toInt := tl_slot ex2Zq
  refine li_bipush 80 dX12_grammar_14 (by decide) ?_
  have z80 : (80 : Int32).toInt = 80 := rfl
  refine li_callV (n := 3) (As := [.ref (Z.2.2 180), .int x2Zq, .int 80]) dX12_grammar_16 (k_X12_begin (d - 1) (by unfold li_rq; omega) x2Zq 80 M1Zq hJ (show 0 ≤ (x2Zq : Int32).toInt ∧ (x2Zq : Int32).toInt ≤ (li_qn 180 : Int) by have := li_qn_fix; omega) (by omega)) (by omega) (Nat.le_of_ble_eq_true rfl) w_1581 w_1583 w_42 w_112 w_1584 (by decide +kernel) rfl (by decide) sh_175 rfl rfl (Nat.le_of_ble_eq_true rfl) (fun r M4Zq h5 => ?_)
  obtain ⟨rfl, h5, jM4, nM4⟩ := h5
  have hf := li_fs_trans hf h5 (fun i k => fun hZq => Or.elim hZq (fun hZq => Or.inr (Or.inr (Or.inl hZq))) (fun hZq => Or.elim hZq (fun hZq => Or.inr (Or.inr (Or.inr (Or.inl hZq)))) (fun hZq => Or.elim hZq (fun hZq => Or.inr (Or.inr (Or.inr (Or.inr (Or.inl hZq))))) (fun hZq => Or.elim hZq (fun hZq => Or.inr (Or.inr (Or.inr (Or.inr (Or.inr (Or.inl hZq)))))) (fun hZq => Or.inl hZq)))))
  have hJ := jM4
  have rM4_7 := J_sl7 (M := M4Zq) hJ
  have rM4_12 := J_sl12 (M := M4Zq) hJ
  have rM4_13 := J_sl13 (M := M4Zq) hJ
  have rM4_14 := J_sl14 (M := M4Zq) hJ
  have rM4_15 := J_sl15 (M := M4Zq) hJ
  have mM4_7 : (M4Zq.1 175 7).toInt = (M1Zq.1 175 7).toInt := tl_slot (h5.1 175 7 (show ¬ ((175 = 175 ∧ 7 = 12) ∨ (175 = 175 ∧ 7 = 13) ∨ (175 = 175 ∧ 7 = 14) ∨ (175 = 175 ∧ 7 = 15) ∨ 175 = 1000) by decide))
  refine li_aload_n 0 dX12_grammar_19 rfl ?_
  refine li_iconst 0 dX12_grammar_20 (by decide) ?_
  refine li_puti (k := 7) (N := 52) (T := TX12) (C0 := RX12) dX12_grammar_21 (by decide) sh_175 rfl rfl (by decide) li_in12 tyX12_ok nmX12 rfl rfl rfl rfl w_1411 ?_
  refine li_nm (fun M6Zq eM6 => ?_)
  have hf := li_fs_ui hf (Or.inr (Or.inr (Or.inr (Or.inr (Or.inr (Or.inr (Or.inr (⟨rfl, rfl⟩)))))))) eM6
  have z0 : (0 : Int32).toInt = 0 := rfl
  have hJ := J_pt7 hJ (show 0 ≤ (0 : Int32).toInt ∧ (0 : Int32).toInt ≤ 80 by omega) eM6
  have rM6_7 := J_sl7 (M := M6Zq) hJ
  have rM6_12 := J_sl12 (M := M6Zq) hJ
  have rM6_13 := J_sl13 (M := M6Zq) hJ
  have rM6_14 := J_sl14 (M := M6Zq) hJ
  have rM6_15 := J_sl15 (M := M6Zq) hJ
  have mM6_7 : (M6Zq.1 175 7).toInt = 0 := by rw [eM6, li_ui_at, if_pos rfl, if_pos rfl]; rfl
  have mM6_12 : (M6Zq.1 175 12).toInt = (M4Zq.1 175 12).toInt := by rw [eM6, li_ui_at, if_pos rfl, if_neg (by decide)]
  have mM6_13 : (M6Zq.1 175 13).toInt = (M4Zq.1 175 13).toInt := by rw [eM6, li_ui_at, if_pos rfl, if_neg (by decide)]
  have mM6_14 : (M6Zq.1 175 14).toInt = (M4Zq.1 175 14).toInt := by rw [eM6, li_ui_at, if_pos rfl, if_neg (by decide)]
  have mM6_15 : (M6Zq.1 175 15).toInt = (M4Zq.1 175 15).toInt := by rw [eM6, li_ui_at, if_pos rfl, if_neg (by decide)]
  refine li_iconst 0 dX12_grammar_24 (by decide) ?_
  refine li_istore_n [(1, .int 0), (0, .ref (Z.2.2 175))] dX12_grammar_25 (by decide) rfl ?_
  refine li_aload_n 1 dX12_grammar_26 rfl ?_
  refine li_geti (k := 12) (N := 52) (T := TX12) (C0 := RX12) dX12_grammar_27 (by decide) sh_175 rfl rfl (by decide) li_in12 w_1416 ?_
  refine li_top (fun x7 ex7 => ?_)
  have gx7 : 0 ≤ x7.toInt ∧ x7.toInt ≤ 80 := by rw [ex7]; exact J_sl12 hJ
  have mx7 : x7.toInt = (M6Zq.1 175 12).toInt := tl_slot ex7
  have J38 : ∀ (x9 : Int32) (M10 : li_M), li_fs (fun i k => i = 1000 ∨ (i = 175 ∧ k = 10) ∨ (i = 175 ∧ k = 12) ∨ (i = 175 ∧ k = 13) ∨ (i = 175 ∧ k = 14) ∨ (i = 175 ∧ k = 15) ∨ (i = 175 ∧ k = 38) ∨ (i = 175 ∧ k = 7)) M0 M10 → li_J M10 → (x9 : Int32).toInt = 0 ∧ (M10.1 175 14).toInt = 0 ∧ (M10.1 175 15).toInt = -1 ∧ (M10.1 175 12).toInt = 0 → li_T l Z YX12_grammar d 38 [(1, .int 0), (0, .ref (Z.2.2 175))] [.int x9] M10 (fun r M' => (∃ x : Int32, r = some (.int x) ∧ (x.toInt = 0)) ∧ li_fs (fun i k => i = 1000 ∨ (i = 175 ∧ k = 10) ∨ (i = 175 ∧ k = 12) ∨ (i = 175 ∧ k = 13) ∨ (i = 175 ∧ k = 14) ∨ (i = 175 ∧ k = 15) ∨ (i = 175 ∧ k = 38) ∨ (i = 175 ∧ k = 7)) M0 M' ∧ li_J M') := by
    intro x9 M10 hf hJ hiZq
    have gx9 := tl_rg x9
    have rM10_7 := J_sl7 (M := M10) hJ
    have rM10_12 := J_sl12 (M := M10) hJ
    have rM10_13 := J_sl13 (M := M10) hJ
    have rM10_14 := J_sl14 (M := M10) hJ
    have rM10_15 := J_sl15 (M := M10) hJ
    refine li_istore_n [(2, .int x9), (1, .int 0), (0, .ref (Z.2.2 175))] dX12_grammar_38 (by decide) rfl ?_
    have J141 : ∀ (x11 : Int32) (x12 : Int32) (M13 : li_M), li_fs (fun i k => i = 1000 ∨ (i = 175 ∧ k = 10) ∨ (i = 175 ∧ k = 12) ∨ (i = 175 ∧ k = 13) ∨ (i = 175 ∧ k = 14) ∨ (i = 175 ∧ k = 15) ∨ (i = 175 ∧ k = 38) ∨ (i = 175 ∧ k = 7)) M0 M13 → li_J M13 → (x12 : Int32).toInt = 0 ∧ (M13.1 175 14).toInt = 0 ∧ (M13.1 175 15).toInt = -1 ∧ (M13.1 175 12).toInt = 0 → li_T l Z YX12_grammar d 141 [(2, .int x11), (1, .int x12), (0, .ref (Z.2.2 175))] [] M13 (fun r M' => (∃ x : Int32, r = some (.int x) ∧ (x.toInt = 0)) ∧ li_fs (fun i k => i = 1000 ∨ (i = 175 ∧ k = 10) ∨ (i = 175 ∧ k = 12) ∨ (i = 175 ∧ k = 13) ∨ (i = 175 ∧ k = 14) ∨ (i = 175 ∧ k = 15) ∨ (i = 175 ∧ k = 38) ∨ (i = 175 ∧ k = 7)) M0 M' ∧ li_J M') := by
      intro x11 x12 M13 hf hJ hiZq
      have gx11 := tl_rg x11
      have gx12 := tl_rg x12
      have rM13_7 := J_sl7 (M := M13) hJ
      have rM13_12 := J_sl12 (M := M13) hJ
      have rM13_13 := J_sl13 (M := M13) hJ
      have rM13_14 := J_sl14 (M := M13) hJ
      have rM13_15 := J_sl15 (M := M13) hJ
      refine li_aload_n 2 dX12_grammar_141 rfl ?_
      refine li_geti (k := 14) (N := 52) (T := TX12) (C0 := RX12) dX12_grammar_142 (by decide) sh_175 rfl rfl (by decide) li_in12 w_1418 ?_
      refine li_top (fun x14 ex14 => ?_)
      have gx14 : 0 ≤ x14.toInt ∧ x14.toInt ≤ 81 := by rw [ex14]; exact J_sl14 hJ
      have mx14 : x14.toInt = (M13.1 175 14).toInt := tl_slot ex14
      refine li_aload_n 2 dX12_grammar_145 rfl ?_
      refine li_geti (k := 12) (N := 52) (T := TX12) (C0 := RX12) dX12_grammar_146 (by decide) sh_175 rfl rfl (by decide) li_in12 w_1416 ?_
      refine li_top (fun x15 ex15 => ?_)
      have gx15 : 0 ≤ x15.toInt ∧ x15.toInt ≤ 80 := by rw [ex15]; exact J_sl12 hJ
      have mx15 : x15.toInt = (M13.1 175 12).toInt := tl_slot ex15
      have J160 : ∀  (M17 : li_M), li_fs (fun i k => i = 1000 ∨ (i = 175 ∧ k = 10) ∨ (i = 175 ∧ k = 12) ∨ (i = 175 ∧ k = 13) ∨ (i = 175 ∧ k = 14) ∨ (i = 175 ∧ k = 15) ∨ (i = 175 ∧ k = 38) ∨ (i = 175 ∧ k = 7)) M0 M17 → li_J M17 → (M17.1 175 15).toInt = -1 → li_T l Z YX12_grammar d 160 [(2, .int x11), (1, .int x12), (0, .ref (Z.2.2 175))] [] M17 (fun r M' => (∃ x : Int32, r = some (.int x) ∧ (x.toInt = 0)) ∧ li_fs (fun i k => i = 1000 ∨ (i = 175 ∧ k = 10) ∨ (i = 175 ∧ k = 12) ∨ (i = 175 ∧ k = 13) ∨ (i = 175 ∧ k = 14) ∨ (i = 175 ∧ k = 15) ∨ (i = 175 ∧ k = 38) ∨ (i = 175 ∧ k = 7)) M0 M' ∧ li_J M') := by
        intro  M17 hf hJ hiZq
        have rM17_7 := J_sl7 (M := M17) hJ
        have rM17_12 := J_sl12 (M := M17) hJ
        have rM17_13 := J_sl13 (M := M17) hJ
        have rM17_14 := J_sl14 (M := M17) hJ
        have rM17_15 := J_sl15 (M := M17) hJ
        refine li_aload_n 2 dX12_grammar_160 rfl ?_
        refine li_callV (n := 0) (As := []) dX12_grammar_161 (k_X12_fine (d - 1) (by omega)  M17 hJ ) (by omega) (Nat.le_of_ble_eq_true rfl) w_1585 w_1587 w_43 w_112 w_1588 (by decide +kernel) rfl (by decide) sh_175 rfl rfl (Nat.le_of_ble_eq_true rfl) (fun r M19 h20 => ?_)
        obtain ⟨qx18, h20, jM19⟩ := h20
        have hf := li_fs_trans hf h20 (fun i k hZq => False.elim hZq)
        have hJ := jM19
        have rM19_7 := J_sl7 (M := M19) hJ
        have rM19_12 := J_sl12 (M := M19) hJ
        have rM19_13 := J_sl13 (M := M19) hJ
        have rM19_14 := J_sl14 (M := M19) hJ
        have rM19_15 := J_sl15 (M := M19) hJ
        have mM19_7 : (M19.1 175 7).toInt = (M17.1 175 7).toInt := tl_slot (h20.1 175 7 id)
        have mM19_12 : (M19.1 175 12).toInt = (M17.1 175 12).toInt := tl_slot (h20.1 175 12 id)
        have mM19_13 : (M19.1 175 13).toInt = (M17.1 175 13).toInt := tl_slot (h20.1 175 13 id)
        have mM19_14 : (M19.1 175 14).toInt = (M17.1 175 14).toInt := tl_slot (h20.1 175 14 id)
        have mM19_15 : (M19.1 175 15).toInt = (M17.1 175 15).toInt := tl_slot (h20.1 175 15 id)
        rcases qx18 with ⟨rfl, qx18⟩ | ⟨rfl, qx18⟩
        · skip
          refine li_if_ne 174 dX12_grammar_164 (by decide) (fun c => ?_) (fun c => absurd c (by decide))
          refine li_iconst 0 dX12_grammar_174 (by decide) ?_
          refine li_istore_n [(3, .int 0), (2, .int x11), (1, .int x12), (0, .ref (Z.2.2 175))] dX12_grammar_175 (by decide) rfl ?_
          have L176 : ∀ (n : Nat) (x22 : Int32) (M23 : li_M), ((x22 : Int32).toInt).toNat < n → li_fs (fun i k => i = 1000 ∨ (i = 175 ∧ k = 10) ∨ (i = 175 ∧ k = 12) ∨ (i = 175 ∧ k = 13) ∨ (i = 175 ∧ k = 14) ∨ (i = 175 ∧ k = 15) ∨ (i = 175 ∧ k = 38) ∨ (i = 175 ∧ k = 7)) M0 M23 → li_J M23 → 0 ≤ (x22 : Int32).toInt ∧ (x12 : Int32).toInt = 0 → li_T l Z YX12_grammar d 176 [(3, .int x22), (2, .int x11), (1, .int x12), (0, .ref (Z.2.2 175))] [] M23 (fun r M' => (∃ x : Int32, r = some (.int x) ∧ (x.toInt = 0)) ∧ li_fs (fun i k => i = 1000 ∨ (i = 175 ∧ k = 10) ∨ (i = 175 ∧ k = 12) ∨ (i = 175 ∧ k = 13) ∨ (i = 175 ∧ k = 14) ∨ (i = 175 ∧ k = 15) ∨ (i = 175 ∧ k = 38) ∨ (i = 175 ∧ k = 7)) M0 M' ∧ li_J M') := by
            intro n
            induction n with
            | zero => intro x22 M23 hn; exact absurd hn (Nat.not_lt_zero _)
            | succ n ih176 =>
              intro x22 M23 hn hf hJ hiZq
              have gx22 := tl_rg x22
              have rM23_7 := J_sl7 (M := M23) hJ
              have rM23_12 := J_sl12 (M := M23) hJ
              have rM23_13 := J_sl13 (M := M23) hJ
              have rM23_14 := J_sl14 (M := M23) hJ
              have rM23_15 := J_sl15 (M := M23) hJ
              refine li_iload_n 0 dX12_grammar_176 rfl ?_
              refine li_iconst 3 dX12_grammar_177 (by decide) ?_
              refine li_iload_n 2 dX12_grammar_178 rfl ?_
              refine li_imul dX12_grammar_179 ?_
              refine li_top (fun x24 ex24 => ?_)
              have z3 : (3 : Int32).toInt = 3 := rfl
              try (have tx24 : x24.toInt = 3 * (x12 : Int32).toInt := tl_mul ex24 (show -2147483648 ≤ 3 * (x12 : Int32).toInt ∧ 3 * (x12 : Int32).toInt ≤ 2147483647 by omega))
              refine li_icmp_ge 201 dX12_grammar_180 (by decide) (fun c25Zq => ?_) (fun c25Zq => ?_)
              · have tc25 : x24.toInt ≤ x22.toInt := tl_le c25Zq
                refine li_aload_n 3 dX12_grammar_201 rfl ?_
                refine li_iload_n 2 dX12_grammar_202 rfl ?_
                refine li_puti (k := 38) (N := 52) (T := TX12) (C0 := RX12) dX12_grammar_203 (by decide) sh_175 rfl rfl (by decide) li_in12 tyX12_ok nmX12 rfl rfl rfl rfl w_1442 ?_
                refine li_nm (fun M26 eM26 => ?_)
                have hf := li_fs_ui hf (Or.inr (Or.inr (Or.inr (Or.inr (Or.inr (Or.inr (Or.inl ⟨rfl, rfl⟩))))))) eM26
                have hJ := J_pt38 hJ (show 0 ≤ (x12 : Int32).toInt ∧ (x12 : Int32).toInt ≤ 10 by omega) eM26
                have rM26_7 := J_sl7 (M := M26) hJ
                have rM26_12 := J_sl12 (M := M26) hJ
                have rM26_13 := J_sl13 (M := M26) hJ
                have rM26_14 := J_sl14 (M := M26) hJ
                have rM26_15 := J_sl15 (M := M26) hJ
                have mM26_7 : (M26.1 175 7).toInt = (M23.1 175 7).toInt := by rw [eM26, li_ui_at, if_pos rfl, if_neg (by decide)]
                have mM26_12 : (M26.1 175 12).toInt = (M23.1 175 12).toInt := by rw [eM26, li_ui_at, if_pos rfl, if_neg (by decide)]
                have mM26_13 : (M26.1 175 13).toInt = (M23.1 175 13).toInt := by rw [eM26, li_ui_at, if_pos rfl, if_neg (by decide)]
                have mM26_14 : (M26.1 175 14).toInt = (M23.1 175 14).toInt := by rw [eM26, li_ui_at, if_pos rfl, if_neg (by decide)]
                have mM26_15 : (M26.1 175 15).toInt = (M23.1 175 15).toInt := by rw [eM26, li_ui_at, if_pos rfl, if_neg (by decide)]
                refine li_iload_n 2 dX12_grammar_206 rfl ?_
                exact li_iret dX12_grammar_207 rfl rfl ⟨⟨_, rfl, (by first | omega | (intro _; omega) | (refine ⟨?_, ?_⟩ <;> first | omega | (intro _; omega)) | (refine ⟨?_, ?_, ?_, ?_⟩ <;> first | omega | (intro _; omega)))⟩, hf, hJ⟩
              · have tc25 : x22.toInt < x24.toInt := tl_nle c25Zq
                exfalso; omega
          have z0 : (0 : Int32).toInt = 0 := rfl
          exact L176 _ 0 M19 (Nat.lt_succ_self _) hf hJ (by omega)
        · exfalso; omega
      refine li_icmp_ge 160 dX12_grammar_149 (by decide) (fun c16 => ?_) (fun c16 => ?_)
      · have tc16 : x15.toInt ≤ x14.toInt := tl_le c16
        refine li_pick [0, 1, 2] [(2, .int x11), (1, .int x12), (0, .ref (Z.2.2 175))] rfl ?_
        exact J160  M13 hf hJ (by omega)
      · have tc16 : x14.toInt < x15.toInt := tl_nle c16
        exfalso; omega
    have L39 : ∀ (n : Nat) (x27 : Int32) (x28 : Int32) (M29 : li_M), ((x28 : Int32).toInt).toNat < n → li_fs (fun i k => i = 1000 ∨ (i = 175 ∧ k = 10) ∨ (i = 175 ∧ k = 12) ∨ (i = 175 ∧ k = 13) ∨ (i = 175 ∧ k = 14) ∨ (i = 175 ∧ k = 15) ∨ (i = 175 ∧ k = 38) ∨ (i = 175 ∧ k = 7)) M0 M29 → li_J M29 → (x27 : Int32).toInt = 0 ∧ (x28 : Int32).toInt = 0 ∧ (M29.1 175 14).toInt = 0 ∧ (M29.1 175 15).toInt = -1 ∧ (M29.1 175 12).toInt = 0 → li_T l Z YX12_grammar d 39 [(2, .int x27), (1, .int x28), (0, .ref (Z.2.2 175))] [] M29 (fun r M' => (∃ x : Int32, r = some (.int x) ∧ (x.toInt = 0)) ∧ li_fs (fun i k => i = 1000 ∨ (i = 175 ∧ k = 10) ∨ (i = 175 ∧ k = 12) ∨ (i = 175 ∧ k = 13) ∨ (i = 175 ∧ k = 14) ∨ (i = 175 ∧ k = 15) ∨ (i = 175 ∧ k = 38) ∨ (i = 175 ∧ k = 7)) M0 M' ∧ li_J M') := by
      intro n
      induction n with
      | zero => intro x27 x28 M29 hn; exact absurd hn (Nat.not_lt_zero _)
      | succ n ih39 =>
        intro x27 x28 M29 hn hf hJ hiZq
        have gx27 := tl_rg x27
        have gx28 := tl_rg x28
        have rM29_7 := J_sl7 (M := M29) hJ
        have rM29_12 := J_sl12 (M := M29) hJ
        have rM29_13 := J_sl13 (M := M29) hJ
        have rM29_14 := J_sl14 (M := M29) hJ
        have rM29_15 := J_sl15 (M := M29) hJ
        refine li_iload_n 0 dX12_grammar_39 rfl ?_
        refine li_if_eq 141 dX12_grammar_40 (by decide) (fun c30Zq => ?_) (fun c30Zq => ?_)
        · have tc30 : x27.toInt = 0 := tl_eq c30Zq
          refine li_pick [0, 1, 2] [(2, .int x27), (1, .int x28), (0, .ref (Z.2.2 175))] rfl ?_
          exact J141 x27 x28 M29 hf hJ (by omega)
        · have tc30 : ¬ x27.toInt = 0 := tl_ne c30Zq
          exfalso; omega
    have z0 : (0 : Int32).toInt = 0 := rfl
    exact L39 _ x9 0 M10 (Nat.lt_succ_self _) hf hJ (by omega)
  refine li_if_le 37 dX12_grammar_30 (by decide) (fun c8Zq => ?_) (fun c8Zq => ?_)
  · have tc8 : x7.toInt ≤ 0 := tl_le c8Zq
    refine li_iconst 0 dX12_grammar_37 (by decide) ?_
    refine li_pick [0, 1] [(1, .int 0), (0, .ref (Z.2.2 175))] rfl ?_
    have z0 : (0 : Int32).toInt = 0 := rfl
    exact J38 0 M6Zq hf hJ (by omega)
  · have tc8 : 0 < x7.toInt := tl_nle c8Zq
    refine li_iconst 1 dX12_grammar_33 (by decide) ?_
    refine li_goto 38 dX12_grammar_34 (by decide) ?_
    refine li_pick [0, 1] [(1, .int 0), (0, .ref (Z.2.2 175))] rfl ?_
    have z1 : (1 : Int32).toInt = 1 := rfl
    exact J38 1 M6Zq hf hJ (by omega)
set_option maxRecDepth 100000 in
set_option maxHeartbeats 4000000 in
theorem k15_X12_again {l : Launch} {Z : li_Z} (d : Nat) (hdZq : 2 ≤ d) (p1Zq : Int32) (M0 : li_M) (hJ : li_J M0) (hk : ∀ i : Nat, (M0.1 202 i).toInt = 0) : li_Met l Z YX12_again d [.ref (Z.2.2 175), .int p1Zq] M0 (fun r M' => ((r = some (.int 1) ∧ False) ∨ (r = some (.int 0) ∧ True)) ∧ li_fs (fun i k => (i = 175 ∧ k = 10)) M0 M' ∧ li_J M') := by
  refine li_enter (by decide +kernel) (Nat.le_of_ble_eq_true rfl) ?_
  show li_T l Z YX12_again d 0 [(0, .ref (Z.2.2 175)), (1, .int p1Zq)] [] M0 _
  have hf : li_fs (fun i k => (i = 175 ∧ k = 10)) M0 M0 := li_fs_refl
  have gp1 := tl_rg p1Zq
  refine li_aload_n 0 dX12_again_0 rfl ?_
  refine li_iconst 0 dX12_again_1 (by decide) ?_
  refine li_puti (k := 10) (N := 52) (T := TX12) (C0 := RX12) dX12_again_2 (by decide) sh_175 rfl rfl (by decide) li_in12 tyX12_ok nmX12 rfl rfl rfl rfl w_1414 ?_
  refine li_nm (fun M1Zq eM1 => ?_)
  have hf := li_fs_ui hf (⟨rfl, rfl⟩) eM1
  have z0 : (0 : Int32).toInt = 0 := rfl
  have hJ := hJ.put (k := 10) (by decide) (rg_free rfl) eM1
  refine li_iload_n 1 dX12_again_5 rfl ?_
  refine li_iconst 0 dX12_again_6 (by decide) ?_
  refine li_iconst 1 dX12_again_7 (by decide) ?_
  have z0 : (0 : Int32).toInt = 0 := rfl
  have z1 : (1 : Int32).toInt = 1 := rfl
  refine li_callS (n := 3) (As := [.int p1Zq, .int 0, .int 1]) dX12_again_8 (k_X12_in (d - 1) (by omega) p1Zq 0 1 M1Zq hJ ) (by omega) (Nat.le_of_ble_eq_true rfl) w_1574 w_1575 w_112 w_1576 (by decide +kernel) rfl rfl (Nat.le_of_ble_eq_true rfl) (fun r M3Zq h4 => ?_)
  obtain ⟨qx2, h4, jM3⟩ := h4
  have hf := li_fs_trans hf h4 (fun i k hZq => False.elim hZq)
  have hJ := jM3
  rcases qx2 with ⟨rfl, qx2⟩ | ⟨rfl, qx2⟩
  · skip
    refine li_if_eq 36 dX12_again_11 (by decide) (fun c => absurd c (by decide)) (fun c => ?_)
    refine li_aload_n 0 dX12_again_14 rfl ?_
    refine li_getr (k := 50) (N := 52) (T := TX12) (C0 := RX12) dX12_again_15 (by decide) sh_175 rfl rfl (by decide) (by decide) li_in12 w_1454 ?_
    refine li_iload_n 1 dX12_again_18 rfl ?_
    refine li_zald dX12_again_19 (by decide) sh_202 (tl_in (by omega)) ?_
    refine li_top (fun x6 ex6 => ?_)
    have gx6 := tl_rg x6
    have bl : x6.toInt = 0 := (tl_slot (ex6.trans (hf.1 202 _ (fun h9 => by omega)))).trans (hk _)
    refine li_if_eq 36 dX12_again_20 (by decide) (fun c7Zq => ?_) (fun c7Zq => ?_)
    · have tc7 : x6.toInt = 0 := tl_eq c7Zq
      refine li_iconst 0 dX12_again_36 (by decide) ?_
      have z0 : (0 : Int32).toInt = 0 := rfl
      exact li_iret dX12_again_37 rfl (li_nz (Or.inl rfl)) ⟨Or.inr ⟨rfl, trivial⟩, hf, hJ⟩
    · have tc7 : ¬ x6.toInt = 0 := tl_ne c7Zq
      exfalso; omega
  · skip
    refine li_if_eq 36 dX12_again_11 (by decide) (fun c => ?_) (fun c => absurd rfl c)
    refine li_iconst 0 dX12_again_36 (by decide) ?_
    have z0 : (0 : Int32).toInt = 0 := rfl
    exact li_iret dX12_again_37 rfl (li_nz (Or.inl rfl)) ⟨Or.inr ⟨rfl, trivial⟩, hf, hJ⟩
set_option maxRecDepth 100000 in
set_option maxHeartbeats 4000000 in
theorem k15_X12_lost {l : Launch} {Z : li_Z} (d : Nat) (hdZq : 1 ≤ d) (M0 : li_M) (hJ : li_J M0) : li_Met l Z YX12_lost d [.ref (Z.2.2 175)] M0 (fun r M' => (∃ x : Int32, r = some (.int x) ∧ (x.toInt = 0)) ∧ li_fs (fun i k => (i = 175 ∧ k = 10)) M0 M' ∧ li_J M' ∧ (M'.1 175 10).toInt = 1) := by
  refine li_enter (by decide +kernel) (Nat.le_of_ble_eq_true rfl) ?_
  show li_T l Z YX12_lost d 0 [(0, .ref (Z.2.2 175))] [] M0 _
  have hf : li_fs (fun i k => (i = 175 ∧ k = 10)) M0 M0 := li_fs_refl
  refine li_aload_n 0 dX12_lost_0 rfl ?_
  refine li_iconst 1 dX12_lost_1 (by decide) ?_
  refine li_puti (k := 10) (N := 52) (T := TX12) (C0 := RX12) dX12_lost_2 (by decide) sh_175 rfl rfl (by decide) li_in12 tyX12_ok nmX12 rfl rfl rfl rfl w_1414 ?_
  refine li_nm (fun M1Zq eM1 => ?_)
  have hf := li_fs_ui hf (⟨rfl, rfl⟩) eM1
  have z1 : (1 : Int32).toInt = 1 := rfl
  have hJ := hJ.put (k := 10) (by decide) (rg_free rfl) eM1
  have mM1_10 : (M1Zq.1 175 10).toInt = 1 := by rw [eM1, li_ui_at, if_pos rfl, if_pos rfl]; rfl
  refine li_iconst 0 dX12_lost_5 (by decide) ?_
  have z0 : (0 : Int32).toInt = 0 := rfl
  exact li_iret dX12_lost_6 rfl rfl ⟨⟨_, rfl, (by first | omega | (intro _; omega) | (refine ⟨?_, ?_⟩ <;> first | omega | (intro _; omega)) | (refine ⟨?_, ?_, ?_, ?_⟩ <;> first | omega | (intro _; omega)))⟩, hf, hJ, (by first | omega | (intro _; omega) | (refine ⟨?_, ?_⟩ <;> first | omega | (intro _; omega)) | (refine ⟨?_, ?_, ?_, ?_⟩ <;> first | omega | (intro _; omega)))⟩
set_option maxRecDepth 100000 in
set_option maxHeartbeats 4000000 in
theorem k15_X12_person {l : Launch} {Z : li_Z} (d : Nat) (hdZq : 3 ≤ d) (p1Zq p2Zq : Int32) (M0 : li_M) (hJ : li_J M0) (z1 : (M0.1 175 1).toInt = 0) : li_Met l Z YX12_person d [.ref (Z.2.2 175), .int p1Zq, .int p2Zq] M0 (fun r M' => (∃ x : Int32, r = some (.int x) ∧ (x.toInt = 0)) ∧ li_fs (fun i k => (i = 175 ∧ k = 10)) M0 M' ∧ li_J M' ∧ (M'.1 175 10).toInt = 1) := by
  refine li_enter (by decide +kernel) (Nat.le_of_ble_eq_true rfl) ?_
  show li_T l Z YX12_person d 0 [(0, .ref (Z.2.2 175)), (1, .int p1Zq), (2, .int p2Zq)] [] M0 _
  have hf : li_fs (fun i k => (i = 175 ∧ k = 10)) M0 M0 := li_fs_refl
  have gp1 := tl_rg p1Zq
  have gp2 := tl_rg p2Zq
  have rM0_1 := J_sl1 (M := M0) hJ
  have rM0_4 := J_sl4 (M := M0) hJ
  refine li_aload_n 0 dX12_person_0 rfl ?_
  refine li_iconst 0 dX12_person_1 (by decide) ?_
  refine li_puti (k := 10) (N := 52) (T := TX12) (C0 := RX12) dX12_person_2 (by decide) sh_175 rfl rfl (by decide) li_in12 tyX12_ok nmX12 rfl rfl rfl rfl w_1414 ?_
  refine li_nm (fun M1Zq eM1 => ?_)
  have hf := li_fs_ui hf (⟨rfl, rfl⟩) eM1
  have z0 : (0 : Int32).toInt = 0 := rfl
  have hJ := hJ.put (k := 10) (by decide) (rg_free rfl) eM1
  have rM1_1 := J_sl1 (M := M1Zq) hJ
  have rM1_4 := J_sl4 (M := M1Zq) hJ
  have mM1_1 : (M1Zq.1 175 1).toInt = (M0.1 175 1).toInt := by rw [eM1, li_ui_at, if_pos rfl, if_neg (by decide)]
  have mM1_4 : (M1Zq.1 175 4).toInt = (M0.1 175 4).toInt := by rw [eM1, li_ui_at, if_pos rfl, if_neg (by decide)]
  have mM1_10 : (M1Zq.1 175 10).toInt = 0 := by rw [eM1, li_ui_at, if_pos rfl, if_pos rfl]; rfl
  refine li_aload_n 0 dX12_person_5 rfl ?_
  refine li_iload_n 1 dX12_person_6 rfl ?_
  refine li_callV (n := 1) (As := [.int p1Zq]) dX12_person_7 (k_X12_isOne (d - 1) (by omega) p1Zq M1Zq hJ ) (by omega) (Nat.le_of_ble_eq_true rfl) w_1652 w_1654 w_56 w_112 w_1655 (by decide +kernel) rfl (by decide) sh_175 rfl rfl (Nat.le_of_ble_eq_true rfl) (fun r M3Zq h4 => ?_)
  obtain ⟨qx2, h4, jM3⟩ := h4
  have hf := li_fs_trans hf h4 (fun i k hZq => False.elim hZq)
  have hJ := jM3
  have rM3_1 := J_sl1 (M := M3Zq) hJ
  have rM3_4 := J_sl4 (M := M3Zq) hJ
  have mM3_1 : (M3Zq.1 175 1).toInt = (M1Zq.1 175 1).toInt := tl_slot (h4.1 175 1 id)
  have mM3_4 : (M3Zq.1 175 4).toInt = (M1Zq.1 175 4).toInt := tl_slot (h4.1 175 4 id)
  have mM3_10 : (M3Zq.1 175 10).toInt = (M1Zq.1 175 10).toInt := tl_slot (h4.1 175 10 id)
  rcases qx2 with ⟨rfl, qx2⟩ | ⟨rfl, qx2⟩
  · exfalso; omega
  · skip
    refine li_if_eq 23 dX12_person_10 (by decide) (fun c => ?_) (fun c => absurd rfl c)
    refine li_aload_n 0 dX12_person_23 rfl ?_
    refine li_callV (n := 0) (As := []) dX12_person_24 (k15_X12_lost (d - 1) (by omega)  M3Zq hJ ) (by omega) (Nat.le_of_ble_eq_true rfl) w_1656 w_1658 w_57 w_112 w_1659 (by decide +kernel) rfl (by decide) sh_175 rfl rfl (Nat.le_of_ble_eq_true rfl) (fun r M7Zq h8 => ?_)
    obtain ⟨⟨x6, rfl, qx6⟩, h8, jM7, nM7⟩ := h8
    have gx6 := tl_rg x6
    have hf := li_fs_trans hf h8 (fun i k => fun hZq => hZq)
    have hJ := jM7
    have rM7_1 := J_sl1 (M := M7Zq) hJ
    have rM7_4 := J_sl4 (M := M7Zq) hJ
    have mM7_1 : (M7Zq.1 175 1).toInt = (M3Zq.1 175 1).toInt := tl_slot (h8.1 175 1 (show ¬ ((175 = 175 ∧ 1 = 10)) by decide))
    have mM7_4 : (M7Zq.1 175 4).toInt = (M3Zq.1 175 4).toInt := tl_slot (h8.1 175 4 (show ¬ ((175 = 175 ∧ 4 = 10)) by decide))
    exact li_iret dX12_person_27 rfl rfl ⟨⟨_, rfl, (by first | omega | (intro _; omega) | (refine ⟨?_, ?_⟩ <;> first | omega | (intro _; omega)) | (refine ⟨?_, ?_, ?_, ?_⟩ <;> first | omega | (intro _; omega)))⟩, hf, hJ, (by first | omega | (intro _; omega) | (refine ⟨?_, ?_⟩ <;> first | omega | (intro _; omega)) | (refine ⟨?_, ?_, ?_, ?_⟩ <;> first | omega | (intro _; omega)))⟩
set_option maxRecDepth 100000 in
set_option maxHeartbeats 4000000 in
theorem k15_X12_thing {l : Launch} {Z : li_Z} (d : Nat) (hdZq : 3 ≤ d) (p1Zq p2Zq : Int32) (M0 : li_M) (hJ : li_J M0) (z4 : (M0.1 175 4).toInt = 0) : li_Met l Z YX12_thing d [.ref (Z.2.2 175), .int p1Zq, .int p2Zq] M0 (fun r M' => (∃ x : Int32, r = some (.int x) ∧ (x.toInt = 0)) ∧ li_fs (fun i k => (i = 175 ∧ k = 10)) M0 M' ∧ li_J M' ∧ (M'.1 175 10).toInt = 1) := by
  refine li_enter (by decide +kernel) (Nat.le_of_ble_eq_true rfl) ?_
  show li_T l Z YX12_thing d 0 [(0, .ref (Z.2.2 175)), (1, .int p1Zq), (2, .int p2Zq)] [] M0 _
  have hf : li_fs (fun i k => (i = 175 ∧ k = 10)) M0 M0 := li_fs_refl
  have gp1 := tl_rg p1Zq
  have gp2 := tl_rg p2Zq
  have rM0_1 := J_sl1 (M := M0) hJ
  have rM0_4 := J_sl4 (M := M0) hJ
  refine li_aload_n 0 dX12_thing_0 rfl ?_
  refine li_iconst 0 dX12_thing_1 (by decide) ?_
  refine li_puti (k := 10) (N := 52) (T := TX12) (C0 := RX12) dX12_thing_2 (by decide) sh_175 rfl rfl (by decide) li_in12 tyX12_ok nmX12 rfl rfl rfl rfl w_1414 ?_
  refine li_nm (fun M1Zq eM1 => ?_)
  have hf := li_fs_ui hf (⟨rfl, rfl⟩) eM1
  have z0 : (0 : Int32).toInt = 0 := rfl
  have hJ := hJ.put (k := 10) (by decide) (rg_free rfl) eM1
  have rM1_1 := J_sl1 (M := M1Zq) hJ
  have rM1_4 := J_sl4 (M := M1Zq) hJ
  have mM1_1 : (M1Zq.1 175 1).toInt = (M0.1 175 1).toInt := by rw [eM1, li_ui_at, if_pos rfl, if_neg (by decide)]
  have mM1_4 : (M1Zq.1 175 4).toInt = (M0.1 175 4).toInt := by rw [eM1, li_ui_at, if_pos rfl, if_neg (by decide)]
  have mM1_10 : (M1Zq.1 175 10).toInt = 0 := by rw [eM1, li_ui_at, if_pos rfl, if_pos rfl]; rfl
  refine li_aload_n 0 dX12_thing_5 rfl ?_
  refine li_iload_n 1 dX12_thing_6 rfl ?_
  refine li_callV (n := 1) (As := [.int p1Zq]) dX12_thing_7 (k_X12_isThing (d - 1) (by omega) p1Zq M1Zq hJ ) (by omega) (Nat.le_of_ble_eq_true rfl) w_1668 w_1670 w_59 w_112 w_1671 (by decide +kernel) rfl (by decide) sh_175 rfl rfl (Nat.le_of_ble_eq_true rfl) (fun r M3Zq h4 => ?_)
  obtain ⟨qx2, h4, jM3⟩ := h4
  have hf := li_fs_trans hf h4 (fun i k hZq => False.elim hZq)
  have hJ := jM3
  have rM3_1 := J_sl1 (M := M3Zq) hJ
  have rM3_4 := J_sl4 (M := M3Zq) hJ
  have mM3_1 : (M3Zq.1 175 1).toInt = (M1Zq.1 175 1).toInt := tl_slot (h4.1 175 1 id)
  have mM3_4 : (M3Zq.1 175 4).toInt = (M1Zq.1 175 4).toInt := tl_slot (h4.1 175 4 id)
  have mM3_10 : (M3Zq.1 175 10).toInt = (M1Zq.1 175 10).toInt := tl_slot (h4.1 175 10 id)
  rcases qx2 with ⟨rfl, qx2⟩ | ⟨rfl, qx2⟩
  · exfalso; omega
  · skip
    refine li_if_eq 23 dX12_thing_10 (by decide) (fun c => ?_) (fun c => absurd rfl c)
    refine li_aload_n 0 dX12_thing_23 rfl ?_
    refine li_callV (n := 0) (As := []) dX12_thing_24 (k15_X12_lost (d - 1) (by omega)  M3Zq hJ ) (by omega) (Nat.le_of_ble_eq_true rfl) w_1656 w_1658 w_57 w_112 w_1659 (by decide +kernel) rfl (by decide) sh_175 rfl rfl (Nat.le_of_ble_eq_true rfl) (fun r M7Zq h8 => ?_)
    obtain ⟨⟨x6, rfl, qx6⟩, h8, jM7, nM7⟩ := h8
    have gx6 := tl_rg x6
    have hf := li_fs_trans hf h8 (fun i k => fun hZq => hZq)
    have hJ := jM7
    have rM7_1 := J_sl1 (M := M7Zq) hJ
    have rM7_4 := J_sl4 (M := M7Zq) hJ
    have mM7_1 : (M7Zq.1 175 1).toInt = (M3Zq.1 175 1).toInt := tl_slot (h8.1 175 1 (show ¬ ((175 = 175 ∧ 1 = 10)) by decide))
    have mM7_4 : (M7Zq.1 175 4).toInt = (M3Zq.1 175 4).toInt := tl_slot (h8.1 175 4 (show ¬ ((175 = 175 ∧ 4 = 10)) by decide))
    exact li_iret dX12_thing_27 rfl rfl ⟨⟨_, rfl, (by first | omega | (intro _; omega) | (refine ⟨?_, ?_⟩ <;> first | omega | (intro _; omega)) | (refine ⟨?_, ?_, ?_, ?_⟩ <;> first | omega | (intro _; omega)))⟩, hf, hJ, (by first | omega | (intro _; omega) | (refine ⟨?_, ?_⟩ <;> first | omega | (intro _; omega)) | (refine ⟨?_, ?_, ?_, ?_⟩ <;> first | omega | (intro _; omega)))⟩
set_option maxRecDepth 100000 in
set_option maxHeartbeats 4000000 in
theorem k15_X12_row {l : Launch} {Z : li_Z} (d : Nat) (hdZq : 2 ≤ d) (p1Zq : Int32) (M0 : li_M) (hJ : li_J M0) (z9 : (M0.1 175 9).toInt = 0) : li_Met l Z YX12_row d [.ref (Z.2.2 175), .int p1Zq] M0 (fun r M' => (∃ x : Int32, r = some (.int x) ∧ (x.toInt = 0)) ∧ li_fs (fun i k => (i = 175 ∧ k = 10)) M0 M' ∧ li_J M' ∧ (M'.1 175 10).toInt = 1) := by
  refine li_enter (by decide +kernel) (Nat.le_of_ble_eq_true rfl) ?_
  show li_T l Z YX12_row d 0 [(0, .ref (Z.2.2 175)), (1, .int p1Zq)] [] M0 _
  have hf : li_fs (fun i k => (i = 175 ∧ k = 10)) M0 M0 := li_fs_refl
  have gp1 := tl_rg p1Zq
  have rM0_9 := J_sl9 (M := M0) hJ
  refine li_aload_n 0 dX12_row_0 rfl ?_
  refine li_iconst 0 dX12_row_1 (by decide) ?_
  refine li_puti (k := 10) (N := 52) (T := TX12) (C0 := RX12) dX12_row_2 (by decide) sh_175 rfl rfl (by decide) li_in12 tyX12_ok nmX12 rfl rfl rfl rfl w_1414 ?_
  refine li_nm (fun M1Zq eM1 => ?_)
  have hf := li_fs_ui hf (⟨rfl, rfl⟩) eM1
  have z0 : (0 : Int32).toInt = 0 := rfl
  have hJ := hJ.put (k := 10) (by decide) (rg_free rfl) eM1
  have rM1_9 := J_sl9 (M := M1Zq) hJ
  have mM1_9 : (M1Zq.1 175 9).toInt = (M0.1 175 9).toInt := by rw [eM1, li_ui_at, if_pos rfl, if_neg (by decide)]
  have mM1_10 : (M1Zq.1 175 10).toInt = 0 := by rw [eM1, li_ui_at, if_pos rfl, if_pos rfl]; rfl
  refine li_iload_n 1 dX12_row_5 rfl ?_
  refine li_iconst 0 dX12_row_6 (by decide) ?_
  refine li_aload_n 0 dX12_row_7 rfl ?_
  refine li_geti (k := 9) (N := 52) (T := TX12) (C0 := RX12) dX12_row_8 (by decide) sh_175 rfl rfl (by decide) li_in12 w_1413 ?_
  refine li_top (fun x2Zq ex2Zq => ?_)
  have gx2 : 0 ≤ x2Zq.toInt ∧ x2Zq.toInt ≤ 20 := by rw [ex2Zq]; exact J_sl9 hJ
  have mx2 : x2Zq.toInt = (M1Zq.1 175 9).toInt := tl_slot ex2Zq
  have sx2 : x2Zq.toInt = (M0.1 175 9).toInt := tl_slot (ex2Zq.trans (hf.1 175 9 (show ¬ ((175 = 175 ∧ 9 = 10)) by decide)))
  refine li_iconst 1 dX12_row_11 (by decide) ?_
  refine li_isub dX12_row_12 ?_
  refine li_top (fun x3 ex3Zq => ?_)
  have z1 : (1 : Int32).toInt = 1 := rfl
  try (have tx3 : x3.toInt = (x2Zq : Int32).toInt - (1 : Int32).toInt := tl_sub ex3Zq (by omega))
  have z0 : (0 : Int32).toInt = 0 := rfl
  refine li_callS (n := 3) (As := [.int p1Zq, .int 0, .int x3]) dX12_row_13 (k_X12_in (d - 1) (by omega) p1Zq 0 x3 M1Zq hJ ) (by omega) (Nat.le_of_ble_eq_true rfl) w_1574 w_1575 w_112 w_1576 (by decide +kernel) rfl rfl (Nat.le_of_ble_eq_true rfl) (fun r M5Zq h6 => ?_)
  obtain ⟨qx4, h6, jM5⟩ := h6
  have hf := li_fs_trans hf h6 (fun i k hZq => False.elim hZq)
  have hJ := jM5
  have rM5_9 := J_sl9 (M := M5Zq) hJ
  have mM5_9 : (M5Zq.1 175 9).toInt = (M1Zq.1 175 9).toInt := tl_slot (h6.1 175 9 id)
  have mM5_10 : (M5Zq.1 175 10).toInt = (M1Zq.1 175 10).toInt := tl_slot (h6.1 175 10 id)
  rcases qx4 with ⟨rfl, qx4⟩ | ⟨rfl, qx4⟩
  · exfalso; omega
  · skip
    refine li_if_eq 28 dX12_row_16 (by decide) (fun c => ?_) (fun c => absurd rfl c)
    refine li_aload_n 0 dX12_row_28 rfl ?_
    refine li_callV (n := 0) (As := []) dX12_row_29 (k15_X12_lost (d - 1) (by omega)  M5Zq hJ ) (by omega) (Nat.le_of_ble_eq_true rfl) w_1656 w_1658 w_57 w_112 w_1659 (by decide +kernel) rfl (by decide) sh_175 rfl rfl (Nat.le_of_ble_eq_true rfl) (fun r M9Zq h10 => ?_)
    obtain ⟨⟨x8, rfl, qx8⟩, h10, jM9, nM9⟩ := h10
    have gx8 := tl_rg x8
    have hf := li_fs_trans hf h10 (fun i k => fun hZq => hZq)
    have hJ := jM9
    have rM9_9 := J_sl9 (M := M9Zq) hJ
    have mM9_9 : (M9Zq.1 175 9).toInt = (M5Zq.1 175 9).toInt := tl_slot (h10.1 175 9 (show ¬ ((175 = 175 ∧ 9 = 10)) by decide))
    exact li_iret dX12_row_32 rfl rfl ⟨⟨_, rfl, (by first | omega | (intro _; omega) | (refine ⟨?_, ?_⟩ <;> first | omega | (intro _; omega)) | (refine ⟨?_, ?_, ?_, ?_⟩ <;> first | omega | (intro _; omega)))⟩, hf, hJ, (by first | omega | (intro _; omega) | (refine ⟨?_, ?_⟩ <;> first | omega | (intro _; omega)) | (refine ⟨?_, ?_, ?_, ?_⟩ <;> first | omega | (intro _; omega)))⟩
set_option maxRecDepth 100000 in
set_option maxHeartbeats 4000000 in
theorem k15_X12_loan {l : Launch} {Z : li_Z} (d : Nat) (hdZq : 2 ≤ d) (p1Zq p2Zq : Int32) (M0 : li_M) (hJ : li_J M0) (z17620 : (M0.1 176 20).toInt = 0) : li_Met l Z YX12_loan d [.ref (Z.2.2 175), .int p1Zq, .int p2Zq] M0 (fun r M' => (∃ x : Int32, r = some (.int x) ∧ (x.toInt = 0)) ∧ li_fs (fun i k => (i = 175 ∧ k = 10)) M0 M' ∧ li_J M' ∧ (M'.1 175 10).toInt = 1) := by
  refine li_enter (by decide +kernel) (Nat.le_of_ble_eq_true rfl) ?_
  show li_T l Z YX12_loan d 0 [(0, .ref (Z.2.2 175)), (1, .int p1Zq), (2, .int p2Zq)] [] M0 _
  have hf : li_fs (fun i k => (i = 175 ∧ k = 10)) M0 M0 := li_fs_refl
  have gp1 := tl_rg p1Zq
  have gp2 := tl_rg p2Zq
  refine li_aload_n 0 dX12_loan_0 rfl ?_
  refine li_iconst 0 dX12_loan_1 (by decide) ?_
  refine li_puti (k := 10) (N := 52) (T := TX12) (C0 := RX12) dX12_loan_2 (by decide) sh_175 rfl rfl (by decide) li_in12 tyX12_ok nmX12 rfl rfl rfl rfl w_1414 ?_
  refine li_nm (fun M1Zq eM1 => ?_)
  have hf := li_fs_ui hf (⟨rfl, rfl⟩) eM1
  have z0 : (0 : Int32).toInt = 0 := rfl
  have hJ := hJ.put (k := 10) (by decide) (rg_free rfl) eM1
  have mM1_10 : (M1Zq.1 175 10).toInt = 0 := by rw [eM1, li_ui_at, if_pos rfl, if_pos rfl]; rfl
  have aM1_176_20 : (M1Zq.1 176 20).toInt = (M0.1 176 20).toInt := by rw [eM1, li_ui_at, if_neg (by decide)]
  refine li_iload_n 1 dX12_loan_5 rfl ?_
  refine li_iconst 0 dX12_loan_6 (by decide) ?_
  refine li_aload_n 0 dX12_loan_7 rfl ?_
  refine li_getr (k := 0) (N := 52) (T := TX12) (C0 := RX12) dX12_loan_8 (by decide) sh_175 rfl rfl (by decide) (by decide) li_in12 w_1404 ?_
  refine li_bipush 20 dX12_loan_11 (by decide) ?_
  have z20 : (20 : Int32).toInt = 20 := rfl
  refine li_iald dX12_loan_13 (by decide) sh_176 (tl_in (by omega)) ?_
  refine li_top (fun x2Zq ex2Zq => ?_)
  have gx2 := tl_rg x2Zq
  have lx2 : ((20 : Int32).toInt % 51 = 20 → 0 ≤ x2Zq.toInt ∧ x2Zq.toInt ≤ 6) ∧ (21 ≤ (20 : Int32).toInt % 51 → ((20 : Int32).toInt % 51 - 21) % 5 < 2 → 0 ≤ x2Zq.toInt ∧ x2Zq.toInt ≤ 5) := hJ.ldLed (by unfold li_led; omega) ex2Zq (by omega)
  have bx2 : x2Zq.toInt = (M1Zq.1 176 20).toInt := tl_slot (ex2Zq.trans (congrArg (M1Zq.1 176) (by decide)))
  refine li_iconst 1 dX12_loan_14 (by decide) ?_
  refine li_isub dX12_loan_15 ?_
  refine li_top (fun x3 ex3Zq => ?_)
  have z1 : (1 : Int32).toInt = 1 := rfl
  try (have tx3 : x3.toInt = (x2Zq : Int32).toInt - (1 : Int32).toInt := tl_sub ex3Zq (by omega))
  have z0 : (0 : Int32).toInt = 0 := rfl
  refine li_callS (n := 3) (As := [.int p1Zq, .int 0, .int x3]) dX12_loan_16 (k_X12_in (d - 1) (by omega) p1Zq 0 x3 M1Zq hJ ) (by omega) (Nat.le_of_ble_eq_true rfl) w_1574 w_1575 w_112 w_1576 (by decide +kernel) rfl rfl (Nat.le_of_ble_eq_true rfl) (fun r M5Zq h6 => ?_)
  obtain ⟨qx4, h6, jM5⟩ := h6
  have hf := li_fs_trans hf h6 (fun i k hZq => False.elim hZq)
  have hJ := jM5
  have mM5_10 : (M5Zq.1 175 10).toInt = (M1Zq.1 175 10).toInt := tl_slot (h6.1 175 10 id)
  have aM5_176_20 : (M5Zq.1 176 20).toInt = (M1Zq.1 176 20).toInt := tl_slot (h6.1 176 (20) id)
  rcases qx4 with ⟨rfl, qx4⟩ | ⟨rfl, qx4⟩
  · exfalso; omega
  · skip
    refine li_if_eq 31 dX12_loan_19 (by decide) (fun c => ?_) (fun c => absurd rfl c)
    refine li_aload_n 0 dX12_loan_31 rfl ?_
    refine li_callV (n := 0) (As := []) dX12_loan_32 (k15_X12_lost (d - 1) (by omega)  M5Zq hJ ) (by omega) (Nat.le_of_ble_eq_true rfl) w_1656 w_1658 w_57 w_112 w_1659 (by decide +kernel) rfl (by decide) sh_175 rfl rfl (Nat.le_of_ble_eq_true rfl) (fun r M9Zq h10 => ?_)
    obtain ⟨⟨x8, rfl, qx8⟩, h10, jM9, nM9⟩ := h10
    have gx8 := tl_rg x8
    have hf := li_fs_trans hf h10 (fun i k => fun hZq => hZq)
    have hJ := jM9
    have aM9_176_20 : (M9Zq.1 176 20).toInt = (M5Zq.1 176 20).toInt := tl_slot (h10.1 176 (20) (show ¬ ((176 = 175 ∧ 20 = 10)) by decide))
    exact li_iret dX12_loan_35 rfl rfl ⟨⟨_, rfl, (by first | omega | (intro _; omega) | (refine ⟨?_, ?_⟩ <;> first | omega | (intro _; omega)) | (refine ⟨?_, ?_, ?_, ?_⟩ <;> first | omega | (intro _; omega)))⟩, hf, hJ, (by first | omega | (intro _; omega) | (refine ⟨?_, ?_⟩ <;> first | omega | (intro _; omega)) | (refine ⟨?_, ?_, ?_, ?_⟩ <;> first | omega | (intro _; omega)))⟩
set_option maxRecDepth 100000 in
set_option maxHeartbeats 4000000 in
theorem k15_X12_thrown {l : Launch} {Z : li_Z} (d : Nat) (hdZq : 1 ≤ d) (M0 : li_M) (hJ : li_J M0) : li_Met l Z YX12_thrown d [.ref (Z.2.2 175)] M0 (fun r M' => (∃ x : Int32, r = some (.int x) ∧ (x.toInt = (M0.1 175 10).toInt)) ∧ li_fs (fun i k => False) M0 M' ∧ li_J M') := by
  refine li_enter (by decide +kernel) (Nat.le_of_ble_eq_true rfl) ?_
  show li_T l Z YX12_thrown d 0 [(0, .ref (Z.2.2 175))] [] M0 _
  have hf : li_fs (fun i k => False) M0 M0 := li_fs_refl
  refine li_aload_n 0 dX12_thrown_0 rfl ?_
  refine li_geti (k := 10) (N := 52) (T := TX12) (C0 := RX12) dX12_thrown_1 (by decide) sh_175 rfl rfl (by decide) li_in12 w_1414 ?_
  refine li_top (fun x1Zq ex1 => ?_)
  have gx1 := tl_rg x1Zq
  have mx1 : x1Zq.toInt = (M0.1 175 10).toInt := tl_slot ex1
  have sx1 : x1Zq.toInt = (M0.1 175 10).toInt := tl_slot (ex1.trans (hf.1 175 10 id))
  exact li_iret dX12_thrown_4 rfl rfl ⟨⟨_, rfl, (by first | omega | (intro _; omega) | (refine ⟨?_, ?_⟩ <;> first | omega | (intro _; omega)) | (refine ⟨?_, ?_, ?_, ?_⟩ <;> first | omega | (intro _; omega)))⟩, hf, hJ⟩
