set_option maxRecDepth 100000 in
set_option maxHeartbeats 4000000 in
theorem k14_X12_held {l : Launch} {Z : li_Z} (d : Nat) (hdZq : 3 ≤ d) (p1Zq : Int32) (dE : Nat) (hE : dE + 1 ≤ d) (M0 : li_M) (hJ : li_J M0) (bM0 : M0.2.2 0 = some 180) (hBZq : Nat → Int32) (hhB : li_by (M0.1 180) = hBZq) (e : Int) (he : min (M0.1 175 12).toInt (M0.1 175 13).toInt = e) (hat : (M0.1 175 14).toInt ≤ e) (hw : (M0.1 175 15).toInt = -1) (h4 : 0 ≤ p1Zq.toInt ∧ p1Zq.toInt ≤ 4) (SMZq : ∀ (q9Zq : Int32) (M : li_M), li_J M → M.2.2 0 = some 180 → li_by (M.1 180) = hBZq → min (M.1 175 12).toInt (M.1 175 13).toInt = e → (M0.1 175 14).toInt ≤ (M.1 175 14).toInt → (M.1 175 14).toInt ≤ e → (M.1 175 15).toInt = -1 → 0 ≤ q9Zq.toInt ∧ q9Zq.toInt ≤ 4 → li_Met l Z YX12_sum dE [.ref (Z.2.2 175), .int q9Zq] M (fun r M' => (∃ x : Int32, r = some (.int x) ∧ (∃ okZq q : Int, rpr hBZq e 1 (q9Zq.toInt) ((M.1 175 14).toInt) okZq q ∧ (M'.1 175 14).toInt = q ∧ (M.1 175 14).toInt ≤ q ∧ q ≤ e ∧ ((okZq = 1 ∧ (M'.1 175 15).toInt = -1) ∨ (okZq = 0 ∧ (M'.1 175 15).toInt = q)))) ∧ li_fs (fun i k => (i = 175 ∧ k = 14) ∨ (i = 175 ∧ k = 15)) M M' ∧ li_J M')) : li_Met l Z YX12_held d [.ref (Z.2.2 175), .int p1Zq] M0 (fun r M' => (∃ x : Int32, r = some (.int x) ∧ (∃ okZq q : Int, rpr hBZq e 0 (p1Zq.toInt) ((M0.1 175 14).toInt) okZq q ∧ (M'.1 175 14).toInt = q ∧ (M0.1 175 14).toInt ≤ q ∧ q ≤ e ∧ ((okZq = 1 ∧ (M'.1 175 15).toInt = -1) ∨ (okZq = 0 ∧ (M'.1 175 15).toInt = q)))) ∧ li_fs (fun i k => (i = 175 ∧ k = 14) ∨ (i = 175 ∧ k = 15)) M0 M' ∧ li_J M') := by
  refine li_enter (by decide +kernel) (Nat.le_of_ble_eq_true rfl) ?_
  show li_T l Z YX12_held d 0 [(0, .ref (Z.2.2 175)), (1, .int p1Zq)] [] M0 _
  have hf : li_fs (fun i k => (i = 175 ∧ k = 14) ∨ (i = 175 ∧ k = 15)) M0 M0 := li_fs_refl
  have gp1 := tl_rg p1Zq
  have rM0_12 := J_sl12 (M := M0) hJ
  have rM0_13 := J_sl13 (M := M0) hJ
  have rM0_14 := J_sl14 (M := M0) hJ
  have rM0_15 := J_sl15 (M := M0) hJ
  refine li_aload_n 0 dX12_held_0 rfl ?_
  refine li_iload_n 1 dX12_held_1 rfl ?_
  refine li_callV (n := 1) (As := [.int p1Zq]) dX12_held_2 (SMZq p1Zq M0 hJ bM0 ((congrArg li_by (funext fun i => hf.1 180 i ((fun i => (show ¬ ((180 = 175 ∧ i = 14) ∨ (180 = 175 ∧ i = 15)) by first | (simp; done) | omega)) i))).trans hhB) (by rw [show (M0.1 175 12).toInt = (M0.1 175 12).toInt from Int.le_antisymm (by omega) (by omega), show (M0.1 175 13).toInt = (M0.1 175 13).toInt from Int.le_antisymm (by omega) (by omega)]; exact he) (by omega) (by omega) (Int.le_antisymm (by omega) (by omega)) ⟨by omega, by omega⟩) (by omega) (Nat.le_of_ble_eq_true rfl) w_1629 w_1631 w_53 w_112 w_1632 (by decide +kernel) rfl (by decide) sh_175 rfl rfl (Nat.le_of_ble_eq_true rfl) (fun r M2Zq h3 => ?_)
  obtain ⟨⟨x1Zq, rfl, qx1⟩, h3, jM2⟩ := h3
  have gx1 := tl_rg x1Zq
  have hf := li_fs_trans hf h3 (fun i k => fun hZq => Or.elim hZq (fun hZq => Or.inl hZq) (fun hZq => Or.inr hZq))
  have hJ := jM2
  have rM2_12 := J_sl12 (M := M2Zq) hJ
  have rM2_13 := J_sl13 (M := M2Zq) hJ
  have rM2_14 := J_sl14 (M := M2Zq) hJ
  have rM2_15 := J_sl15 (M := M2Zq) hJ
  have mM2_12 : (M2Zq.1 175 12).toInt = (M0.1 175 12).toInt := tl_slot (h3.1 175 12 (show ¬ ((175 = 175 ∧ 12 = 14) ∨ (175 = 175 ∧ 12 = 15)) by decide))
  have mM2_13 : (M2Zq.1 175 13).toInt = (M0.1 175 13).toInt := tl_slot (h3.1 175 13 (show ¬ ((175 = 175 ∧ 13 = 14) ∨ (175 = 175 ∧ 13 = 15)) by decide))
  have bM2 : M2Zq.2.2 0 = some 180 := (h3.2.2 0 (fun h9 => by first | exact (h9 : False).elim | (simp at h9; done) | omega)).trans bM0
  obtain ⟨okA, qA, ra, ea1, ea2, ea3, ea4⟩ := qx1
  refine li_istore_n [(2, .int x1Zq), (0, .ref (Z.2.2 175)), (1, .int p1Zq)] dX12_held_5 (by decide) rfl ?_
  refine li_aload_n 1 dX12_held_6 rfl ?_
  refine li_bipush 60 dX12_held_7 (by decide) ?_
  have cp60 : (li_hr M2Zq).toInt = rd_ch hBZq e (qA) := (hr_pt bM2 (by omega) rfl (by rw [show (M2Zq.1 175 12).toInt = (M0.1 175 12).toInt from Int.le_antisymm (by omega) (by omega), show (M2Zq.1 175 13).toInt = (M0.1 175 13).toInt from Int.le_antisymm (by omega) (by omega)]; exact he) (Int.le_antisymm (by omega) (by omega))).trans (congrArg (fun zZq => rd_ch zZq e (qA)) ((congrArg li_by (funext fun i => hf.1 180 i ((fun i => (show ¬ ((180 = 175 ∧ i = 14) ∨ (180 = 175 ∧ i = 15)) by first | (simp; done) | omega)) i))).trans hhB))
  have z60Zq : (60 : Int32).toInt = 60 := rfl
  refine li_callV (n := 1) (As := [.int 60]) dX12_held_9 (k_X12_passes (d - 1) (by omega) 60 M2Zq hJ (by omega)) (by omega) (Nat.le_of_ble_eq_true rfl) w_1605 w_1607 w_49 w_112 w_1608 (by decide +kernel) rfl (by decide) sh_175 rfl rfl (Nat.le_of_ble_eq_true rfl) (fun r M5Zq h6 => ?_)
  obtain ⟨qx4, h6, jM5⟩ := h6
  have hf := li_fs_trans hf h6 (fun i k => fun hZq => Or.inl hZq)
  have hJ := jM5
  have rM5_12 := J_sl12 (M := M5Zq) hJ
  have rM5_13 := J_sl13 (M := M5Zq) hJ
  have rM5_14 := J_sl14 (M := M5Zq) hJ
  have rM5_15 := J_sl15 (M := M5Zq) hJ
  have mM5_12 : (M5Zq.1 175 12).toInt = (M2Zq.1 175 12).toInt := tl_slot (h6.1 175 12 (show ¬ ((175 = 175 ∧ 12 = 14)) by decide))
  have mM5_13 : (M5Zq.1 175 13).toInt = (M2Zq.1 175 13).toInt := tl_slot (h6.1 175 13 (show ¬ ((175 = 175 ∧ 13 = 14)) by decide))
  have mM5_15 : (M5Zq.1 175 15).toInt = (M2Zq.1 175 15).toInt := tl_slot (h6.1 175 15 (show ¬ ((175 = 175 ∧ 15 = 14)) by decide))
  have bM5 : M5Zq.2.2 0 = some 180 := (h6.2.2 0 (fun h9 => by first | exact (h9 : False).elim | (simp at h9; done) | omega)).trans bM2
  rcases qx4 with ⟨rfl, qx4⟩ | ⟨rfl, qx4⟩
  · skip
    refine li_if_eq 30 dX12_held_12 (by decide) (fun cZq => absurd cZq (by decide)) (fun cZq => ?_)
    have cC : rp_cmp (rd_ch hBZq e qA) := by unfold rp_cmp; omega
    have ltZq := rd_lt (rp_cmp_nn cC)
    refine li_iload_n 0 dX12_held_15 rfl ?_
    refine li_aload_n 1 dX12_held_16 rfl ?_
    refine li_iload_n 2 dX12_held_17 rfl ?_
    refine li_callV (n := 1) (As := [.int p1Zq]) dX12_held_18 (SMZq p1Zq M5Zq hJ bM5 ((congrArg li_by (funext fun i => hf.1 180 i ((fun i => (show ¬ ((180 = 175 ∧ i = 14) ∨ (180 = 175 ∧ i = 15)) by first | (simp; done) | omega)) i))).trans hhB) (by rw [show (M5Zq.1 175 12).toInt = (M0.1 175 12).toInt from Int.le_antisymm (by omega) (by omega), show (M5Zq.1 175 13).toInt = (M0.1 175 13).toInt from Int.le_antisymm (by omega) (by omega)]; exact he) (by omega) (by omega) (Int.le_antisymm (by omega) (by omega)) ⟨by omega, by omega⟩) (by omega) (Nat.le_of_ble_eq_true rfl) w_1629 w_1631 w_53 w_112 w_1632 (by decide +kernel) rfl (by decide) sh_175 rfl rfl (Nat.le_of_ble_eq_true rfl) (fun r M9Zq h10 => ?_)
    obtain ⟨⟨x8, rfl, qx8⟩, h10, jM9⟩ := h10
    have gx8 := tl_rg x8
    have hf := li_fs_trans hf h10 (fun i k => fun hZq => Or.elim hZq (fun hZq => Or.inl hZq) (fun hZq => Or.inr hZq))
    have hJ := jM9
    have rM9_12 := J_sl12 (M := M9Zq) hJ
    have rM9_13 := J_sl13 (M := M9Zq) hJ
    have rM9_14 := J_sl14 (M := M9Zq) hJ
    have rM9_15 := J_sl15 (M := M9Zq) hJ
    have mM9_12 : (M9Zq.1 175 12).toInt = (M5Zq.1 175 12).toInt := tl_slot (h10.1 175 12 (show ¬ ((175 = 175 ∧ 12 = 14) ∨ (175 = 175 ∧ 12 = 15)) by decide))
    have mM9_13 : (M9Zq.1 175 13).toInt = (M5Zq.1 175 13).toInt := tl_slot (h10.1 175 13 (show ¬ ((175 = 175 ∧ 13 = 14) ∨ (175 = 175 ∧ 13 = 15)) by decide))
    have bM9 : M9Zq.2.2 0 = some 180 := (h10.2.2 0 (fun h9 => by first | exact (h9 : False).elim | (simp at h9; done) | omega)).trans bM5
    obtain ⟨okB, qB, rb, eb1, eb2, eb3, eb4⟩ := qx8
    have finZq : ∃ okZq q : Int, rpr hBZq e 0 (p1Zq.toInt) ((M0.1 175 14).toInt) okZq q ∧ (M9Zq.1 175 14).toInt = q ∧ (M0.1 175 14).toInt ≤ q ∧ q ≤ e ∧ ((okZq = 1 ∧ (M9Zq.1 175 15).toInt = -1) ∨ (okZq = 0 ∧ (M9Zq.1 175 15).toInt = q)) := ⟨okB, qB, rp_in0 (Or.inr (Or.inr ⟨qA, rp_to ra rfl rfl (Int.le_antisymm (by omega) (by omega)) rfl, cC, rp_to rb rfl (Int.le_antisymm (by omega) (by omega)) rfl rfl⟩)), eb1, by omega, by omega, eb4⟩
    refine li_icmp_ge 28 dX12_held_21 (by decide) (fun c11Zq => ?_) (fun c11Zq => ?_)
    · have tc11 : x8.toInt ≤ x1Zq.toInt := tl_le c11Zq
      refine li_iconst 0 dX12_held_28 (by decide) ?_
      have z0 : (0 : Int32).toInt = 0 := rfl
      exact li_iret dX12_held_29 rfl rfl ⟨⟨_, rfl, (by exact finZq)⟩, hf, hJ⟩
    · have tc11 : x1Zq.toInt < x8.toInt := tl_nle c11Zq
      refine li_iconst 1 dX12_held_24 (by decide) ?_
      refine li_goto 29 dX12_held_25 (by decide) ?_
      have z1 : (1 : Int32).toInt = 1 := rfl
      exact li_iret dX12_held_29 rfl rfl ⟨⟨_, rfl, (by exact finZq)⟩, hf, hJ⟩
  · skip
    refine li_if_eq 30 dX12_held_12 (by decide) (fun cZq => ?_) (fun cZq => absurd rfl cZq)
    have no60 : (M5Zq.1 175 15).toInt = -1 → ¬ rd_ch hBZq e qA = 60 := fun h9 h8 => qx4.1 (Int.le_antisymm (by omega) (by omega)) (cp60.trans h8)
    refine li_aload_n 1 dX12_held_30 rfl ?_
    refine li_bipush 62 dX12_held_31 (by decide) ?_
    have cp62 : (li_hr M5Zq).toInt = rd_ch hBZq e (qA) := (hr_pt bM5 (by omega) rfl (by rw [show (M5Zq.1 175 12).toInt = (M0.1 175 12).toInt from Int.le_antisymm (by omega) (by omega), show (M5Zq.1 175 13).toInt = (M0.1 175 13).toInt from Int.le_antisymm (by omega) (by omega)]; exact he) (Int.le_antisymm (by omega) (by omega))).trans (congrArg (fun zZq => rd_ch zZq e (qA)) ((congrArg li_by (funext fun i => hf.1 180 i ((fun i => (show ¬ ((180 = 175 ∧ i = 14) ∨ (180 = 175 ∧ i = 15)) by first | (simp; done) | omega)) i))).trans hhB))
    have z62Zq : (62 : Int32).toInt = 62 := rfl
    refine li_callV (n := 1) (As := [.int 62]) dX12_held_33 (k_X12_passes (d - 1) (by omega) 62 M5Zq hJ (by omega)) (by omega) (Nat.le_of_ble_eq_true rfl) w_1605 w_1607 w_49 w_112 w_1608 (by decide +kernel) rfl (by decide) sh_175 rfl rfl (Nat.le_of_ble_eq_true rfl) (fun r M14 h15 => ?_)
    obtain ⟨qx13, h15, jM14⟩ := h15
    have hf := li_fs_trans hf h15 (fun i k => fun hZq => Or.inl hZq)
    have hJ := jM14
    have rM14_12 := J_sl12 (M := M14) hJ
    have rM14_13 := J_sl13 (M := M14) hJ
    have rM14_14 := J_sl14 (M := M14) hJ
    have rM14_15 := J_sl15 (M := M14) hJ
    have mM14_12 : (M14.1 175 12).toInt = (M5Zq.1 175 12).toInt := tl_slot (h15.1 175 12 (show ¬ ((175 = 175 ∧ 12 = 14)) by decide))
    have mM14_13 : (M14.1 175 13).toInt = (M5Zq.1 175 13).toInt := tl_slot (h15.1 175 13 (show ¬ ((175 = 175 ∧ 13 = 14)) by decide))
    have mM14_15 : (M14.1 175 15).toInt = (M5Zq.1 175 15).toInt := tl_slot (h15.1 175 15 (show ¬ ((175 = 175 ∧ 15 = 14)) by decide))
    have bM14 : M14.2.2 0 = some 180 := (h15.2.2 0 (fun h9 => by first | exact (h9 : False).elim | (simp at h9; done) | omega)).trans bM5
    rcases qx13 with ⟨rfl, qx13⟩ | ⟨rfl, qx13⟩
    · skip
      refine li_if_eq 54 dX12_held_36 (by decide) (fun cZq => absurd cZq (by decide)) (fun cZq => ?_)
      have cC : rp_cmp (rd_ch hBZq e qA) := by unfold rp_cmp; omega
      have ltZq := rd_lt (rp_cmp_nn cC)
      refine li_iload_n 0 dX12_held_39 rfl ?_
      refine li_aload_n 1 dX12_held_40 rfl ?_
      refine li_iload_n 2 dX12_held_41 rfl ?_
      refine li_callV (n := 1) (As := [.int p1Zq]) dX12_held_42 (SMZq p1Zq M14 hJ bM14 ((congrArg li_by (funext fun i => hf.1 180 i ((fun i => (show ¬ ((180 = 175 ∧ i = 14) ∨ (180 = 175 ∧ i = 15)) by first | (simp; done) | omega)) i))).trans hhB) (by rw [show (M14.1 175 12).toInt = (M0.1 175 12).toInt from Int.le_antisymm (by omega) (by omega), show (M14.1 175 13).toInt = (M0.1 175 13).toInt from Int.le_antisymm (by omega) (by omega)]; exact he) (by omega) (by omega) (Int.le_antisymm (by omega) (by omega)) ⟨by omega, by omega⟩) (by omega) (Nat.le_of_ble_eq_true rfl) w_1629 w_1631 w_53 w_112 w_1632 (by decide +kernel) rfl (by decide) sh_175 rfl rfl (Nat.le_of_ble_eq_true rfl) (fun r M18 h19 => ?_)
      obtain ⟨⟨x17, rfl, qx17⟩, h19, jM18⟩ := h19
      have gx17 := tl_rg x17
      have hf := li_fs_trans hf h19 (fun i k => fun hZq => Or.elim hZq (fun hZq => Or.inl hZq) (fun hZq => Or.inr hZq))
      have hJ := jM18
      have rM18_12 := J_sl12 (M := M18) hJ
      have rM18_13 := J_sl13 (M := M18) hJ
      have rM18_14 := J_sl14 (M := M18) hJ
      have rM18_15 := J_sl15 (M := M18) hJ
      have mM18_12 : (M18.1 175 12).toInt = (M14.1 175 12).toInt := tl_slot (h19.1 175 12 (show ¬ ((175 = 175 ∧ 12 = 14) ∨ (175 = 175 ∧ 12 = 15)) by decide))
      have mM18_13 : (M18.1 175 13).toInt = (M14.1 175 13).toInt := tl_slot (h19.1 175 13 (show ¬ ((175 = 175 ∧ 13 = 14) ∨ (175 = 175 ∧ 13 = 15)) by decide))
      have bM18 : M18.2.2 0 = some 180 := (h19.2.2 0 (fun h9 => by first | exact (h9 : False).elim | (simp at h9; done) | omega)).trans bM14
      obtain ⟨okB, qB, rb, eb1, eb2, eb3, eb4⟩ := qx17
      have finZq : ∃ okZq q : Int, rpr hBZq e 0 (p1Zq.toInt) ((M0.1 175 14).toInt) okZq q ∧ (M18.1 175 14).toInt = q ∧ (M0.1 175 14).toInt ≤ q ∧ q ≤ e ∧ ((okZq = 1 ∧ (M18.1 175 15).toInt = -1) ∨ (okZq = 0 ∧ (M18.1 175 15).toInt = q)) := ⟨okB, qB, rp_in0 (Or.inr (Or.inr ⟨qA, rp_to ra rfl rfl (Int.le_antisymm (by omega) (by omega)) rfl, cC, rp_to rb rfl (Int.le_antisymm (by omega) (by omega)) rfl rfl⟩)), eb1, by omega, by omega, eb4⟩
      refine li_icmp_le 52 dX12_held_45 (by decide) (fun c20Zq => ?_) (fun c20Zq => ?_)
      · have tc20 : x1Zq.toInt ≤ x17.toInt := tl_le c20Zq
        refine li_iconst 0 dX12_held_52 (by decide) ?_
        have z0 : (0 : Int32).toInt = 0 := rfl
        exact li_iret dX12_held_53 rfl rfl ⟨⟨_, rfl, (by exact finZq)⟩, hf, hJ⟩
      · have tc20 : x17.toInt < x1Zq.toInt := tl_nle c20Zq
        refine li_iconst 1 dX12_held_48 (by decide) ?_
        refine li_goto 53 dX12_held_49 (by decide) ?_
        have z1 : (1 : Int32).toInt = 1 := rfl
        exact li_iret dX12_held_53 rfl rfl ⟨⟨_, rfl, (by exact finZq)⟩, hf, hJ⟩
    · skip
      refine li_if_eq 54 dX12_held_36 (by decide) (fun cZq => ?_) (fun cZq => absurd rfl cZq)
      have no62 : (M14.1 175 15).toInt = -1 → ¬ rd_ch hBZq e qA = 62 := fun h9 h8 => qx13.1 (Int.le_antisymm (by omega) (by omega)) (cp62.trans h8)
      refine li_aload_n 1 dX12_held_54 rfl ?_
      refine li_bipush 61 dX12_held_55 (by decide) ?_
      have cp61 : (li_hr M14).toInt = rd_ch hBZq e (qA) := (hr_pt bM14 (by omega) rfl (by rw [show (M14.1 175 12).toInt = (M0.1 175 12).toInt from Int.le_antisymm (by omega) (by omega), show (M14.1 175 13).toInt = (M0.1 175 13).toInt from Int.le_antisymm (by omega) (by omega)]; exact he) (Int.le_antisymm (by omega) (by omega))).trans (congrArg (fun zZq => rd_ch zZq e (qA)) ((congrArg li_by (funext fun i => hf.1 180 i ((fun i => (show ¬ ((180 = 175 ∧ i = 14) ∨ (180 = 175 ∧ i = 15)) by first | (simp; done) | omega)) i))).trans hhB))
      have z61Zq : (61 : Int32).toInt = 61 := rfl
      refine li_callV (n := 1) (As := [.int 61]) dX12_held_57 (k_X12_passes (d - 1) (by omega) 61 M14 hJ (by omega)) (by omega) (Nat.le_of_ble_eq_true rfl) w_1605 w_1607 w_49 w_112 w_1608 (by decide +kernel) rfl (by decide) sh_175 rfl rfl (Nat.le_of_ble_eq_true rfl) (fun r M23 h24 => ?_)
      obtain ⟨qx22, h24, jM23⟩ := h24
      have hf := li_fs_trans hf h24 (fun i k => fun hZq => Or.inl hZq)
      have hJ := jM23
      have rM23_12 := J_sl12 (M := M23) hJ
      have rM23_13 := J_sl13 (M := M23) hJ
      have rM23_14 := J_sl14 (M := M23) hJ
      have rM23_15 := J_sl15 (M := M23) hJ
      have mM23_12 : (M23.1 175 12).toInt = (M14.1 175 12).toInt := tl_slot (h24.1 175 12 (show ¬ ((175 = 175 ∧ 12 = 14)) by decide))
      have mM23_13 : (M23.1 175 13).toInt = (M14.1 175 13).toInt := tl_slot (h24.1 175 13 (show ¬ ((175 = 175 ∧ 13 = 14)) by decide))
      have mM23_15 : (M23.1 175 15).toInt = (M14.1 175 15).toInt := tl_slot (h24.1 175 15 (show ¬ ((175 = 175 ∧ 15 = 14)) by decide))
      have bM23 : M23.2.2 0 = some 180 := (h24.2.2 0 (fun h9 => by first | exact (h9 : False).elim | (simp at h9; done) | omega)).trans bM14
      rcases qx22 with ⟨rfl, qx22⟩ | ⟨rfl, qx22⟩
      · skip
        refine li_if_eq 78 dX12_held_60 (by decide) (fun cZq => absurd cZq (by decide)) (fun cZq => ?_)
        have cC : rp_cmp (rd_ch hBZq e qA) := by unfold rp_cmp; omega
        have ltZq := rd_lt (rp_cmp_nn cC)
        refine li_iload_n 0 dX12_held_63 rfl ?_
        refine li_aload_n 1 dX12_held_64 rfl ?_
        refine li_iload_n 2 dX12_held_65 rfl ?_
        refine li_callV (n := 1) (As := [.int p1Zq]) dX12_held_66 (SMZq p1Zq M23 hJ bM23 ((congrArg li_by (funext fun i => hf.1 180 i ((fun i => (show ¬ ((180 = 175 ∧ i = 14) ∨ (180 = 175 ∧ i = 15)) by first | (simp; done) | omega)) i))).trans hhB) (by rw [show (M23.1 175 12).toInt = (M0.1 175 12).toInt from Int.le_antisymm (by omega) (by omega), show (M23.1 175 13).toInt = (M0.1 175 13).toInt from Int.le_antisymm (by omega) (by omega)]; exact he) (by omega) (by omega) (Int.le_antisymm (by omega) (by omega)) ⟨by omega, by omega⟩) (by omega) (Nat.le_of_ble_eq_true rfl) w_1629 w_1631 w_53 w_112 w_1632 (by decide +kernel) rfl (by decide) sh_175 rfl rfl (Nat.le_of_ble_eq_true rfl) (fun r M27 h28 => ?_)
        obtain ⟨⟨x26, rfl, qx26⟩, h28, jM27⟩ := h28
        have gx26 := tl_rg x26
        have hf := li_fs_trans hf h28 (fun i k => fun hZq => Or.elim hZq (fun hZq => Or.inl hZq) (fun hZq => Or.inr hZq))
        have hJ := jM27
        have rM27_12 := J_sl12 (M := M27) hJ
        have rM27_13 := J_sl13 (M := M27) hJ
        have rM27_14 := J_sl14 (M := M27) hJ
        have rM27_15 := J_sl15 (M := M27) hJ
        have mM27_12 : (M27.1 175 12).toInt = (M23.1 175 12).toInt := tl_slot (h28.1 175 12 (show ¬ ((175 = 175 ∧ 12 = 14) ∨ (175 = 175 ∧ 12 = 15)) by decide))
        have mM27_13 : (M27.1 175 13).toInt = (M23.1 175 13).toInt := tl_slot (h28.1 175 13 (show ¬ ((175 = 175 ∧ 13 = 14) ∨ (175 = 175 ∧ 13 = 15)) by decide))
        have bM27 : M27.2.2 0 = some 180 := (h28.2.2 0 (fun h9 => by first | exact (h9 : False).elim | (simp at h9; done) | omega)).trans bM23
        obtain ⟨okB, qB, rb, eb1, eb2, eb3, eb4⟩ := qx26
        have finZq : ∃ okZq q : Int, rpr hBZq e 0 (p1Zq.toInt) ((M0.1 175 14).toInt) okZq q ∧ (M27.1 175 14).toInt = q ∧ (M0.1 175 14).toInt ≤ q ∧ q ≤ e ∧ ((okZq = 1 ∧ (M27.1 175 15).toInt = -1) ∨ (okZq = 0 ∧ (M27.1 175 15).toInt = q)) := ⟨okB, qB, rp_in0 (Or.inr (Or.inr ⟨qA, rp_to ra rfl rfl (Int.le_antisymm (by omega) (by omega)) rfl, cC, rp_to rb rfl (Int.le_antisymm (by omega) (by omega)) rfl rfl⟩)), eb1, by omega, by omega, eb4⟩
        refine li_icmp_ne 76 dX12_held_69 (by decide) (fun c29Zq => ?_) (fun c29Zq => ?_)
        · have tc29 : ¬ x1Zq.toInt = x26.toInt := tl_ne c29Zq
          refine li_iconst 0 dX12_held_76 (by decide) ?_
          have z0 : (0 : Int32).toInt = 0 := rfl
          exact li_iret dX12_held_77 rfl rfl ⟨⟨_, rfl, (by exact finZq)⟩, hf, hJ⟩
        · have tc29 : x1Zq.toInt = x26.toInt := tl_eq c29Zq
          refine li_iconst 1 dX12_held_72 (by decide) ?_
          refine li_goto 77 dX12_held_73 (by decide) ?_
          have z1 : (1 : Int32).toInt = 1 := rfl
          exact li_iret dX12_held_77 rfl rfl ⟨⟨_, rfl, (by exact finZq)⟩, hf, hJ⟩
      · skip
        refine li_if_eq 78 dX12_held_60 (by decide) (fun cZq => ?_) (fun cZq => absurd rfl cZq)
        have no61 : (M23.1 175 15).toInt = -1 → ¬ rd_ch hBZq e qA = 61 := fun h9 h8 => qx22.1 (Int.le_antisymm (by omega) (by omega)) (cp61.trans h8)
        have finZq : ∃ okZq q : Int, rpr hBZq e 0 (p1Zq.toInt) ((M0.1 175 14).toInt) okZq q ∧ (M23.1 175 14).toInt = q ∧ (M0.1 175 14).toInt ≤ q ∧ q ≤ e ∧ ((okZq = 1 ∧ (M23.1 175 15).toInt = -1) ∨ (okZq = 0 ∧ (M23.1 175 15).toInt = q)) := by
          rcases ea4 with cZq | cZq
          · exact ⟨1, qA, rp_in0 (Or.inr (Or.inl ⟨rp_to ra rfl rfl cZq.1.symm rfl, (fun h9 => by rcases h9 with h9 | h9 | h9; exact no60 (Int.le_antisymm (by omega) (by omega)) h9; exact no62 (Int.le_antisymm (by omega) (by omega)) h9; exact no61 (Int.le_antisymm (by omega) (by omega)) h9), rfl⟩)), Int.le_antisymm (by omega) (by omega), by omega, by omega, Or.inl ⟨rfl, Int.le_antisymm (by omega) (by omega)⟩⟩
          · exact ⟨0, qA, rp_in0 (Or.inl ⟨rp_to ra rfl rfl cZq.1.symm rfl, rfl⟩), Int.le_antisymm (by omega) (by omega), by omega, by omega, Or.inr ⟨rfl, Int.le_antisymm (by omega) (by omega)⟩⟩
        refine li_iload_n 0 dX12_held_78 rfl ?_
        exact li_iret dX12_held_79 rfl rfl ⟨⟨_, rfl, (by exact finZq)⟩, hf, hJ⟩
theorem kk14_parse {l : Launch} {Z : li_Z} {hBZq : Nat → Int32} {e : Int} : ∀ n : Nat, (∀ (q9Zq : Int32) (M : li_M) (d : Nat), li_J M → M.2.2 0 = some 180 → li_by (M.1 180) = hBZq → min (M.1 175 12).toInt (M.1 175 13).toInt = e → (81 - (M.1 175 14).toInt).toNat ≤ n → (M.1 175 14).toInt ≤ e → (M.1 175 15).toInt = -1 → 0 ≤ q9Zq.toInt ∧ q9Zq.toInt ≤ 4 → 4 * n + 14 ≤ d → li_Met l Z YX12_part d [.ref (Z.2.2 175), .int q9Zq] M (fun r M' => (∃ x : Int32, r = some (.int x) ∧ (∃ okZq q : Int, rpr hBZq e 5 (q9Zq.toInt) ((M.1 175 14).toInt) okZq q ∧ (M'.1 175 14).toInt = q ∧ (M.1 175 14).toInt ≤ q ∧ q ≤ e ∧ ((okZq = 1 ∧ (M'.1 175 15).toInt = -1) ∨ (okZq = 0 ∧ (M'.1 175 15).toInt = q)))) ∧ li_fs (fun i k => (i = 175 ∧ k = 14) ∨ (i = 175 ∧ k = 15)) M M' ∧ li_J M')) ∧ (∀ (q9Zq : Int32) (M : li_M) (d : Nat), li_J M → M.2.2 0 = some 180 → li_by (M.1 180) = hBZq → min (M.1 175 12).toInt (M.1 175 13).toInt = e → (81 - (M.1 175 14).toInt).toNat ≤ n → (M.1 175 14).toInt ≤ e → (M.1 175 15).toInt = -1 → 0 ≤ q9Zq.toInt ∧ q9Zq.toInt ≤ 4 → 4 * n + 15 ≤ d → li_Met l Z YX12_product d [.ref (Z.2.2 175), .int q9Zq] M (fun r M' => (∃ x : Int32, r = some (.int x) ∧ (∃ okZq q : Int, rpr hBZq e 3 (q9Zq.toInt) ((M.1 175 14).toInt) okZq q ∧ (M'.1 175 14).toInt = q ∧ (M.1 175 14).toInt ≤ q ∧ q ≤ e ∧ ((okZq = 1 ∧ (M'.1 175 15).toInt = -1) ∨ (okZq = 0 ∧ (M'.1 175 15).toInt = q)))) ∧ li_fs (fun i k => (i = 175 ∧ k = 14) ∨ (i = 175 ∧ k = 15)) M M' ∧ li_J M')) ∧ (∀ (q9Zq : Int32) (M : li_M) (d : Nat), li_J M → M.2.2 0 = some 180 → li_by (M.1 180) = hBZq → min (M.1 175 12).toInt (M.1 175 13).toInt = e → (81 - (M.1 175 14).toInt).toNat ≤ n → (M.1 175 14).toInt ≤ e → (M.1 175 15).toInt = -1 → 0 ≤ q9Zq.toInt ∧ q9Zq.toInt ≤ 4 → 4 * n + 16 ≤ d → li_Met l Z YX12_sum d [.ref (Z.2.2 175), .int q9Zq] M (fun r M' => (∃ x : Int32, r = some (.int x) ∧ (∃ okZq q : Int, rpr hBZq e 1 (q9Zq.toInt) ((M.1 175 14).toInt) okZq q ∧ (M'.1 175 14).toInt = q ∧ (M.1 175 14).toInt ≤ q ∧ q ≤ e ∧ ((okZq = 1 ∧ (M'.1 175 15).toInt = -1) ∨ (okZq = 0 ∧ (M'.1 175 15).toInt = q)))) ∧ li_fs (fun i k => (i = 175 ∧ k = 14) ∨ (i = 175 ∧ k = 15)) M M' ∧ li_J M')) ∧ (∀ (q9Zq : Int32) (M : li_M) (d : Nat), li_J M → M.2.2 0 = some 180 → li_by (M.1 180) = hBZq → min (M.1 175 12).toInt (M.1 175 13).toInt = e → (81 - (M.1 175 14).toInt).toNat ≤ n → (M.1 175 14).toInt ≤ e → (M.1 175 15).toInt = -1 → 0 ≤ q9Zq.toInt ∧ q9Zq.toInt ≤ 4 → 4 * n + 17 ≤ d → li_Met l Z YX12_held d [.ref (Z.2.2 175), .int q9Zq] M (fun r M' => (∃ x : Int32, r = some (.int x) ∧ (∃ okZq q : Int, rpr hBZq e 0 (q9Zq.toInt) ((M.1 175 14).toInt) okZq q ∧ (M'.1 175 14).toInt = q ∧ (M.1 175 14).toInt ≤ q ∧ q ≤ e ∧ ((okZq = 1 ∧ (M'.1 175 15).toInt = -1) ∨ (okZq = 0 ∧ (M'.1 175 15).toInt = q)))) ∧ li_fs (fun i k => (i = 175 ∧ k = 14) ∨ (i = 175 ∧ k = 15)) M M' ∧ li_J M')) := by
  have upZq : ∀ n : Nat, (∀ (q9Zq : Int32) (M : li_M) (d : Nat), li_J M → M.2.2 0 = some 180 → li_by (M.1 180) = hBZq → min (M.1 175 12).toInt (M.1 175 13).toInt = e → (81 - (M.1 175 14).toInt).toNat ≤ n → (M.1 175 14).toInt ≤ e → (M.1 175 15).toInt = -1 → 0 ≤ q9Zq.toInt ∧ q9Zq.toInt ≤ 4 → 4 * n + 14 ≤ d → li_Met l Z YX12_part d [.ref (Z.2.2 175), .int q9Zq] M (fun r M' => (∃ x : Int32, r = some (.int x) ∧ (∃ okZq q : Int, rpr hBZq e 5 (q9Zq.toInt) ((M.1 175 14).toInt) okZq q ∧ (M'.1 175 14).toInt = q ∧ (M.1 175 14).toInt ≤ q ∧ q ≤ e ∧ ((okZq = 1 ∧ (M'.1 175 15).toInt = -1) ∨ (okZq = 0 ∧ (M'.1 175 15).toInt = q)))) ∧ li_fs (fun i k => (i = 175 ∧ k = 14) ∨ (i = 175 ∧ k = 15)) M M' ∧ li_J M')) → (∀ (q9Zq : Int32) (M : li_M) (d : Nat), li_J M → M.2.2 0 = some 180 → li_by (M.1 180) = hBZq → min (M.1 175 12).toInt (M.1 175 13).toInt = e → (81 - (M.1 175 14).toInt).toNat ≤ n → (M.1 175 14).toInt ≤ e → (M.1 175 15).toInt = -1 → 0 ≤ q9Zq.toInt ∧ q9Zq.toInt ≤ 4 → 4 * n + 14 ≤ d → li_Met l Z YX12_part d [.ref (Z.2.2 175), .int q9Zq] M (fun r M' => (∃ x : Int32, r = some (.int x) ∧ (∃ okZq q : Int, rpr hBZq e 5 (q9Zq.toInt) ((M.1 175 14).toInt) okZq q ∧ (M'.1 175 14).toInt = q ∧ (M.1 175 14).toInt ≤ q ∧ q ≤ e ∧ ((okZq = 1 ∧ (M'.1 175 15).toInt = -1) ∨ (okZq = 0 ∧ (M'.1 175 15).toInt = q)))) ∧ li_fs (fun i k => (i = 175 ∧ k = 14) ∨ (i = 175 ∧ k = 15)) M M' ∧ li_J M')) ∧ (∀ (q9Zq : Int32) (M : li_M) (d : Nat), li_J M → M.2.2 0 = some 180 → li_by (M.1 180) = hBZq → min (M.1 175 12).toInt (M.1 175 13).toInt = e → (81 - (M.1 175 14).toInt).toNat ≤ n → (M.1 175 14).toInt ≤ e → (M.1 175 15).toInt = -1 → 0 ≤ q9Zq.toInt ∧ q9Zq.toInt ≤ 4 → 4 * n + 15 ≤ d → li_Met l Z YX12_product d [.ref (Z.2.2 175), .int q9Zq] M (fun r M' => (∃ x : Int32, r = some (.int x) ∧ (∃ okZq q : Int, rpr hBZq e 3 (q9Zq.toInt) ((M.1 175 14).toInt) okZq q ∧ (M'.1 175 14).toInt = q ∧ (M.1 175 14).toInt ≤ q ∧ q ≤ e ∧ ((okZq = 1 ∧ (M'.1 175 15).toInt = -1) ∨ (okZq = 0 ∧ (M'.1 175 15).toInt = q)))) ∧ li_fs (fun i k => (i = 175 ∧ k = 14) ∨ (i = 175 ∧ k = 15)) M M' ∧ li_J M')) ∧ (∀ (q9Zq : Int32) (M : li_M) (d : Nat), li_J M → M.2.2 0 = some 180 → li_by (M.1 180) = hBZq → min (M.1 175 12).toInt (M.1 175 13).toInt = e → (81 - (M.1 175 14).toInt).toNat ≤ n → (M.1 175 14).toInt ≤ e → (M.1 175 15).toInt = -1 → 0 ≤ q9Zq.toInt ∧ q9Zq.toInt ≤ 4 → 4 * n + 16 ≤ d → li_Met l Z YX12_sum d [.ref (Z.2.2 175), .int q9Zq] M (fun r M' => (∃ x : Int32, r = some (.int x) ∧ (∃ okZq q : Int, rpr hBZq e 1 (q9Zq.toInt) ((M.1 175 14).toInt) okZq q ∧ (M'.1 175 14).toInt = q ∧ (M.1 175 14).toInt ≤ q ∧ q ≤ e ∧ ((okZq = 1 ∧ (M'.1 175 15).toInt = -1) ∨ (okZq = 0 ∧ (M'.1 175 15).toInt = q)))) ∧ li_fs (fun i k => (i = 175 ∧ k = 14) ∨ (i = 175 ∧ k = 15)) M M' ∧ li_J M')) ∧ (∀ (q9Zq : Int32) (M : li_M) (d : Nat), li_J M → M.2.2 0 = some 180 → li_by (M.1 180) = hBZq → min (M.1 175 12).toInt (M.1 175 13).toInt = e → (81 - (M.1 175 14).toInt).toNat ≤ n → (M.1 175 14).toInt ≤ e → (M.1 175 15).toInt = -1 → 0 ≤ q9Zq.toInt ∧ q9Zq.toInt ≤ 4 → 4 * n + 17 ≤ d → li_Met l Z YX12_held d [.ref (Z.2.2 175), .int q9Zq] M (fun r M' => (∃ x : Int32, r = some (.int x) ∧ (∃ okZq q : Int, rpr hBZq e 0 (q9Zq.toInt) ((M.1 175 14).toInt) okZq q ∧ (M'.1 175 14).toInt = q ∧ (M.1 175 14).toInt ≤ q ∧ q ≤ e ∧ ((okZq = 1 ∧ (M'.1 175 15).toInt = -1) ∨ (okZq = 0 ∧ (M'.1 175 15).toInt = q)))) ∧ li_fs (fun i k => (i = 175 ∧ k = 14) ∨ (i = 175 ∧ k = 15)) M M' ∧ li_J M')) := by
    intro n hp
    have hpr : (∀ (q9Zq : Int32) (M : li_M) (d : Nat), li_J M → M.2.2 0 = some 180 → li_by (M.1 180) = hBZq → min (M.1 175 12).toInt (M.1 175 13).toInt = e → (81 - (M.1 175 14).toInt).toNat ≤ n → (M.1 175 14).toInt ≤ e → (M.1 175 15).toInt = -1 → 0 ≤ q9Zq.toInt ∧ q9Zq.toInt ≤ 4 → 4 * n + 15 ≤ d → li_Met l Z YX12_product d [.ref (Z.2.2 175), .int q9Zq] M (fun r M' => (∃ x : Int32, r = some (.int x) ∧ (∃ okZq q : Int, rpr hBZq e 3 (q9Zq.toInt) ((M.1 175 14).toInt) okZq q ∧ (M'.1 175 14).toInt = q ∧ (M.1 175 14).toInt ≤ q ∧ q ≤ e ∧ ((okZq = 1 ∧ (M'.1 175 15).toInt = -1) ∨ (okZq = 0 ∧ (M'.1 175 15).toInt = q)))) ∧ li_fs (fun i k => (i = 175 ∧ k = 14) ∨ (i = 175 ∧ k = 15)) M M' ∧ li_J M')) := fun q M d hJ b hbZq em hn haZq hw h4 hdZq => k14_X12_product d (by omega) q (4 * n + 14) (by omega) M hJ b hBZq hbZq e em haZq hw h4 (fun q2Zq M2Zq j2Zq b2 hb2 em2 h2 ha2 hw2 h42 => hp q2Zq M2Zq _ j2Zq b2 hb2 em2 (by omega) ha2 hw2 h42 (by omega))
    have hsm : (∀ (q9Zq : Int32) (M : li_M) (d : Nat), li_J M → M.2.2 0 = some 180 → li_by (M.1 180) = hBZq → min (M.1 175 12).toInt (M.1 175 13).toInt = e → (81 - (M.1 175 14).toInt).toNat ≤ n → (M.1 175 14).toInt ≤ e → (M.1 175 15).toInt = -1 → 0 ≤ q9Zq.toInt ∧ q9Zq.toInt ≤ 4 → 4 * n + 16 ≤ d → li_Met l Z YX12_sum d [.ref (Z.2.2 175), .int q9Zq] M (fun r M' => (∃ x : Int32, r = some (.int x) ∧ (∃ okZq q : Int, rpr hBZq e 1 (q9Zq.toInt) ((M.1 175 14).toInt) okZq q ∧ (M'.1 175 14).toInt = q ∧ (M.1 175 14).toInt ≤ q ∧ q ≤ e ∧ ((okZq = 1 ∧ (M'.1 175 15).toInt = -1) ∨ (okZq = 0 ∧ (M'.1 175 15).toInt = q)))) ∧ li_fs (fun i k => (i = 175 ∧ k = 14) ∨ (i = 175 ∧ k = 15)) M M' ∧ li_J M')) := fun q M d hJ b hbZq em hn haZq hw h4 hdZq => k14_X12_sum d (by omega) q (4 * n + 15) (by omega) M hJ b hBZq hbZq e em haZq hw h4 (fun q2Zq M2Zq j2Zq b2 hb2 em2 h2 ha2 hw2 h42 => hpr q2Zq M2Zq _ j2Zq b2 hb2 em2 (by omega) ha2 hw2 h42 (by omega))
    exact ⟨hp, hpr, hsm, fun q M d hJ b hbZq em hn haZq hw h4 hdZq => k14_X12_held d (by omega) q (4 * n + 16) (by omega) M hJ b hBZq hbZq e em haZq hw h4 (fun q2Zq M2Zq j2Zq b2 hb2 em2 h2 ha2 hw2 h42 => hsm q2Zq M2Zq _ j2Zq b2 hb2 em2 (by omega) ha2 hw2 h42 (by omega))⟩
  intro n
  induction n with
  | zero => exact upZq 0 (fun q M d hJ b hbZq em hn haZq hw h4 hdZq => k14_X12_part d (by omega) q 13 (by omega) M hJ b hBZq hbZq e em haZq hw h4 (fun q2Zq M2Zq j2Zq b2 hb2 em2 h2 ha2 hw2 h42 => absurd (J_sl14 j2Zq) (by omega)) (fun q2Zq M2Zq j2Zq b2 hb2 em2 h2 ha2 hw2 h42 => absurd (J_sl14 j2Zq) (by omega)))
  | succ n ihZq => exact upZq (n + 1) (fun q M d hJ b hbZq em hn haZq hw h4 hdZq => k14_X12_part d (by omega) q (4 * n + 17) (by omega) M hJ b hBZq hbZq e em haZq hw h4 (fun q2Zq M2Zq j2Zq b2 hb2 em2 h2 ha2 hw2 h42 => ihZq.1 q2Zq M2Zq _ j2Zq b2 hb2 em2 (by omega) ha2 hw2 h42 (by omega)) (fun q2Zq M2Zq j2Zq b2 hb2 em2 h2 ha2 hw2 h42 => ihZq.2.2.2 q2Zq M2Zq _ j2Zq b2 hb2 em2 (by omega) ha2 hw2 h42 (by omega)))
