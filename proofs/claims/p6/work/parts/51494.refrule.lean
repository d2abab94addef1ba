theorem rp_mv4 {g : Nat → Int32} {len p p' : Int} (hZq : rp_mul (rd_ch g len p)) (e : p' = p) : rp_mul (rd_ch g len p') := by subst e; exact hZq
theorem rp_mv2 {g : Nat → Int32} {len p p' : Int} (hZq : rp_add (rd_ch g len p)) (e : p' = p) : rp_add (rd_ch g len p') := by subst e; exact hZq

set_option maxRecDepth 100000 in
set_option maxHeartbeats 4000000 in
theorem k14_X12_letterOf {l : Launch} {Z : li_Z} (d : Nat) (hdZq : 1 ≤ d) (p1Zq : Int32) (M0 : li_M) (hJ : li_J M0) : li_Met l Z YX12_letterOf d [.int p1Zq] M0 (fun r M' => (∃ x : Int32, r = some (.int x) ∧ ((x.toInt = -1 ∧ ¬ rp_let p1Zq.toInt) ∨ (0 ≤ x.toInt ∧ x.toInt ≤ 5 ∧ rp_let p1Zq.toInt))) ∧ li_fs (fun i k => False) M0 M' ∧ li_J M') := by
  refine li_enter (by decide +kernel) (Nat.le_of_ble_eq_true rfl) ?_
  show li_T l Z YX12_letterOf d 0 [(0, .int p1Zq)] [] M0 _
  have hf : li_fs (fun i k => False) M0 M0 := li_fs_refl
  have gp1 := tl_rg p1Zq
  refine li_iload_n 0 dX12_letterOf_0 rfl ?_
  refine li_bipush 108 dX12_letterOf_1 (by decide) ?_
  refine li_icmp_ne 10 dX12_letterOf_3 (by decide) (fun c1Zq => ?_) (fun c1Zq => ?_)
  · have tc1 : ¬ p1Zq.toInt = 108 := tl_ne c1Zq
    refine li_iload_n 0 dX12_letterOf_10 rfl ?_
    refine li_bipush 119 dX12_letterOf_11 (by decide) ?_
    refine li_icmp_ne 20 dX12_letterOf_13 (by decide) (fun c2Zq => ?_) (fun c2Zq => ?_)
    · have tc2 : ¬ p1Zq.toInt = 119 := tl_ne c2Zq
      refine li_iload_n 0 dX12_letterOf_20 rfl ?_
      refine li_bipush 115 dX12_letterOf_21 (by decide) ?_
      refine li_icmp_ne 30 dX12_letterOf_23 (by decide) (fun c3Zq => ?_) (fun c3Zq => ?_)
      · have tc3 : ¬ p1Zq.toInt = 115 := tl_ne c3Zq
        refine li_iload_n 0 dX12_letterOf_30 rfl ?_
        refine li_bipush 99 dX12_letterOf_31 (by decide) ?_
        refine li_icmp_ne 40 dX12_letterOf_33 (by decide) (fun c4Zq => ?_) (fun c4Zq => ?_)
        · have tc4 : ¬ p1Zq.toInt = 99 := tl_ne c4Zq
          refine li_iload_n 0 dX12_letterOf_40 rfl ?_
          refine li_bipush 100 dX12_letterOf_41 (by decide) ?_
          refine li_icmp_ne 50 dX12_letterOf_43 (by decide) (fun c5Zq => ?_) (fun c5Zq => ?_)
          · have tc5 : ¬ p1Zq.toInt = 100 := tl_ne c5Zq
            refine li_iload_n 0 dX12_letterOf_50 rfl ?_
            refine li_bipush 104 dX12_letterOf_51 (by decide) ?_
            refine li_icmp_ne 60 dX12_letterOf_53 (by decide) (fun c6Zq => ?_) (fun c6Zq => ?_)
            · have tc6 : ¬ p1Zq.toInt = 104 := tl_ne c6Zq
              refine li_iconst (-1) dX12_letterOf_60 (by decide) ?_
              have zm1 : ((-1) : Int32).toInt = -1 := rfl
              exact li_iret dX12_letterOf_61 rfl rfl ⟨⟨_, rfl, (by unfold rp_let; omega)⟩, hf, hJ⟩
            · have tc6 : p1Zq.toInt = 104 := tl_eq c6Zq
              refine li_iconst 5 dX12_letterOf_56 (by decide) ?_
              refine li_goto 61 dX12_letterOf_57 (by decide) ?_
              have z5 : (5 : Int32).toInt = 5 := rfl
              exact li_iret dX12_letterOf_61 rfl rfl ⟨⟨_, rfl, (by unfold rp_let; omega)⟩, hf, hJ⟩
          · have tc5 : p1Zq.toInt = 100 := tl_eq c5Zq
            refine li_iconst 4 dX12_letterOf_46 (by decide) ?_
            refine li_goto 61 dX12_letterOf_47 (by decide) ?_
            have z4 : (4 : Int32).toInt = 4 := rfl
            exact li_iret dX12_letterOf_61 rfl rfl ⟨⟨_, rfl, (by unfold rp_let; omega)⟩, hf, hJ⟩
        · have tc4 : p1Zq.toInt = 99 := tl_eq c4Zq
          refine li_iconst 3 dX12_letterOf_36 (by decide) ?_
          refine li_goto 61 dX12_letterOf_37 (by decide) ?_
          have z3 : (3 : Int32).toInt = 3 := rfl
          exact li_iret dX12_letterOf_61 rfl rfl ⟨⟨_, rfl, (by unfold rp_let; omega)⟩, hf, hJ⟩
      · have tc3 : p1Zq.toInt = 115 := tl_eq c3Zq
        refine li_iconst 2 dX12_letterOf_26 (by decide) ?_
        refine li_goto 61 dX12_letterOf_27 (by decide) ?_
        have z2 : (2 : Int32).toInt = 2 := rfl
        exact li_iret dX12_letterOf_61 rfl rfl ⟨⟨_, rfl, (by unfold rp_let; omega)⟩, hf, hJ⟩
    · have tc2 : p1Zq.toInt = 119 := tl_eq c2Zq
      refine li_iconst 1 dX12_letterOf_16 (by decide) ?_
      refine li_goto 61 dX12_letterOf_17 (by decide) ?_
      have z1 : (1 : Int32).toInt = 1 := rfl
      exact li_iret dX12_letterOf_61 rfl rfl ⟨⟨_, rfl, (by unfold rp_let; omega)⟩, hf, hJ⟩
  · have tc1 : p1Zq.toInt = 108 := tl_eq c1Zq
    refine li_iconst 0 dX12_letterOf_6 (by decide) ?_
    refine li_goto 61 dX12_letterOf_7 (by decide) ?_
    have z0 : (0 : Int32).toInt = 0 := rfl
    exact li_iret dX12_letterOf_61 rfl rfl ⟨⟨_, rfl, (by unfold rp_let; omega)⟩, hf, hJ⟩
set_option maxRecDepth 100000 in
set_option maxHeartbeats 4000000 in
theorem k14_X12_part {l : Launch} {Z : li_Z} (d : Nat) (hdZq : 5 ≤ d) (p1Zq : Int32) (dE : Nat) (hE : dE + 1 ≤ d) (M0 : li_M) (hJ : li_J M0) (bM0 : M0.2.2 0 = some 180) (hBZq : Nat → Int32) (hhB : li_by (M0.1 180) = hBZq) (e : Int) (he : min (M0.1 175 12).toInt (M0.1 175 13).toInt = e) (hat : (M0.1 175 14).toInt ≤ e) (hw : (M0.1 175 15).toInt = -1) (h4 : 0 ≤ p1Zq.toInt ∧ p1Zq.toInt ≤ 4) (IHp : ∀ (q9Zq : Int32) (M : li_M), li_J M → M.2.2 0 = some 180 → li_by (M.1 180) = hBZq → min (M.1 175 12).toInt (M.1 175 13).toInt = e → (M0.1 175 14).toInt + 1 ≤ (M.1 175 14).toInt → (M.1 175 14).toInt ≤ e → (M.1 175 15).toInt = -1 → 0 ≤ q9Zq.toInt ∧ q9Zq.toInt ≤ 4 → li_Met l Z YX12_part dE [.ref (Z.2.2 175), .int q9Zq] M (fun r M' => (∃ x : Int32, r = some (.int x) ∧ (∃ okZq q : Int, rpr hBZq e 5 (q9Zq.toInt) ((M.1 175 14).toInt) okZq q ∧ (M'.1 175 14).toInt = q ∧ (M.1 175 14).toInt ≤ q ∧ q ≤ e ∧ ((okZq = 1 ∧ (M'.1 175 15).toInt = -1) ∨ (okZq = 0 ∧ (M'.1 175 15).toInt = q)))) ∧ li_fs (fun i k => (i = 175 ∧ k = 14) ∨ (i = 175 ∧ k = 15)) M M' ∧ li_J M')) (IHh : ∀ (q9Zq : Int32) (M : li_M), li_J M → M.2.2 0 = some 180 → li_by (M.1 180) = hBZq → min (M.1 175 12).toInt (M.1 175 13).toInt = e → (M0.1 175 14).toInt + 1 ≤ (M.1 175 14).toInt → (M.1 175 14).toInt ≤ e → (M.1 175 15).toInt = -1 → 0 ≤ q9Zq.toInt ∧ q9Zq.toInt ≤ 4 → li_Met l Z YX12_held dE [.ref (Z.2.2 175), .int q9Zq] M (fun r M' => (∃ x : Int32, r = some (.int x) ∧ (∃ okZq q : Int, rpr hBZq e 0 (q9Zq.toInt) ((M.1 175 14).toInt) okZq q ∧ (M'.1 175 14).toInt = q ∧ (M.1 175 14).toInt ≤ q ∧ q ≤ e ∧ ((okZq = 1 ∧ (M'.1 175 15).toInt = -1) ∨ (okZq = 0 ∧ (M'.1 175 15).toInt = q)))) ∧ li_fs (fun i k => (i = 175 ∧ k = 14) ∨ (i = 175 ∧ k = 15)) M M' ∧ li_J M')) : li_Met l Z YX12_part d [.ref (Z.2.2 175), .int p1Zq] M0 (fun r M' => (∃ x : Int32, r = some (.int x) ∧ (∃ okZq q : Int, rpr hBZq e 5 (p1Zq.toInt) ((M0.1 175 14).toInt) okZq q ∧ (M'.1 175 14).toInt = q ∧ (M0.1 175 14).toInt ≤ q ∧ q ≤ e ∧ ((okZq = 1 ∧ (M'.1 175 15).toInt = -1) ∨ (okZq = 0 ∧ (M'.1 175 15).toInt = q)))) ∧ li_fs (fun i k => (i = 175 ∧ k = 14) ∨ (i = 175 ∧ k = 15)) M0 M' ∧ li_J M') := by
  refine li_enter (by decide +kernel) (Nat.le_of_ble_eq_true rfl) ?_
  show li_T l Z YX12_part d 0 [(0, .ref (Z.2.2 175)), (1, .int p1Zq)] [] M0 _
  have hf : li_fs (fun i k => (i = 175 ∧ k = 14) ∨ (i = 175 ∧ k = 15)) M0 M0 := li_fs_refl
  have gp1 := tl_rg p1Zq
  have rM0_12 := J_sl12 (M := M0) hJ
  have rM0_13 := J_sl13 (M := M0) hJ
  have rM0_14 := J_sl14 (M := M0) hJ
  have rM0_15 := J_sl15 (M := M0) hJ
  refine li_aload_n 0 dX12_part_0 rfl ?_
  refine li_bipush 45 dX12_part_1 (by decide) ?_
  have ch0 : (li_hr M0).toInt = rd_ch hBZq e ((M0.1 175 14).toInt) := (hr_pt bM0 (by omega) rfl (by rw [show (M0.1 175 12).toInt = (M0.1 175 12).toInt from Int.le_antisymm (by omega) (by omega), show (M0.1 175 13).toInt = (M0.1 175 13).toInt from Int.le_antisymm (by omega) (by omega)]; exact he) (Int.le_antisymm (by omega) (by omega))).trans (congrArg (fun zZq => rd_ch zZq e ((M0.1 175 14).toInt)) ((congrArg li_by (funext fun i => hf.1 180 i ((fun i => (show ¬ ((180 = 175 ∧ i = 14) ∨ (180 = 175 ∧ i = 15)) by first | (simp; done) | omega)) i))).trans hhB))
  have z45Zq : (45 : Int32).toInt = 45 := rfl
  refine li_callV (n := 1) (As := [.int 45]) dX12_part_3 (k_X12_passes (d - 1) (by omega) 45 M0 hJ (by omega)) (by omega) (Nat.le_of_ble_eq_true rfl) w_1605 w_1607 w_49 w_112 w_1608 (by decide +kernel) rfl (by decide) sh_175 rfl rfl (Nat.le_of_ble_eq_true rfl) (fun r M2Zq h3 => ?_)
  obtain ⟨qx1, h3, jM2⟩ := h3
  have hf := li_fs_trans hf h3 (fun i k => fun hZq => Or.inl hZq)
  have hJ := jM2
  have rM2_12 := J_sl12 (M := M2Zq) hJ
  have rM2_13 := J_sl13 (M := M2Zq) hJ
  have rM2_14 := J_sl14 (M := M2Zq) hJ
  have rM2_15 := J_sl15 (M := M2Zq) hJ
  have mM2_12 : (M2Zq.1 175 12).toInt = (M0.1 175 12).toInt := tl_slot (h3.1 175 12 (show ¬ ((175 = 175 ∧ 12 = 14)) by decide))
  have mM2_13 : (M2Zq.1 175 13).toInt = (M0.1 175 13).toInt := tl_slot (h3.1 175 13 (show ¬ ((175 = 175 ∧ 13 = 14)) by decide))
  have mM2_15 : (M2Zq.1 175 15).toInt = (M0.1 175 15).toInt := tl_slot (h3.1 175 15 (show ¬ ((175 = 175 ∧ 15 = 14)) by decide))
  have bM2 : M2Zq.2.2 0 = some 180 := (h3.2.2 0 (fun h9 => by first | exact (h9 : False).elim | (simp at h9; done) | omega)).trans bM0
  rcases qx1 with ⟨rfl, qx1⟩ | ⟨rfl, qx1⟩
  · skip
    refine li_if_eq 16 dX12_part_6 (by decide) (fun cZq => absurd cZq (by decide)) (fun cZq => ?_)
    have c45 : rd_ch hBZq e ((M0.1 175 14).toInt) = 45 := Int.le_antisymm (by omega) (by omega)
    refine li_aload_n 0 dX12_part_9 rfl ?_
    refine li_iload_n 1 dX12_part_10 rfl ?_
    refine li_callV (n := 1) (As := [.int p1Zq]) dX12_part_11 (IHp p1Zq M2Zq hJ bM2 ((congrArg li_by (funext fun i => hf.1 180 i ((fun i => (show ¬ ((180 = 175 ∧ i = 14) ∨ (180 = 175 ∧ i = 15)) by first | (simp; done) | omega)) i))).trans hhB) (by rw [show (M2Zq.1 175 12).toInt = (M0.1 175 12).toInt from Int.le_antisymm (by omega) (by omega), show (M2Zq.1 175 13).toInt = (M0.1 175 13).toInt from Int.le_antisymm (by omega) (by omega)]; exact he) (by omega) (by omega) (Int.le_antisymm (by omega) (by omega)) ⟨by omega, by omega⟩) (by omega) (Nat.le_of_ble_eq_true rfl) w_1637 w_1639 w_55 w_112 w_1640 (by decide +kernel) rfl (by decide) sh_175 rfl rfl (Nat.le_of_ble_eq_true rfl) (fun r M6Zq h7 => ?_)
    obtain ⟨⟨x5Zq, rfl, qx5⟩, h7, jM6⟩ := h7
    have gx5 := tl_rg x5Zq
    have hf := li_fs_trans hf h7 (fun i k => fun hZq => Or.elim hZq (fun hZq => Or.inl hZq) (fun hZq => Or.inr hZq))
    have hJ := jM6
    have rM6_12 := J_sl12 (M := M6Zq) hJ
    have rM6_13 := J_sl13 (M := M6Zq) hJ
    have rM6_14 := J_sl14 (M := M6Zq) hJ
    have rM6_15 := J_sl15 (M := M6Zq) hJ
    have mM6_12 : (M6Zq.1 175 12).toInt = (M2Zq.1 175 12).toInt := tl_slot (h7.1 175 12 (show ¬ ((175 = 175 ∧ 12 = 14) ∨ (175 = 175 ∧ 12 = 15)) by decide))
    have mM6_13 : (M6Zq.1 175 13).toInt = (M2Zq.1 175 13).toInt := tl_slot (h7.1 175 13 (show ¬ ((175 = 175 ∧ 13 = 14) ∨ (175 = 175 ∧ 13 = 15)) by decide))
    have bM6 : M6Zq.2.2 0 = some 180 := (h7.2.2 0 (fun h9 => by first | exact (h9 : False).elim | (simp at h9; done) | omega)).trans bM2
    obtain ⟨ok1, q1Zq, ra, ea1, ea2, ea3, ea4⟩ := qx5
    have finZq : ∃ okZq q : Int, rpr hBZq e 5 (p1Zq.toInt) ((M0.1 175 14).toInt) okZq q ∧ (M6Zq.1 175 14).toInt = q ∧ (M0.1 175 14).toInt ≤ q ∧ q ≤ e ∧ ((okZq = 1 ∧ (M6Zq.1 175 15).toInt = -1) ∨ (okZq = 0 ∧ (M6Zq.1 175 15).toInt = q)) := ⟨ok1, q1Zq, rp_in5 (Or.inl ⟨c45, rp_to ra rfl (Int.le_antisymm (by omega) (by omega)) rfl rfl⟩), ea1, by omega, by omega, ea4⟩
    refine li_ineg dX12_part_14 ?_
    refine li_top (fun x8 ex8 => ?_)
    try (have tx8 : x8.toInt = -(x5Zq : Int32).toInt := tl_neg ex8 (by omega))
    exact li_iret dX12_part_15 rfl rfl ⟨⟨_, rfl, (by first | exact finZq | exact absurd hw (by omega))⟩, hf, hJ⟩
  · skip
    refine li_if_eq 16 dX12_part_6 (by decide) (fun cZq => ?_) (fun cZq => absurd rfl cZq)
    have n45 : ¬ rd_ch hBZq e ((M0.1 175 14).toInt) = 45 := fun h9 => qx1.1 (Int.le_antisymm (by omega) (by omega)) (ch0.trans h9)
    refine li_aload_n 0 dX12_part_16 rfl ?_
    refine li_callV (n := 0) (As := []) dX12_part_17 (k_X12_fine (d - 1) (by omega)  M2Zq hJ ) (by omega) (Nat.le_of_ble_eq_true rfl) w_1581 w_1583 w_43 w_112 w_1584 (by decide +kernel) rfl (by decide) sh_175 rfl rfl (Nat.le_of_ble_eq_true rfl) (fun r M11 h12 => ?_)
    obtain ⟨qx10, h12, jM11⟩ := h12
    have hf := li_fs_trans hf h12 (fun i k hZq => False.elim hZq)
    have kM11 : (li_hr M11).toInt = (li_hr M2Zq).toInt := li_hr_fs h12 id id id id (fun _ _ _ => id) (by assumption)
    have hJ := jM11
    have rM11_12 := J_sl12 (M := M11) hJ
    have rM11_13 := J_sl13 (M := M11) hJ
    have rM11_14 := J_sl14 (M := M11) hJ
    have rM11_15 := J_sl15 (M := M11) hJ
    have mM11_12 : (M11.1 175 12).toInt = (M2Zq.1 175 12).toInt := tl_slot (h12.1 175 12 id)
    have mM11_13 : (M11.1 175 13).toInt = (M2Zq.1 175 13).toInt := tl_slot (h12.1 175 13 id)
    have mM11_14 : (M11.1 175 14).toInt = (M2Zq.1 175 14).toInt := tl_slot (h12.1 175 14 id)
    have mM11_15 : (M11.1 175 15).toInt = (M2Zq.1 175 15).toInt := tl_slot (h12.1 175 15 id)
    have bM11 : M11.2.2 0 = some 180 := (h12.2.2 0 (fun h9 => by first | exact (h9 : False).elim | (simp at h9; done) | omega)).trans bM2
    rcases qx10 with ⟨rfl, qx10⟩ | ⟨rfl, qx10⟩
    · skip
      refine li_if_ne 25 dX12_part_20 (by decide) (fun cZq => ?_) (fun cZq => absurd cZq (by decide))
      refine li_aload_n 0 dX12_part_25 rfl ?_
      have ch26 : (li_hr M11).toInt = rd_ch hBZq e ((M0.1 175 14).toInt) := (hr_pt bM11 (by omega) rfl (by rw [show (M11.1 175 12).toInt = (M0.1 175 12).toInt from Int.le_antisymm (by omega) (by omega), show (M11.1 175 13).toInt = (M0.1 175 13).toInt from Int.le_antisymm (by omega) (by omega)]; exact he) (Int.le_antisymm (by omega) (by omega))).trans (congrArg (fun zZq => rd_ch zZq e ((M0.1 175 14).toInt)) ((congrArg li_by (funext fun i => hf.1 180 i ((fun i => (show ¬ ((180 = 175 ∧ i = 14) ∨ (180 = 175 ∧ i = 15)) by first | (simp; done) | omega)) i))).trans hhB))
      refine li_callV (n := 0) (As := []) dX12_part_26 (k_X12_here (d - 1) (by omega)  M11 hJ ) (by omega) (Nat.le_of_ble_eq_true rfl) w_1597 w_1599 w_47 w_112 w_1600 (by decide +kernel) rfl (by decide) sh_175 rfl rfl (Nat.le_of_ble_eq_true rfl) (fun r M15 h16Zq => ?_)
      obtain ⟨⟨x14, rfl, qx14⟩, h16Zq, jM15⟩ := h16Zq
      have gx14 := tl_rg x14
      have hf := li_fs_trans hf h16Zq (fun i k hZq => False.elim hZq)
      have kM15 : (li_hr M15).toInt = (li_hr M11).toInt := li_hr_fs h16Zq id id id id (fun _ _ _ => id) (by assumption)
      have hJ := jM15
      have rM15_12 := J_sl12 (M := M15) hJ
      have rM15_13 := J_sl13 (M := M15) hJ
      have rM15_14 := J_sl14 (M := M15) hJ
      have rM15_15 := J_sl15 (M := M15) hJ
      have mM15_12 : (M15.1 175 12).toInt = (M11.1 175 12).toInt := tl_slot (h16Zq.1 175 12 id)
      have mM15_13 : (M15.1 175 13).toInt = (M11.1 175 13).toInt := tl_slot (h16Zq.1 175 13 id)
      have mM15_14 : (M15.1 175 14).toInt = (M11.1 175 14).toInt := tl_slot (h16Zq.1 175 14 id)
      have mM15_15 : (M15.1 175 15).toInt = (M11.1 175 15).toInt := tl_slot (h16Zq.1 175 15 id)
      have bM15 : M15.2.2 0 = some 180 := (h16Zq.2.2 0 (fun h9 => by first | exact (h9 : False).elim | (simp at h9; done) | omega)).trans bM11
      have c26 : x14.toInt = rd_ch hBZq e ((M0.1 175 14).toInt) := Int.le_antisymm (by omega) (by omega)
      refine li_istore_n [(2, .int x14), (0, .ref (Z.2.2 175)), (1, .int p1Zq)] dX12_part_29 (by decide) rfl ?_
      refine li_iload_n 0 dX12_part_30 rfl ?_
      refine li_bipush 40 dX12_part_31 (by decide) ?_
      refine li_icmp_ne 67 dX12_part_33 (by decide) (fun c17 => ?_) (fun c17 => ?_)
      · have tc17 : ¬ x14.toInt = 40 := tl_ne c17
        have n40Zq : ¬ (rd_ch hBZq e ((M0.1 175 14).toInt) = 40 ∧ p1Zq.toInt < 4) := fun h9 => by omega
        refine li_iload_n 0 dX12_part_67 rfl ?_
        refine li_bipush 48 dX12_part_68 (by decide) ?_
        refine li_bipush 57 dX12_part_70 (by decide) ?_
        have z48Zq : (48 : Int32).toInt = 48 := rfl
        have z57 : (57 : Int32).toInt = 57 := rfl
        refine li_callS (n := 3) (As := [.int x14, .int 48, .int 57]) dX12_part_72 (k_X12_in (d - 1) (by omega) x14 48 57 M15 hJ ) (by omega) (Nat.le_of_ble_eq_true rfl) w_1570 w_1571 w_112 w_1572 (by decide +kernel) rfl rfl (Nat.le_of_ble_eq_true rfl) (fun r M19 h20 => ?_)
        obtain ⟨qx18, h20, jM19⟩ := h20
        have hf := li_fs_trans hf h20 (fun i k hZq => False.elim hZq)
        have kM19 : (li_hr M19).toInt = (li_hr M15).toInt := li_hr_fs h20 id id id id (fun _ _ _ => id) (by assumption)
        have hJ := jM19
        have rM19_12 := J_sl12 (M := M19) hJ
        have rM19_13 := J_sl13 (M := M19) hJ
        have rM19_14 := J_sl14 (M := M19) hJ
        have rM19_15 := J_sl15 (M := M19) hJ
        have mM19_12 : (M19.1 175 12).toInt = (M15.1 175 12).toInt := tl_slot (h20.1 175 12 id)
        have mM19_13 : (M19.1 175 13).toInt = (M15.1 175 13).toInt := tl_slot (h20.1 175 13 id)
        have mM19_14 : (M19.1 175 14).toInt = (M15.1 175 14).toInt := tl_slot (h20.1 175 14 id)
        have mM19_15 : (M19.1 175 15).toInt = (M15.1 175 15).toInt := tl_slot (h20.1 175 15 id)
        have bM19 : M19.2.2 0 = some 180 := (h20.2.2 0 (fun h9 => by first | exact (h9 : False).elim | (simp at h9; done) | omega)).trans bM15
        rcases qx18 with ⟨rfl, qx18⟩ | ⟨rfl, qx18⟩
        · skip
          refine li_if_eq 84 dX12_part_75 (by decide) (fun cZq => absurd cZq (by decide)) (fun cZq => ?_)
          refine li_aload_n 1 dX12_part_78 rfl ?_
          refine li_iconst 3 dX12_part_79 (by decide) ?_
          obtain ⟨rn, qn, nq0⟩ : ∃ r q, li_nq hBZq e 3 (-1) ((M0.1 175 14).toInt) r q := li_nq_self
          have z3 : (3 : Int32).toInt = 3 := rfl
          refine li_callV (n := 1) (As := [.int 3]) dX12_part_80 (k5_X12_number (d - 1) (by omega) 3 M19 hJ (by decide) bM19 _ _ (li_nq_tr ((congrArg li_by (funext fun i => hf.1 180 i ((fun i => (show ¬ ((180 = 175 ∧ i = 14) ∨ (180 = 175 ∧ i = 15)) by first | (simp; done) | omega)) i))).trans hhB) (by rw [show (M19.1 175 12).toInt = (M0.1 175 12).toInt from Int.le_antisymm (by omega) (by omega), show (M19.1 175 13).toInt = (M0.1 175 13).toInt from Int.le_antisymm (by omega) (by omega)]; exact he) (by decide) rfl (Int.le_antisymm (by omega) (by omega)) rfl rfl nq0)) (by omega) (Nat.le_of_ble_eq_true rfl) w_1589 w_1591 w_45 w_112 w_1592 (by decide +kernel) rfl (by decide) sh_175 rfl rfl (Nat.le_of_ble_eq_true rfl) (fun r M23 h24 => ?_)
          obtain ⟨⟨x22, rfl, qx22⟩, h24, jM23⟩ := h24
          have gx22 := tl_rg x22
          have hf := li_fs_trans hf h24 (fun i k => fun hZq => Or.elim hZq (fun hZq => Or.inl hZq) (fun hZq => Or.inr hZq))
          have hJ := jM23
          have rM23_12 := J_sl12 (M := M23) hJ
          have rM23_13 := J_sl13 (M := M23) hJ
          have rM23_14 := J_sl14 (M := M23) hJ
          have rM23_15 := J_sl15 (M := M23) hJ
          have mM23_12 : (M23.1 175 12).toInt = (M19.1 175 12).toInt := tl_slot (h24.1 175 12 (show ¬ ((175 = 175 ∧ 12 = 14) ∨ (175 = 175 ∧ 12 = 15)) by decide))
          have mM23_13 : (M23.1 175 13).toInt = (M19.1 175 13).toInt := tl_slot (h24.1 175 13 (show ¬ ((175 = 175 ∧ 13 = 14) ∨ (175 = 175 ∧ 13 = 15)) by decide))
          have bM23 : M23.2.2 0 = some 180 := (h24.2.2 0 (fun h9 => by first | exact (h9 : False).elim | (simp at h9; done) | omega)).trans bM19
          have nl : ¬ rp_let (rd_ch hBZq e ((M0.1 175 14).toInt)) := by unfold rp_let; omega
          have em9 : min (M19.1 175 12).toInt (M19.1 175 13).toInt = e := (by rw [show (M19.1 175 12).toInt = (M0.1 175 12).toInt from Int.le_antisymm (by omega) (by omega), show (M19.1 175 13).toInt = (M0.1 175 13).toInt from Int.le_antisymm (by omega) (by omega)]; exact he)
          have um := qx22.2.2.2 (by rw [em9]; omega)
          rw [em9] at um
          have finZq : ∃ okZq q : Int, rpr hBZq e 5 (p1Zq.toInt) ((M0.1 175 14).toInt) okZq q ∧ (M23.1 175 14).toInt = q ∧ (M0.1 175 14).toInt ≤ q ∧ q ≤ e ∧ ((okZq = 1 ∧ (M23.1 175 15).toInt = -1) ∨ (okZq = 0 ∧ (M23.1 175 15).toInt = q)) := by
            have hq := qx22.1 (Int.le_antisymm (by omega) (by omega))
            rcases Int.lt_or_le rn 0 with cZq | cZq
            · have u := hq.1 cZq; exact ⟨0, qn, rp_in5 (Or.inr ⟨n45, rp_in6 (Or.inr ⟨n40Zq, Or.inr ⟨nl, rn, nq0, Or.inr ⟨cZq, rfl⟩⟩⟩)⟩), Int.le_antisymm (by omega) (by omega), by omega, by omega, Or.inr ⟨rfl, Int.le_antisymm (by omega) (by omega)⟩⟩
            · have u := hq.2 cZq; exact ⟨1, qn, rp_in5 (Or.inr ⟨n45, rp_in6 (Or.inr ⟨n40Zq, Or.inr ⟨nl, rn, nq0, Or.inl ⟨cZq, rfl⟩⟩⟩)⟩), Int.le_antisymm (by omega) (by omega), by omega, by omega, Or.inl ⟨rfl, u.2.2⟩⟩
          exact li_iret dX12_part_83 rfl rfl ⟨⟨_, rfl, (by first | exact finZq | exact absurd hw (by omega))⟩, hf, hJ⟩
        · skip
          refine li_if_eq 84 dX12_part_75 (by decide) (fun cZq => ?_) (fun cZq => absurd rfl cZq)
          refine li_iload_n 0 dX12_part_84 rfl ?_
          refine li_callS (n := 1) (As := [.int x14]) dX12_part_85 (k14_X12_letterOf (d - 1) (by omega) x14 M19 hJ ) (by omega) (Nat.le_of_ble_eq_true rfl) w_1641 w_1642 w_112 w_1643 (by decide +kernel) rfl rfl (Nat.le_of_ble_eq_true rfl) (fun r M27 h28 => ?_)
          obtain ⟨⟨x26, rfl, qx26⟩, h28, jM27⟩ := h28
          have gx26 := tl_rg x26
          have hf := li_fs_trans hf h28 (fun i k hZq => False.elim hZq)
          have kM27 : (li_hr M27).toInt = (li_hr M19).toInt := li_hr_fs h28 id id id id (fun _ _ _ => id) (by assumption)
          have hJ := jM27
          have rM27_12 := J_sl12 (M := M27) hJ
          have rM27_13 := J_sl13 (M := M27) hJ
          have rM27_14 := J_sl14 (M := M27) hJ
          have rM27_15 := J_sl15 (M := M27) hJ
          have mM27_12 : (M27.1 175 12).toInt = (M19.1 175 12).toInt := tl_slot (h28.1 175 12 id)
          have mM27_13 : (M27.1 175 13).toInt = (M19.1 175 13).toInt := tl_slot (h28.1 175 13 id)
          have mM27_14 : (M27.1 175 14).toInt = (M19.1 175 14).toInt := tl_slot (h28.1 175 14 id)
          have mM27_15 : (M27.1 175 15).toInt = (M19.1 175 15).toInt := tl_slot (h28.1 175 15 id)
          have bM27 : M27.2.2 0 = some 180 := (h28.2.2 0 (fun h9 => by first | exact (h9 : False).elim | (simp at h9; done) | omega)).trans bM19
          have lt85 := qx26
          rw [c26] at lt85
          refine li_iconst (-1) dX12_part_88 (by decide) ?_
          refine li_icmp_ne 102 dX12_part_89 (by decide) (fun c29Zq => ?_) (fun c29Zq => ?_)
          · have tc29 : ¬ x26.toInt = (-1) := tl_ne c29Zq
            refine li_aload_n 1 dX12_part_102 rfl ?_
            refine li_dup dX12_part_103 rfl ?_
            refine li_geti (k := 14) (N := 52) (T := TX12) (C0 := RX12) dX12_part_104 (by decide) sh_175 rfl rfl (by decide) li_in12 w_1418 ?_
            refine li_top (fun x30 ex30 => ?_)
            have gx30 : 0 ≤ x30.toInt ∧ x30.toInt ≤ 81 := by rw [ex30]; exact J_sl14 hJ
            have mx30 : x30.toInt = (M27.1 175 14).toInt := tl_slot ex30
            refine li_iconst 1 dX12_part_107 (by decide) ?_
            refine li_iadd dX12_part_108 ?_
            refine li_top (fun x31 ex31 => ?_)
            have z1 : (1 : Int32).toInt = 1 := rfl
            try (have tx31 : x31.toInt = (x30 : Int32).toInt + (1 : Int32).toInt := tl_add ex31 ⟨by omega, by omega⟩)
            refine li_puti (k := 14) (N := 52) (T := TX12) (C0 := RX12) dX12_part_109 (by decide) sh_175 rfl rfl (by decide) li_in12 tyX12_ok nmX12 rfl rfl rfl rfl w_1418 ?_
            refine li_nm (fun M32 eM32 => ?_)
            have hf := li_fs_ui hf (Or.inl ⟨rfl, rfl⟩) eM32
            have hJ := J_pt14 hJ (show 0 ≤ (x31 : Int32).toInt ∧ (x31 : Int32).toInt ≤ 81 from ⟨(by omega), (by omega)⟩) eM32
            have rM32_12 := J_sl12 (M := M32) hJ
            have rM32_13 := J_sl13 (M := M32) hJ
            have rM32_14 := J_sl14 (M := M32) hJ
            have rM32_15 := J_sl15 (M := M32) hJ
            have mM32_12 : (M32.1 175 12).toInt = (M27.1 175 12).toInt := by rw [eM32, li_ui_at, if_pos rfl, if_neg (by decide)]
            have mM32_13 : (M32.1 175 13).toInt = (M27.1 175 13).toInt := by rw [eM32, li_ui_at, if_pos rfl, if_neg (by decide)]
            have mM32_14 : (M32.1 175 14).toInt = x31.toInt := by rw [eM32, li_ui_at, if_pos rfl, if_pos rfl]
            have mM32_15 : (M32.1 175 15).toInt = (M27.1 175 15).toInt := by rw [eM32, li_ui_at, if_pos rfl, if_neg (by decide)]
            have bM32 : M32.2.2 0 = some 180 := by rw [eM32]; exact bM27
            have yl : rp_let (rd_ch hBZq e ((M0.1 175 14).toInt)) := by rcases lt85 with cZq | cZq; exact absurd cZq.1 (by assumption); exact cZq.2.2
            have ltZq := rd_lt (rp_let_nn yl)
            have finZq : ∃ okZq q : Int, rpr hBZq e 5 (p1Zq.toInt) ((M0.1 175 14).toInt) okZq q ∧ (M32.1 175 14).toInt = q ∧ (M0.1 175 14).toInt ≤ q ∧ q ≤ e ∧ ((okZq = 1 ∧ (M32.1 175 15).toInt = -1) ∨ (okZq = 0 ∧ (M32.1 175 15).toInt = q)) := ⟨1, (M0.1 175 14).toInt + 1, rp_in5 (Or.inr ⟨n45, rp_in6 (Or.inr ⟨n40Zq, Or.inl ⟨yl, rfl, rfl⟩⟩)⟩), Int.le_antisymm (by omega) (by omega), by omega, by omega, Or.inl ⟨rfl, Int.le_antisymm (by omega) (by omega)⟩⟩
            refine li_aload_n 1 dX12_part_112 rfl ?_
            refine li_geti (k := 20) (N := 52) (T := TX12) (C0 := RX12) dX12_part_113 (by decide) sh_175 rfl rfl (by decide) li_in12 w_1424 ?_
            refine li_top (fun x33 ex33 => ?_)
            have gx33 := tl_rg x33
            have sx33 : x33.toInt = (M0.1 175 20).toInt := tl_slot (ex33.trans (hf.1 175 20 (show ¬ ((175 = 175 ∧ 20 = 14) ∨ (175 = 175 ∧ 20 = 15)) by decide)))
            refine li_if_eq 131 dX12_part_116 (by decide) (fun c34Zq => ?_) (fun c34Zq => ?_)
            · have tc34 : x33.toInt = 0 := tl_eq c34Zq
              refine li_iconst 0 dX12_part_131 (by decide) ?_
              have z0 : (0 : Int32).toInt = 0 := rfl
              exact li_iret dX12_part_132 rfl rfl ⟨⟨_, rfl, (by first | exact finZq | exact absurd hw (by omega))⟩, hf, hJ⟩
            · have tc34 : ¬ x33.toInt = 0 := tl_ne c34Zq
              refine li_aload_n 1 dX12_part_119 rfl ?_
              refine li_getr (k := 21) (N := 52) (T := TX12) (C0 := RX12) dX12_part_120 (by decide) sh_175 rfl rfl (by decide) (by decide) li_in12 w_1425 ?_
              refine li_iload_n 0 dX12_part_123 rfl ?_
              refine li_callS (n := 1) (As := [.int x14]) dX12_part_124 (k14_X12_letterOf (d - 1) (by omega) x14 M32 hJ ) (by omega) (Nat.le_of_ble_eq_true rfl) w_1641 w_1642 w_112 w_1643 (by decide +kernel) rfl rfl (Nat.le_of_ble_eq_true rfl) (fun r M36 h37 => ?_)
              obtain ⟨⟨x35, rfl, qx35⟩, h37, jM36⟩ := h37
              have gx35 := tl_rg x35
              have hf := li_fs_trans hf h37 (fun i k hZq => False.elim hZq)
              have kM36 : (li_hr M36).toInt = (li_hr M32).toInt := li_hr_fs h37 id id id id (fun _ _ _ => id) (by assumption)
              have hJ := jM36
              have rM36_12 := J_sl12 (M := M36) hJ
              have rM36_13 := J_sl13 (M := M36) hJ
              have rM36_14 := J_sl14 (M := M36) hJ
              have rM36_15 := J_sl15 (M := M36) hJ
              have mM36_12 : (M36.1 175 12).toInt = (M32.1 175 12).toInt := tl_slot (h37.1 175 12 id)
              have mM36_13 : (M36.1 175 13).toInt = (M32.1 175 13).toInt := tl_slot (h37.1 175 13 id)
              have mM36_14 : (M36.1 175 14).toInt = (M32.1 175 14).toInt := tl_slot (h37.1 175 14 id)
              have mM36_15 : (M36.1 175 15).toInt = (M32.1 175 15).toInt := tl_slot (h37.1 175 15 id)
              have bM36 : M36.2.2 0 = some 180 := (h37.2.2 0 (fun h9 => by first | exact (h9 : False).elim | (simp at h9; done) | omega)).trans bM32
              have ix9 : 0 ≤ x35.toInt ∧ x35.toInt ≤ 5 := by rw [c26] at qx35; rcases qx35 with cZq | cZq; exact absurd yl cZq.2; exact ⟨cZq.1, cZq.2.1⟩
              have finZq : ∃ okZq q : Int, rpr hBZq e 5 (p1Zq.toInt) ((M0.1 175 14).toInt) okZq q ∧ (M36.1 175 14).toInt = q ∧ (M0.1 175 14).toInt ≤ q ∧ q ≤ e ∧ ((okZq = 1 ∧ (M36.1 175 15).toInt = -1) ∨ (okZq = 0 ∧ (M36.1 175 15).toInt = q)) := by obtain ⟨fo, fq, f1Zq, f2Zq, f3Zq, f4Zq, f5Zq⟩ := finZq; exact ⟨fo, fq, f1Zq, Int.le_antisymm (by omega) (by omega), f3Zq, f4Zq, by rcases f5Zq with cZq | cZq; exact Or.inl ⟨cZq.1, Int.le_antisymm (by omega) (by omega)⟩; exact Or.inr ⟨cZq.1, Int.le_antisymm (by omega) (by omega)⟩⟩
              refine li_iald dX12_part_127 (by decide) sh_185 (tl_in ⟨by omega, by omega⟩) ?_
              refine li_top (fun x38 ex38 => ?_)
              have gx38 := tl_rg x38
              refine li_goto 132 dX12_part_128 (by decide) ?_
              exact li_iret dX12_part_132 rfl rfl ⟨⟨_, rfl, (by first | exact finZq | exact absurd hw (by omega))⟩, hf, hJ⟩
          · have tc29 : x26.toInt = (-1) := tl_eq c29Zq
            refine li_aload_n 1 dX12_part_92 rfl ?_
            refine li_aload_n 1 dX12_part_93 rfl ?_
            refine li_geti (k := 14) (N := 52) (T := TX12) (C0 := RX12) dX12_part_94 (by decide) sh_175 rfl rfl (by decide) li_in12 w_1418 ?_
            refine li_top (fun x39 ex39 => ?_)
            have gx39 : 0 ≤ x39.toInt ∧ x39.toInt ≤ 81 := by rw [ex39]; exact J_sl14 hJ
            have mx39 : x39.toInt = (M27.1 175 14).toInt := tl_slot ex39
            refine li_callV (n := 1) (As := [.int x39]) dX12_part_97 (k_X12_fault (d - 1) (by omega) x39 M27 hJ ⟨by omega, by omega⟩) (by omega) (Nat.le_of_ble_eq_true rfl) w_1585 w_1587 w_44 w_112 w_1588 (by decide +kernel) rfl (by decide) sh_175 rfl rfl (Nat.le_of_ble_eq_true rfl) (fun r M41 h42 => ?_)
            obtain ⟨rfl, h42, jM41, nM41⟩ := h42
            have hf := li_fs_trans hf h42 (fun i k => fun hZq => Or.inr hZq)
            have kM41 : (li_hr M41).toInt = (li_hr M27).toInt := li_hr_fs h42 (show ¬ ((175 = 175 ∧ 12 = 15)) by decide) (show ¬ ((175 = 175 ∧ 13 = 15)) by decide) (show ¬ ((175 = 175 ∧ 14 = 15)) by decide) (show ¬ ((1000 = 175 ∧ 0 = 15)) by decide) (fun q i hZq => (show ¬ ((q = 175 ∧ i = 15)) by first | (unfold li_rq at hZq; rcases hZq with rfl | rfl | rfl <;> simp; done) | (unfold li_rq at hZq; omega))) (by assumption)
            have hJ := jM41
            have rM41_12 := J_sl12 (M := M41) hJ
            have rM41_13 := J_sl13 (M := M41) hJ
            have rM41_14 := J_sl14 (M := M41) hJ
            have rM41_15 := J_sl15 (M := M41) hJ
            have mM41_12 : (M41.1 175 12).toInt = (M27.1 175 12).toInt := tl_slot (h42.1 175 12 (show ¬ ((175 = 175 ∧ 12 = 15)) by decide))
            have mM41_13 : (M41.1 175 13).toInt = (M27.1 175 13).toInt := tl_slot (h42.1 175 13 (show ¬ ((175 = 175 ∧ 13 = 15)) by decide))
            have mM41_14 : (M41.1 175 14).toInt = (M27.1 175 14).toInt := tl_slot (h42.1 175 14 (show ¬ ((175 = 175 ∧ 14 = 15)) by decide))
            have bM41 : M41.2.2 0 = some 180 := (h42.2.2 0 (fun h9 => by first | exact (h9 : False).elim | (simp at h9; done) | omega)).trans bM27
            have nl : ¬ rp_let (rd_ch hBZq e ((M0.1 175 14).toInt)) := by rcases lt85 with cZq | cZq; exact cZq.2; exact absurd cZq.1 (by omega)
            have wf := nM41.1 (Int.le_antisymm (by omega) (by omega))
            obtain ⟨rn, qn, nq0⟩ : ∃ r q, li_nq hBZq e 3 (-1) ((M0.1 175 14).toInt) r q := li_nq_self
            have nn := li_nq_no nq0 (fun h9 => by omega)
            have finZq : ∃ okZq q : Int, rpr hBZq e 5 (p1Zq.toInt) ((M0.1 175 14).toInt) okZq q ∧ (M41.1 175 14).toInt = q ∧ (M0.1 175 14).toInt ≤ q ∧ q ≤ e ∧ ((okZq = 1 ∧ (M41.1 175 15).toInt = -1) ∨ (okZq = 0 ∧ (M41.1 175 15).toInt = q)) := ⟨0, qn, rp_in5 (Or.inr ⟨n45, rp_in6 (Or.inr ⟨n40Zq, Or.inr ⟨nl, rn, nq0, Or.inr ⟨by omega, rfl⟩⟩⟩)⟩), Int.le_antisymm (by omega) (by omega), by omega, by omega, Or.inr ⟨rfl, Int.le_antisymm (by omega) (by omega)⟩⟩
            refine li_iconst 0 dX12_part_100 (by decide) ?_
            have z0 : (0 : Int32).toInt = 0 := rfl
            exact li_iret dX12_part_101 rfl rfl ⟨⟨_, rfl, (by first | exact finZq | exact absurd hw (by omega))⟩, hf, hJ⟩
      · have tc17 : x14.toInt = 40 := tl_eq c17
        refine li_iload_n 2 dX12_part_36 rfl ?_
        refine li_iconst 4 dX12_part_37 (by decide) ?_
        refine li_icmp_ge 67 dX12_part_38 (by decide) (fun c43Zq => ?_) (fun c43Zq => ?_)
        · have tc43 : 4 ≤ p1Zq.toInt := tl_le c43Zq
          have n40Zq : ¬ (rd_ch hBZq e ((M0.1 175 14).toInt) = 40 ∧ p1Zq.toInt < 4) := fun h9 => by omega
          refine li_iload_n 0 dX12_part_67 rfl ?_
          refine li_bipush 48 dX12_part_68 (by decide) ?_
          refine li_bipush 57 dX12_part_70 (by decide) ?_
          have z48Zq : (48 : Int32).toInt = 48 := rfl
          have z57 : (57 : Int32).toInt = 57 := rfl
          refine li_callS (n := 3) (As := [.int x14, .int 48, .int 57]) dX12_part_72 (k_X12_in (d - 1) (by omega) x14 48 57 M15 hJ ) (by omega) (Nat.le_of_ble_eq_true rfl) w_1570 w_1571 w_112 w_1572 (by decide +kernel) rfl rfl (Nat.le_of_ble_eq_true rfl) (fun r M45 h46 => ?_)
          obtain ⟨qx44, h46, jM45⟩ := h46
          have hf := li_fs_trans hf h46 (fun i k hZq => False.elim hZq)
          have kM45 : (li_hr M45).toInt = (li_hr M15).toInt := li_hr_fs h46 id id id id (fun _ _ _ => id) (by assumption)
          have hJ := jM45
          have rM45_12 := J_sl12 (M := M45) hJ
          have rM45_13 := J_sl13 (M := M45) hJ
          have rM45_14 := J_sl14 (M := M45) hJ
          have rM45_15 := J_sl15 (M := M45) hJ
          have mM45_12 : (M45.1 175 12).toInt = (M15.1 175 12).toInt := tl_slot (h46.1 175 12 id)
          have mM45_13 : (M45.1 175 13).toInt = (M15.1 175 13).toInt := tl_slot (h46.1 175 13 id)
          have mM45_14 : (M45.1 175 14).toInt = (M15.1 175 14).toInt := tl_slot (h46.1 175 14 id)
          have mM45_15 : (M45.1 175 15).toInt = (M15.1 175 15).toInt := tl_slot (h46.1 175 15 id)
          have bM45 : M45.2.2 0 = some 180 := (h46.2.2 0 (fun h9 => by first | exact (h9 : False).elim | (simp at h9; done) | omega)).trans bM15
          rcases qx44 with ⟨rfl, qx44⟩ | ⟨rfl, qx44⟩
          · skip
            refine li_if_eq 84 dX12_part_75 (by decide) (fun cZq => absurd cZq (by decide)) (fun cZq => ?_)
            refine li_aload_n 1 dX12_part_78 rfl ?_
            refine li_iconst 3 dX12_part_79 (by decide) ?_
            obtain ⟨rn, qn, nq0⟩ : ∃ r q, li_nq hBZq e 3 (-1) ((M0.1 175 14).toInt) r q := li_nq_self
            have z3 : (3 : Int32).toInt = 3 := rfl
            refine li_callV (n := 1) (As := [.int 3]) dX12_part_80 (k5_X12_number (d - 1) (by omega) 3 M45 hJ (by decide) bM45 _ _ (li_nq_tr ((congrArg li_by (funext fun i => hf.1 180 i ((fun i => (show ¬ ((180 = 175 ∧ i = 14) ∨ (180 = 175 ∧ i = 15)) by first | (simp; done) | omega)) i))).trans hhB) (by rw [show (M45.1 175 12).toInt = (M0.1 175 12).toInt from Int.le_antisymm (by omega) (by omega), show (M45.1 175 13).toInt = (M0.1 175 13).toInt from Int.le_antisymm (by omega) (by omega)]; exact he) (by decide) rfl (Int.le_antisymm (by omega) (by omega)) rfl rfl nq0)) (by omega) (Nat.le_of_ble_eq_true rfl) w_1589 w_1591 w_45 w_112 w_1592 (by decide +kernel) rfl (by decide) sh_175 rfl rfl (Nat.le_of_ble_eq_true rfl) (fun r M49 h50 => ?_)
            obtain ⟨⟨x48, rfl, qx48⟩, h50, jM49⟩ := h50
            have gx48 := tl_rg x48
            have hf := li_fs_trans hf h50 (fun i k => fun hZq => Or.elim hZq (fun hZq => Or.inl hZq) (fun hZq => Or.inr hZq))
            have hJ := jM49
            have rM49_12 := J_sl12 (M := M49) hJ
            have rM49_13 := J_sl13 (M := M49) hJ
            have rM49_14 := J_sl14 (M := M49) hJ
            have rM49_15 := J_sl15 (M := M49) hJ
            have mM49_12 : (M49.1 175 12).toInt = (M45.1 175 12).toInt := tl_slot (h50.1 175 12 (show ¬ ((175 = 175 ∧ 12 = 14) ∨ (175 = 175 ∧ 12 = 15)) by decide))
            have mM49_13 : (M49.1 175 13).toInt = (M45.1 175 13).toInt := tl_slot (h50.1 175 13 (show ¬ ((175 = 175 ∧ 13 = 14) ∨ (175 = 175 ∧ 13 = 15)) by decide))
            have bM49 : M49.2.2 0 = some 180 := (h50.2.2 0 (fun h9 => by first | exact (h9 : False).elim | (simp at h9; done) | omega)).trans bM45
            have nl : ¬ rp_let (rd_ch hBZq e ((M0.1 175 14).toInt)) := by unfold rp_let; omega
            have em9 : min (M45.1 175 12).toInt (M45.1 175 13).toInt = e := (by rw [show (M45.1 175 12).toInt = (M0.1 175 12).toInt from Int.le_antisymm (by omega) (by omega), show (M45.1 175 13).toInt = (M0.1 175 13).toInt from Int.le_antisymm (by omega) (by omega)]; exact he)
            have um := qx48.2.2.2 (by rw [em9]; omega)
            rw [em9] at um
            have finZq : ∃ okZq q : Int, rpr hBZq e 5 (p1Zq.toInt) ((M0.1 175 14).toInt) okZq q ∧ (M49.1 175 14).toInt = q ∧ (M0.1 175 14).toInt ≤ q ∧ q ≤ e ∧ ((okZq = 1 ∧ (M49.1 175 15).toInt = -1) ∨ (okZq = 0 ∧ (M49.1 175 15).toInt = q)) := by
              have hq := qx48.1 (Int.le_antisymm (by omega) (by omega))
              rcases Int.lt_or_le rn 0 with cZq | cZq
              · have u := hq.1 cZq; exact ⟨0, qn, rp_in5 (Or.inr ⟨n45, rp_in6 (Or.inr ⟨n40Zq, Or.inr ⟨nl, rn, nq0, Or.inr ⟨cZq, rfl⟩⟩⟩)⟩), Int.le_antisymm (by omega) (by omega), by omega, by omega, Or.inr ⟨rfl, Int.le_antisymm (by omega) (by omega)⟩⟩
              · have u := hq.2 cZq; exact ⟨1, qn, rp_in5 (Or.inr ⟨n45, rp_in6 (Or.inr ⟨n40Zq, Or.inr ⟨nl, rn, nq0, Or.inl ⟨cZq, rfl⟩⟩⟩)⟩), Int.le_antisymm (by omega) (by omega), by omega, by omega, Or.inl ⟨rfl, u.2.2⟩⟩
            exact li_iret dX12_part_83 rfl rfl ⟨⟨_, rfl, (by first | exact finZq | exact absurd hw (by omega))⟩, hf, hJ⟩
          · skip
            refine li_if_eq 84 dX12_part_75 (by decide) (fun cZq => ?_) (fun cZq => absurd rfl cZq)
            refine li_iload_n 0 dX12_part_84 rfl ?_
            refine li_callS (n := 1) (As := [.int x14]) dX12_part_85 (k14_X12_letterOf (d - 1) (by omega) x14 M45 hJ ) (by omega) (Nat.le_of_ble_eq_true rfl) w_1641 w_1642 w_112 w_1643 (by decide +kernel) rfl rfl (Nat.le_of_ble_eq_true rfl) (fun r M53 h54 => ?_)
            obtain ⟨⟨x52, rfl, qx52⟩, h54, jM53⟩ := h54
            have gx52 := tl_rg x52
            have hf := li_fs_trans hf h54 (fun i k hZq => False.elim hZq)
            have kM53 : (li_hr M53).toInt = (li_hr M45).toInt := li_hr_fs h54 id id id id (fun _ _ _ => id) (by assumption)
            have hJ := jM53
            have rM53_12 := J_sl12 (M := M53) hJ
            have rM53_13 := J_sl13 (M := M53) hJ
            have rM53_14 := J_sl14 (M := M53) hJ
            have rM53_15 := J_sl15 (M := M53) hJ
            have mM53_12 : (M53.1 175 12).toInt = (M45.1 175 12).toInt := tl_slot (h54.1 175 12 id)
            have mM53_13 : (M53.1 175 13).toInt = (M45.1 175 13).toInt := tl_slot (h54.1 175 13 id)
            have mM53_14 : (M53.1 175 14).toInt = (M45.1 175 14).toInt := tl_slot (h54.1 175 14 id)
            have mM53_15 : (M53.1 175 15).toInt = (M45.1 175 15).toInt := tl_slot (h54.1 175 15 id)
            have bM53 : M53.2.2 0 = some 180 := (h54.2.2 0 (fun h9 => by first | exact (h9 : False).elim | (simp at h9; done) | omega)).trans bM45
            have lt85 := qx52
            rw [c26] at lt85
            refine li_iconst (-1) dX12_part_88 (by decide) ?_
            refine li_icmp_ne 102 dX12_part_89 (by decide) (fun c55 => ?_) (fun c55 => ?_)
            · have tc55 : ¬ x52.toInt = (-1) := tl_ne c55
              refine li_aload_n 1 dX12_part_102 rfl ?_
              refine li_dup dX12_part_103 rfl ?_
              refine li_geti (k := 14) (N := 52) (T := TX12) (C0 := RX12) dX12_part_104 (by decide) sh_175 rfl rfl (by decide) li_in12 w_1418 ?_
              refine li_top (fun x56 ex56 => ?_)
              have gx56 : 0 ≤ x56.toInt ∧ x56.toInt ≤ 81 := by rw [ex56]; exact J_sl14 hJ
              have mx56 : x56.toInt = (M53.1 175 14).toInt := tl_slot ex56
              refine li_iconst 1 dX12_part_107 (by decide) ?_
              refine li_iadd dX12_part_108 ?_
              refine li_top (fun x57 ex57 => ?_)
              have z1 : (1 : Int32).toInt = 1 := rfl
              try (have tx57 : x57.toInt = (x56 : Int32).toInt + (1 : Int32).toInt := tl_add ex57 ⟨by omega, by omega⟩)
              refine li_puti (k := 14) (N := 52) (T := TX12) (C0 := RX12) dX12_part_109 (by decide) sh_175 rfl rfl (by decide) li_in12 tyX12_ok nmX12 rfl rfl rfl rfl w_1418 ?_
              refine li_nm (fun M58 eM58 => ?_)
              have hf := li_fs_ui hf (Or.inl ⟨rfl, rfl⟩) eM58
              have hJ := J_pt14 hJ (show 0 ≤ (x57 : Int32).toInt ∧ (x57 : Int32).toInt ≤ 81 from ⟨(by omega), (by omega)⟩) eM58
              have rM58_12 := J_sl12 (M := M58) hJ
              have rM58_13 := J_sl13 (M := M58) hJ
              have rM58_14 := J_sl14 (M := M58) hJ
              have rM58_15 := J_sl15 (M := M58) hJ
              have mM58_12 : (M58.1 175 12).toInt = (M53.1 175 12).toInt := by rw [eM58, li_ui_at, if_pos rfl, if_neg (by decide)]
              have mM58_13 : (M58.1 175 13).toInt = (M53.1 175 13).toInt := by rw [eM58, li_ui_at, if_pos rfl, if_neg (by decide)]
              have mM58_14 : (M58.1 175 14).toInt = x57.toInt := by rw [eM58, li_ui_at, if_pos rfl, if_pos rfl]
              have mM58_15 : (M58.1 175 15).toInt = (M53.1 175 15).toInt := by rw [eM58, li_ui_at, if_pos rfl, if_neg (by decide)]
              have bM58 : M58.2.2 0 = some 180 := by rw [eM58]; exact bM53
              have yl : rp_let (rd_ch hBZq e ((M0.1 175 14).toInt)) := by rcases lt85 with cZq | cZq; exact absurd cZq.1 (by assumption); exact cZq.2.2
              have ltZq := rd_lt (rp_let_nn yl)
              have finZq : ∃ okZq q : Int, rpr hBZq e 5 (p1Zq.toInt) ((M0.1 175 14).toInt) okZq q ∧ (M58.1 175 14).toInt = q ∧ (M0.1 175 14).toInt ≤ q ∧ q ≤ e ∧ ((okZq = 1 ∧ (M58.1 175 15).toInt = -1) ∨ (okZq = 0 ∧ (M58.1 175 15).toInt = q)) := ⟨1, (M0.1 175 14).toInt + 1, rp_in5 (Or.inr ⟨n45, rp_in6 (Or.inr ⟨n40Zq, Or.inl ⟨yl, rfl, rfl⟩⟩)⟩), Int.le_antisymm (by omega) (by omega), by omega, by omega, Or.inl ⟨rfl, Int.le_antisymm (by omega) (by omega)⟩⟩
              refine li_aload_n 1 dX12_part_112 rfl ?_
              refine li_geti (k := 20) (N := 52) (T := TX12) (C0 := RX12) dX12_part_113 (by decide) sh_175 rfl rfl (by decide) li_in12 w_1424 ?_
              refine li_top (fun x59 ex59 => ?_)
              have gx59 := tl_rg x59
              have sx59 : x59.toInt = (M0.1 175 20).toInt := tl_slot (ex59.trans (hf.1 175 20 (show ¬ ((175 = 175 ∧ 20 = 14) ∨ (175 = 175 ∧ 20 = 15)) by decide)))
              refine li_if_eq 131 dX12_part_116 (by decide) (fun c60 => ?_) (fun c60 => ?_)
              · have tc60 : x59.toInt = 0 := tl_eq c60
                refine li_iconst 0 dX12_part_131 (by decide) ?_
                have z0 : (0 : Int32).toInt = 0 := rfl
                exact li_iret dX12_part_132 rfl rfl ⟨⟨_, rfl, (by first | exact finZq | exact absurd hw (by omega))⟩, hf, hJ⟩
              · have tc60 : ¬ x59.toInt = 0 := tl_ne c60
                refine li_aload_n 1 dX12_part_119 rfl ?_
                refine li_getr (k := 21) (N := 52) (T := TX12) (C0 := RX12) dX12_part_120 (by decide) sh_175 rfl rfl (by decide) (by decide) li_in12 w_1425 ?_
                refine li_iload_n 0 dX12_part_123 rfl ?_
                refine li_callS (n := 1) (As := [.int x14]) dX12_part_124 (k14_X12_letterOf (d - 1) (by omega) x14 M58 hJ ) (by omega) (Nat.le_of_ble_eq_true rfl) w_1641 w_1642 w_112 w_1643 (by decide +kernel) rfl rfl (Nat.le_of_ble_eq_true rfl) (fun r M62 h63 => ?_)
                obtain ⟨⟨x61, rfl, qx61⟩, h63, jM62⟩ := h63
                have gx61 := tl_rg x61
                have hf := li_fs_trans hf h63 (fun i k hZq => False.elim hZq)
                have kM62 : (li_hr M62).toInt = (li_hr M58).toInt := li_hr_fs h63 id id id id (fun _ _ _ => id) (by assumption)
                have hJ := jM62
                have rM62_12 := J_sl12 (M := M62) hJ
                have rM62_13 := J_sl13 (M := M62) hJ
                have rM62_14 := J_sl14 (M := M62) hJ
                have rM62_15 := J_sl15 (M := M62) hJ
                have mM62_12 : (M62.1 175 12).toInt = (M58.1 175 12).toInt := tl_slot (h63.1 175 12 id)
                have mM62_13 : (M62.1 175 13).toInt = (M58.1 175 13).toInt := tl_slot (h63.1 175 13 id)
                have mM62_14 : (M62.1 175 14).toInt = (M58.1 175 14).toInt := tl_slot (h63.1 175 14 id)
                have mM62_15 : (M62.1 175 15).toInt = (M58.1 175 15).toInt := tl_slot (h63.1 175 15 id)
                have bM62 : M62.2.2 0 = some 180 := (h63.2.2 0 (fun h9 => by first | exact (h9 : False).elim | (simp at h9; done) | omega)).trans bM58
                have ix9 : 0 ≤ x61.toInt ∧ x61.toInt ≤ 5 := by rw [c26] at qx61; rcases qx61 with cZq | cZq; exact absurd yl cZq.2; exact ⟨cZq.1, cZq.2.1⟩
                have finZq : ∃ okZq q : Int, rpr hBZq e 5 (p1Zq.toInt) ((M0.1 175 14).toInt) okZq q ∧ (M62.1 175 14).toInt = q ∧ (M0.1 175 14).toInt ≤ q ∧ q ≤ e ∧ ((okZq = 1 ∧ (M62.1 175 15).toInt = -1) ∨ (okZq = 0 ∧ (M62.1 175 15).toInt = q)) := by obtain ⟨fo, fq, f1Zq, f2Zq, f3Zq, f4Zq, f5Zq⟩ := finZq; exact ⟨fo, fq, f1Zq, Int.le_antisymm (by omega) (by omega), f3Zq, f4Zq, by rcases f5Zq with cZq | cZq; exact Or.inl ⟨cZq.1, Int.le_antisymm (by omega) (by omega)⟩; exact Or.inr ⟨cZq.1, Int.le_antisymm (by omega) (by omega)⟩⟩
                refine li_iald dX12_part_127 (by decide) sh_185 (tl_in ⟨by omega, by omega⟩) ?_
                refine li_top (fun x64 ex64 => ?_)
                have gx64 := tl_rg x64
                refine li_goto 132 dX12_part_128 (by decide) ?_
                exact li_iret dX12_part_132 rfl rfl ⟨⟨_, rfl, (by first | exact finZq | exact absurd hw (by omega))⟩, hf, hJ⟩
            · have tc55 : x52.toInt = (-1) := tl_eq c55
              refine li_aload_n 1 dX12_part_92 rfl ?_
              refine li_aload_n 1 dX12_part_93 rfl ?_
              refine li_geti (k := 14) (N := 52) (T := TX12) (C0 := RX12) dX12_part_94 (by decide) sh_175 rfl rfl (by decide) li_in12 w_1418 ?_
              refine li_top (fun x65 ex65 => ?_)
              have gx65 : 0 ≤ x65.toInt ∧ x65.toInt ≤ 81 := by rw [ex65]; exact J_sl14 hJ
              have mx65 : x65.toInt = (M53.1 175 14).toInt := tl_slot ex65
              refine li_callV (n := 1) (As := [.int x65]) dX12_part_97 (k_X12_fault (d - 1) (by omega) x65 M53 hJ ⟨by omega, by omega⟩) (by omega) (Nat.le_of_ble_eq_true rfl) w_1585 w_1587 w_44 w_112 w_1588 (by decide +kernel) rfl (by decide) sh_175 rfl rfl (Nat.le_of_ble_eq_true rfl) (fun r M67 h68 => ?_)
              obtain ⟨rfl, h68, jM67, nM67⟩ := h68
              have hf := li_fs_trans hf h68 (fun i k => fun hZq => Or.inr hZq)
              have kM67 : (li_hr M67).toInt = (li_hr M53).toInt := li_hr_fs h68 (show ¬ ((175 = 175 ∧ 12 = 15)) by decide) (show ¬ ((175 = 175 ∧ 13 = 15)) by decide) (show ¬ ((175 = 175 ∧ 14 = 15)) by decide) (show ¬ ((1000 = 175 ∧ 0 = 15)) by decide) (fun q i hZq => (show ¬ ((q = 175 ∧ i = 15)) by first | (unfold li_rq at hZq; rcases hZq with rfl | rfl | rfl <;> simp; done) | (unfold li_rq at hZq; omega))) (by assumption)
              have hJ := jM67
              have rM67_12 := J_sl12 (M := M67) hJ
              have rM67_13 := J_sl13 (M := M67) hJ
              have rM67_14 := J_sl14 (M := M67) hJ
              have rM67_15 := J_sl15 (M := M67) hJ
              have mM67_12 : (M67.1 175 12).toInt = (M53.1 175 12).toInt := tl_slot (h68.1 175 12 (show ¬ ((175 = 175 ∧ 12 = 15)) by decide))
              have mM67_13 : (M67.1 175 13).toInt = (M53.1 175 13).toInt := tl_slot (h68.1 175 13 (show ¬ ((175 = 175 ∧ 13 = 15)) by decide))
              have mM67_14 : (M67.1 175 14).toInt = (M53.1 175 14).toInt := tl_slot (h68.1 175 14 (show ¬ ((175 = 175 ∧ 14 = 15)) by decide))
              have bM67 : M67.2.2 0 = some 180 := (h68.2.2 0 (fun h9 => by first | exact (h9 : False).elim | (simp at h9; done) | omega)).trans bM53
              have nl : ¬ rp_let (rd_ch hBZq e ((M0.1 175 14).toInt)) := by rcases lt85 with cZq | cZq; exact cZq.2; exact absurd cZq.1 (by omega)
              have wf := nM67.1 (Int.le_antisymm (by omega) (by omega))
              obtain ⟨rn, qn, nq0⟩ : ∃ r q, li_nq hBZq e 3 (-1) ((M0.1 175 14).toInt) r q := li_nq_self
              have nn := li_nq_no nq0 (fun h9 => by omega)
              have finZq : ∃ okZq q : Int, rpr hBZq e 5 (p1Zq.toInt) ((M0.1 175 14).toInt) okZq q ∧ (M67.1 175 14).toInt = q ∧ (M0.1 175 14).toInt ≤ q ∧ q ≤ e ∧ ((okZq = 1 ∧ (M67.1 175 15).toInt = -1) ∨ (okZq = 0 ∧ (M67.1 175 15).toInt = q)) := ⟨0, qn, rp_in5 (Or.inr ⟨n45, rp_in6 (Or.inr ⟨n40Zq, Or.inr ⟨nl, rn, nq0, Or.inr ⟨by omega, rfl⟩⟩⟩)⟩), Int.le_antisymm (by omega) (by omega), by omega, by omega, Or.inr ⟨rfl, Int.le_antisymm (by omega) (by omega)⟩⟩
              refine li_iconst 0 dX12_part_100 (by decide) ?_
              have z0 : (0 : Int32).toInt = 0 := rfl
              exact li_iret dX12_part_101 rfl rfl ⟨⟨_, rfl, (by first | exact finZq | exact absurd hw (by omega))⟩, hf, hJ⟩
        · have tc43 : p1Zq.toInt < 4 := tl_nle c43Zq
          refine li_aload_n 1 dX12_part_41 rfl ?_
          refine li_dup dX12_part_42 rfl ?_
          refine li_geti (k := 14) (N := 52) (T := TX12) (C0 := RX12) dX12_part_43 (by decide) sh_175 rfl rfl (by decide) li_in12 w_1418 ?_
          refine li_top (fun x69 ex69 => ?_)
          have gx69 : 0 ≤ x69.toInt ∧ x69.toInt ≤ 81 := by rw [ex69]; exact J_sl14 hJ
          have mx69 : x69.toInt = (M15.1 175 14).toInt := tl_slot ex69
          refine li_iconst 1 dX12_part_46 (by decide) ?_
          refine li_iadd dX12_part_47 ?_
          refine li_top (fun x70 ex70 => ?_)
          have z1 : (1 : Int32).toInt = 1 := rfl
          try (have tx70 : x70.toInt = (x69 : Int32).toInt + (1 : Int32).toInt := tl_add ex70 ⟨by omega, by omega⟩)
          refine li_puti (k := 14) (N := 52) (T := TX12) (C0 := RX12) dX12_part_48 (by decide) sh_175 rfl rfl (by decide) li_in12 tyX12_ok nmX12 rfl rfl rfl rfl w_1418 ?_
          refine li_nm (fun M71 eM71 => ?_)
          have hf := li_fs_ui hf (Or.inl ⟨rfl, rfl⟩) eM71
          have hJ := J_pt14 hJ (show 0 ≤ (x70 : Int32).toInt ∧ (x70 : Int32).toInt ≤ 81 from ⟨(by omega), (by omega)⟩) eM71
          have rM71_12 := J_sl12 (M := M71) hJ
          have rM71_13 := J_sl13 (M := M71) hJ
          have rM71_14 := J_sl14 (M := M71) hJ
          have rM71_15 := J_sl15 (M := M71) hJ
          have mM71_12 : (M71.1 175 12).toInt = (M15.1 175 12).toInt := by rw [eM71, li_ui_at, if_pos rfl, if_neg (by decide)]
          have mM71_13 : (M71.1 175 13).toInt = (M15.1 175 13).toInt := by rw [eM71, li_ui_at, if_pos rfl, if_neg (by decide)]
          have mM71_14 : (M71.1 175 14).toInt = x70.toInt := by rw [eM71, li_ui_at, if_pos rfl, if_pos rfl]
          have mM71_15 : (M71.1 175 15).toInt = (M15.1 175 15).toInt := by rw [eM71, li_ui_at, if_pos rfl, if_neg (by decide)]
          have bM71 : M71.2.2 0 = some 180 := by rw [eM71]; exact bM15
          refine li_aload_n 1 dX12_part_51 rfl ?_
          refine li_iload_n 2 dX12_part_52 rfl ?_
          refine li_iconst 1 dX12_part_53 (by decide) ?_
          refine li_iadd dX12_part_54 ?_
          refine li_top (fun x72 ex72 => ?_)
          have z1 : (1 : Int32).toInt = 1 := rfl
          try (have tx72 : x72.toInt = (p1Zq : Int32).toInt + (1 : Int32).toInt := tl_add ex72 ⟨by omega, by omega⟩)
          refine li_callV (n := 1) (As := [.int x72]) dX12_part_55 (IHh x72 M71 hJ bM71 ((congrArg li_by (funext fun i => hf.1 180 i ((fun i => (show ¬ ((180 = 175 ∧ i = 14) ∨ (180 = 175 ∧ i = 15)) by first | (simp; done) | omega)) i))).trans hhB) (by rw [show (M71.1 175 12).toInt = (M0.1 175 12).toInt from Int.le_antisymm (by omega) (by omega), show (M71.1 175 13).toInt = (M0.1 175 13).toInt from Int.le_antisymm (by omega) (by omega)]; exact he) (by omega) (by omega) (Int.le_antisymm (by omega) (by omega)) ⟨by omega, by omega⟩) (by omega) (Nat.le_of_ble_eq_true rfl) w_1625 w_1627 w_52 w_112 w_1628 (by decide +kernel) rfl (by decide) sh_175 rfl rfl (Nat.le_of_ble_eq_true rfl) (fun r M74 h75 => ?_)
          obtain ⟨⟨x73, rfl, qx73⟩, h75, jM74⟩ := h75
          have gx73 := tl_rg x73
          have hf := li_fs_trans hf h75 (fun i k => fun hZq => Or.elim hZq (fun hZq => Or.inl hZq) (fun hZq => Or.inr hZq))
          have hJ := jM74
          have rM74_12 := J_sl12 (M := M74) hJ
          have rM74_13 := J_sl13 (M := M74) hJ
          have rM74_14 := J_sl14 (M := M74) hJ
          have rM74_15 := J_sl15 (M := M74) hJ
          have mM74_12 : (M74.1 175 12).toInt = (M71.1 175 12).toInt := tl_slot (h75.1 175 12 (show ¬ ((175 = 175 ∧ 12 = 14) ∨ (175 = 175 ∧ 12 = 15)) by decide))
          have mM74_13 : (M74.1 175 13).toInt = (M71.1 175 13).toInt := tl_slot (h75.1 175 13 (show ¬ ((175 = 175 ∧ 13 = 14) ∨ (175 = 175 ∧ 13 = 15)) by decide))
          have bM74 : M74.2.2 0 = some 180 := (h75.2.2 0 (fun h9 => by first | exact (h9 : False).elim | (simp at h9; done) | omega)).trans bM71
          obtain ⟨ok2, q2Zq, rb, eb1, eb2, eb3, eb4⟩ := qx73
          refine li_istore_n [(3, .int x73), (2, .int x14), (0, .ref (Z.2.2 175)), (1, .int p1Zq)] dX12_part_58 (by decide) rfl ?_
          refine li_aload_n 2 dX12_part_59 rfl ?_
          refine li_bipush 41 dX12_part_60 (by decide) ?_
          have ch62 : (li_hr M74).toInt = rd_ch hBZq e (q2Zq) := (hr_pt bM74 (by omega) rfl (by rw [show (M74.1 175 12).toInt = (M0.1 175 12).toInt from Int.le_antisymm (by omega) (by omega), show (M74.1 175 13).toInt = (M0.1 175 13).toInt from Int.le_antisymm (by omega) (by omega)]; exact he) (Int.le_antisymm (by omega) (by omega))).trans (congrArg (fun zZq => rd_ch zZq e (q2Zq)) ((congrArg li_by (funext fun i => hf.1 180 i ((fun i => (show ¬ ((180 = 175 ∧ i = 14) ∨ (180 = 175 ∧ i = 15)) by first | (simp; done) | omega)) i))).trans hhB))
          have z41 : (41 : Int32).toInt = 41 := rfl
          refine li_callV (n := 1) (As := [.int 41]) dX12_part_62 (k_X12_need (d - 1) (by omega) 41 M74 hJ (by omega)) (by omega) (Nat.le_of_ble_eq_true rfl) w_1601 w_1603 w_48 w_112 w_1604 (by decide +kernel) rfl (by decide) sh_175 rfl rfl (Nat.le_of_ble_eq_true rfl) (fun r M77 h78 => ?_)
          obtain ⟨rfl, h78, jM77, nM77⟩ := h78
          have hf := li_fs_trans hf h78 (fun i k => fun hZq => Or.elim hZq (fun hZq => Or.inl hZq) (fun hZq => Or.inr hZq))
          have hJ := jM77
          have rM77_12 := J_sl12 (M := M77) hJ
          have rM77_13 := J_sl13 (M := M77) hJ
          have rM77_14 := J_sl14 (M := M77) hJ
          have rM77_15 := J_sl15 (M := M77) hJ
          have mM77_12 : (M77.1 175 12).toInt = (M74.1 175 12).toInt := tl_slot (h78.1 175 12 (show ¬ ((175 = 175 ∧ 12 = 14) ∨ (175 = 175 ∧ 12 = 15)) by decide))
          have mM77_13 : (M77.1 175 13).toInt = (M74.1 175 13).toInt := tl_slot (h78.1 175 13 (show ¬ ((175 = 175 ∧ 13 = 14) ∨ (175 = 175 ∧ 13 = 15)) by decide))
          have bM77 : M77.2.2 0 = some 180 := (h78.2.2 0 (fun h9 => by first | exact (h9 : False).elim | (simp at h9; done) | omega)).trans bM74
          have rb9 : ok2 = 1 → rpr hBZq e 0 (p1Zq.toInt + 1) ((M0.1 175 14).toInt + 1) 1 q2Zq := fun h9 => rp_to rb (Int.le_antisymm (by omega) (by omega)) (Int.le_antisymm (by omega) (by omega)) h9.symm rfl
          have rb8 : ok2 = 0 → rpr hBZq e 0 (p1Zq.toInt + 1) ((M0.1 175 14).toInt + 1) 0 q2Zq := fun h9 => rp_to rb (Int.le_antisymm (by omega) (by omega)) (Int.le_antisymm (by omega) (by omega)) h9.symm rfl
          have finZq : ∃ okZq q : Int, rpr hBZq e 5 (p1Zq.toInt) ((M0.1 175 14).toInt) okZq q ∧ (M77.1 175 14).toInt = q ∧ (M0.1 175 14).toInt ≤ q ∧ q ≤ e ∧ ((okZq = 1 ∧ (M77.1 175 15).toInt = -1) ∨ (okZq = 0 ∧ (M77.1 175 15).toInt = q)) := by
            have h40 : rd_ch hBZq e ((M0.1 175 14).toInt) = 40 ∧ p1Zq.toInt < 4 := ⟨Int.le_antisymm (by omega) (by omega), by omega⟩
            rcases eb4 with cZq | cZq
            · by_cases e9Zq : rd_ch hBZq e q2Zq = 41
              · have u := nM77.1 (Int.le_antisymm (by omega) (by omega)) (by omega)
                have ltZq := rd_lt (g := hBZq) (len := e) (p := q2Zq) (by omega)
                exact ⟨1, q2Zq + 1, rp_in5 (Or.inr ⟨n45, rp_in6 (Or.inl ⟨h40, Or.inr ⟨q2Zq, rb9 cZq.1, Or.inl ⟨e9Zq, rfl, rfl⟩⟩⟩)⟩), Int.le_antisymm (by omega) (by omega), by omega, by omega, Or.inl ⟨rfl, u.2.1⟩⟩
              · have u := nM77.2.1 (Int.le_antisymm (by omega) (by omega)) (fun h9 => e9Zq (Int.le_antisymm (by omega) (by omega)))
                exact ⟨0, q2Zq, rp_in5 (Or.inr ⟨n45, rp_in6 (Or.inl ⟨h40, Or.inr ⟨q2Zq, rb9 cZq.1, Or.inr ⟨e9Zq, rfl, rfl⟩⟩⟩)⟩), Int.le_antisymm (by omega) (by omega), by omega, by omega, Or.inr ⟨rfl, Int.le_antisymm (by omega) (by omega)⟩⟩
            · have u := nM77.2.2 (by omega)
              exact ⟨0, q2Zq, rp_in5 (Or.inr ⟨n45, rp_in6 (Or.inl ⟨h40, Or.inl ⟨rb8 cZq.1, rfl⟩⟩)⟩), Int.le_antisymm (by omega) (by omega), by omega, by omega, Or.inr ⟨rfl, Int.le_antisymm (by omega) (by omega)⟩⟩
          refine li_iload_n 0 dX12_part_65 rfl ?_
          exact li_iret dX12_part_66 rfl rfl ⟨⟨_, rfl, (by first | exact finZq | exact absurd hw (by omega))⟩, hf, hJ⟩
    · skip
      refine li_if_ne 25 dX12_part_20 (by decide) (fun cZq => absurd rfl cZq) (fun cZq => ?_)
      refine li_iconst 0 dX12_part_23 (by decide) ?_
      have z0 : (0 : Int32).toInt = 0 := rfl
      exact li_iret dX12_part_24 rfl rfl ⟨⟨_, rfl, (by first | exact finZq | exact absurd hw (by omega))⟩, hf, hJ⟩
