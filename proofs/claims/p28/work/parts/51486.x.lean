theorem rp_mv4 {g : Nat → Int32} {len p p' : Int} (h : rp_mul (rd_ch g len p)) (e : p' = p) : rp_mul (rd_ch g len p') := by subst e; exact h
theorem rp_mv2 {g : Nat → Int32} {len p p' : Int} (h : rp_add (rd_ch g len p)) (e : p' = p) : rp_add (rd_ch g len p') := by subst e; exact h

set_option maxRecDepth 100000 in
set_option maxHeartbeats 4000000 in
theorem k14_X12_letterOf {l : Launch} {Z : li_Z} (d : Nat) (hd : 1 ≤ d) (p1 : Int32) (M0 : li_M) (hJ : li_J M0) : li_Met l Z YX12_letterOf d [.int p1] M0 (fun r M' => (∃ x : Int32, r = some (.int x) ∧ ((x.toInt = -1 ∧ ¬ rp_let p1.toInt) ∨ (0 ≤ x.toInt ∧ x.toInt ≤ 5 ∧ rp_let p1.toInt))) ∧ li_fs (fun i k => False) M0 M' ∧ li_J M') := by
  refine li_enter (by decide +kernel) (Nat.le_of_ble_eq_true rfl) ?_
  show li_T l Z YX12_letterOf d 0 [(0, .int p1)] [] M0 _
  have hf : li_fs (fun i k => False) M0 M0 := li_fs_refl
  have gp1 := tl_rg p1
  refine li_iload_n 0 dX12_letterOf_0 rfl ?_
  refine li_bipush 108 dX12_letterOf_1 (by decide) ?_
  refine li_icmp_ne 10 dX12_letterOf_3 (by decide) (fun c1 => ?_) (fun c1 => ?_)
  · have tc1 : ¬ p1.toInt = 108 := tl_ne c1
    refine li_iload_n 0 dX12_letterOf_10 rfl ?_
    refine li_bipush 119 dX12_letterOf_11 (by decide) ?_
    refine li_icmp_ne 20 dX12_letterOf_13 (by decide) (fun c2 => ?_) (fun c2 => ?_)
    · have tc2 : ¬ p1.toInt = 119 := tl_ne c2
      refine li_iload_n 0 dX12_letterOf_20 rfl ?_
      refine li_bipush 115 dX12_letterOf_21 (by decide) ?_
      refine li_icmp_ne 30 dX12_letterOf_23 (by decide) (fun c3 => ?_) (fun c3 => ?_)
      · have tc3 : ¬ p1.toInt = 115 := tl_ne c3
        refine li_iload_n 0 dX12_letterOf_30 rfl ?_
        refine li_bipush 99 dX12_letterOf_31 (by decide) ?_
        refine li_icmp_ne 40 dX12_letterOf_33 (by decide) (fun c4 => ?_) (fun c4 => ?_)
        · have tc4 : ¬ p1.toInt = 99 := tl_ne c4
          refine li_iload_n 0 dX12_letterOf_40 rfl ?_
          refine li_bipush 100 dX12_letterOf_41 (by decide) ?_
          refine li_icmp_ne 50 dX12_letterOf_43 (by decide) (fun c5 => ?_) (fun c5 => ?_)
          · have tc5 : ¬ p1.toInt = 100 := tl_ne c5
            refine li_iload_n 0 dX12_letterOf_50 rfl ?_
            refine li_bipush 104 dX12_letterOf_51 (by decide) ?_
            refine li_icmp_ne 60 dX12_letterOf_53 (by decide) (fun c6 => ?_) (fun c6 => ?_)
            · have tc6 : ¬ p1.toInt = 104 := tl_ne c6
              refine li_iconst (-1) dX12_letterOf_60 (by decide) ?_
              have zm1 : ((-1) : Int32).toInt = -1 := rfl
              exact li_iret dX12_letterOf_61 rfl rfl ⟨⟨_, rfl, (by unfold rp_let; omega)⟩, hf, hJ⟩
            · have tc6 : p1.toInt = 104 := tl_eq c6
              refine li_iconst 5 dX12_letterOf_56 (by decide) ?_
              refine li_goto 61 dX12_letterOf_57 (by decide) ?_
              have z5 : (5 : Int32).toInt = 5 := rfl
              exact li_iret dX12_letterOf_61 rfl rfl ⟨⟨_, rfl, (by unfold rp_let; omega)⟩, hf, hJ⟩
          · have tc5 : p1.toInt = 100 := tl_eq c5
            refine li_iconst 4 dX12_letterOf_46 (by decide) ?_
            refine li_goto 61 dX12_letterOf_47 (by decide) ?_
            have z4 : (4 : Int32).toInt = 4 := rfl
            exact li_iret dX12_letterOf_61 rfl rfl ⟨⟨_, rfl, (by unfold rp_let; omega)⟩, hf, hJ⟩
        · have tc4 : p1.toInt = 99 := tl_eq c4
          refine li_iconst 3 dX12_letterOf_36 (by decide) ?_
          refine li_goto 61 dX12_letterOf_37 (by decide) ?_
          have z3 : (3 : Int32).toInt = 3 := rfl
          exact li_iret dX12_letterOf_61 rfl rfl ⟨⟨_, rfl, (by unfold rp_let; omega)⟩, hf, hJ⟩
      · have tc3 : p1.toInt = 115 := tl_eq c3
        refine li_iconst 2 dX12_letterOf_26 (by decide) ?_
        refine li_goto 61 dX12_letterOf_27 (by decide) ?_
        have z2 : (2 : Int32).toInt = 2 := rfl
        exact li_iret dX12_letterOf_61 rfl rfl ⟨⟨_, rfl, (by unfold rp_let; omega)⟩, hf, hJ⟩
    · have tc2 : p1.toInt = 119 := tl_eq c2
      refine li_iconst 1 dX12_letterOf_16 (by decide) ?_
      refine li_goto 61 dX12_letterOf_17 (by decide) ?_
      have z1 : (1 : Int32).toInt = 1 := rfl
      exact li_iret dX12_letterOf_61 rfl rfl ⟨⟨_, rfl, (by unfold rp_let; omega)⟩, hf, hJ⟩
  · have tc1 : p1.toInt = 108 := tl_eq c1
    refine li_iconst 0 dX12_letterOf_6 (by decide) ?_
    refine li_goto 61 dX12_letterOf_7 (by decide) ?_
    have z0 : (0 : Int32).toInt = 0 := rfl
    exact li_iret dX12_letterOf_61 rfl rfl ⟨⟨_, rfl, (by unfold rp_let; omega)⟩, hf, hJ⟩
set_option maxRecDepth 100000 in
set_option maxHeartbeats 4000000 in
theorem k14_X12_part {l : Launch} {Z : li_Z} (d : Nat) (hd : 5 ≤ d) (p1 : Int32) (dE : Nat) (hE : dE + 1 ≤ d) (M0 : li_M) (hJ : li_J M0) (bM0 : M0.2.2 0 = some 180) (hB : Nat → Int32) (hhB : li_by (M0.1 180) = hB) (e : Int) (he : min (M0.1 175 12).toInt (M0.1 175 13).toInt = e) (hat : (M0.1 175 14).toInt ≤ e) (hw : (M0.1 175 15).toInt = -1) (h4 : 0 ≤ p1.toInt ∧ p1.toInt ≤ 4) (IHp : ∀ (q9 : Int32) (M : li_M), li_J M → M.2.2 0 = some 180 → li_by (M.1 180) = hB → min (M.1 175 12).toInt (M.1 175 13).toInt = e → (M0.1 175 14).toInt + 1 ≤ (M.1 175 14).toInt → (M.1 175 14).toInt ≤ e → (M.1 175 15).toInt = -1 → 0 ≤ q9.toInt ∧ q9.toInt ≤ 4 → li_Met l Z YX12_part dE [.ref (Z.2.2 175), .int q9] M (fun r M' => (∃ x : Int32, r = some (.int x) ∧ (∃ ok q : Int, rpr hB e 5 (q9.toInt) ((M.1 175 14).toInt) ok q ∧ (M'.1 175 14).toInt = q ∧ (M.1 175 14).toInt ≤ q ∧ q ≤ e ∧ ((ok = 1 ∧ (M'.1 175 15).toInt = -1) ∨ (ok = 0 ∧ (M'.1 175 15).toInt = q)))) ∧ li_fs (fun i k => (i = 175 ∧ k = 14) ∨ (i = 175 ∧ k = 15)) M M' ∧ li_J M')) (IHh : ∀ (q9 : Int32) (M : li_M), li_J M → M.2.2 0 = some 180 → li_by (M.1 180) = hB → min (M.1 175 12).toInt (M.1 175 13).toInt = e → (M0.1 175 14).toInt + 1 ≤ (M.1 175 14).toInt → (M.1 175 14).toInt ≤ e → (M.1 175 15).toInt = -1 → 0 ≤ q9.toInt ∧ q9.toInt ≤ 4 → li_Met l Z YX12_held dE [.ref (Z.2.2 175), .int q9] M (fun r M' => (∃ x : Int32, r = some (.int x) ∧ (∃ ok q : Int, rpr hB e 0 (q9.toInt) ((M.1 175 14).toInt) ok q ∧ (M'.1 175 14).toInt = q ∧ (M.1 175 14).toInt ≤ q ∧ q ≤ e ∧ ((ok = 1 ∧ (M'.1 175 15).toInt = -1) ∨ (ok = 0 ∧ (M'.1 175 15).toInt = q)))) ∧ li_fs (fun i k => (i = 175 ∧ k = 14) ∨ (i = 175 ∧ k = 15)) M M' ∧ li_J M')) : li_Met l Z YX12_part d [.ref (Z.2.2 175), .int p1] M0 (fun r M' => (∃ x : Int32, r = some (.int x) ∧ (∃ ok q : Int, rpr hB e 5 (p1.toInt) ((M0.1 175 14).toInt) ok q ∧ (M'.1 175 14).toInt = q ∧ (M0.1 175 14).toInt ≤ q ∧ q ≤ e ∧ ((ok = 1 ∧ (M'.1 175 15).toInt = -1) ∨ (ok = 0 ∧ (M'.1 175 15).toInt = q)))) ∧ li_fs (fun i k => (i = 175 ∧ k = 14) ∨ (i = 175 ∧ k = 15)) M0 M' ∧ li_J M') := by
  refine li_enter (by decide +kernel) (Nat.le_of_ble_eq_true rfl) ?_
  show li_T l Z YX12_part d 0 [(0, .ref (Z.2.2 175)), (1, .int p1)] [] M0 _
  have hf : li_fs (fun i k => (i = 175 ∧ k = 14) ∨ (i = 175 ∧ k = 15)) M0 M0 := li_fs_refl
  have gp1 := tl_rg p1
  have rM0_12 := J_sl12 (M := M0) hJ
  have rM0_13 := J_sl13 (M := M0) hJ
  have rM0_14 := J_sl14 (M := M0) hJ
  have rM0_15 := J_sl15 (M := M0) hJ
  refine li_aload_n 0 dX12_part_0 rfl ?_
  refine li_bipush 45 dX12_part_1 (by decide) ?_
  have ch0 : (li_hr M0).toInt = rd_ch hB e ((M0.1 175 14).toInt) := (hr_pt bM0 (by omega) rfl (by rw [show (M0.1 175 12).toInt = (M0.1 175 12).toInt from Int.le_antisymm (by omega) (by omega), show (M0.1 175 13).toInt = (M0.1 175 13).toInt from Int.le_antisymm (by omega) (by omega)]; exact he) (Int.le_antisymm (by omega) (by omega))).trans (congrArg (fun z => rd_ch z e ((M0.1 175 14).toInt)) ((congrArg li_by (funext fun i => hf.1 180 i ((fun i => (show ¬ ((180 = 175 ∧ i = 14) ∨ (180 = 175 ∧ i = 15)) by first | (simp; done) | omega)) i))).trans hhB))
  have z45 : (45 : Int32).toInt = 45 := rfl
  refine li_callV (n := 1) (As := [.int 45]) dX12_part_3 (k_X12_passes (d - 1) (by omega) 45 M0 hJ (by omega)) (by omega) (Nat.le_of_ble_eq_true rfl) w_1605 w_1607 w_49 w_112 w_1608 (by decide +kernel) rfl (by decide) sh_175 rfl rfl (Nat.le_of_ble_eq_true rfl) (fun r M2 h3 => ?_)
  obtain ⟨qx1, h3, jM2⟩ := h3
  have hf := li_fs_trans hf h3 (fun i k => fun h => Or.inl h)
  have hJ := jM2
  have rM2_12 := J_sl12 (M := M2) hJ
  have rM2_13 := J_sl13 (M := M2) hJ
  have rM2_14 := J_sl14 (M := M2) hJ
  have rM2_15 := J_sl15 (M := M2) hJ
  have mM2_12 : (M2.1 175 12).toInt = (M0.1 175 12).toInt := tl_slot (h3.1 175 12 (show ¬ ((175 = 175 ∧ 12 = 14)) by decide))
  have mM2_13 : (M2.1 175 13).toInt = (M0.1 175 13).toInt := tl_slot (h3.1 175 13 (show ¬ ((175 = 175 ∧ 13 = 14)) by decide))
  have mM2_15 : (M2.1 175 15).toInt = (M0.1 175 15).toInt := tl_slot (h3.1 175 15 (show ¬ ((175 = 175 ∧ 15 = 14)) by decide))
  have bM2 : M2.2.2 0 = some 180 := (h3.2.2 0 (fun h9 => by first | exact (h9 : False).elim | (simp at h9; done) | omega)).trans bM0
  rcases qx1 with ⟨rfl, qx1⟩ | ⟨rfl, qx1⟩
  · skip
    refine li_if_eq 16 dX12_part_6 (by decide) (fun c => absurd c (by decide)) (fun c => ?_)
    have c45 : rd_ch hB e ((M0.1 175 14).toInt) = 45 := Int.le_antisymm (by omega) (by omega)
    refine li_aload_n 0 dX12_part_9 rfl ?_
    refine li_iload_n 1 dX12_part_10 rfl ?_
    refine li_callV (n := 1) (As := [.int p1]) dX12_part_11 (IHp p1 M2 hJ bM2 ((congrArg li_by (funext fun i => hf.1 180 i ((fun i => (show ¬ ((180 = 175 ∧ i = 14) ∨ (180 = 175 ∧ i = 15)) by first | (simp; done) | omega)) i))).trans hhB) (by rw [show (M2.1 175 12).toInt = (M0.1 175 12).toInt from Int.le_antisymm (by omega) (by omega), show (M2.1 175 13).toInt = (M0.1 175 13).toInt from Int.le_antisymm (by omega) (by omega)]; exact he) (by omega) (by omega) (Int.le_antisymm (by omega) (by omega)) ⟨by omega, by omega⟩) (by omega) (Nat.le_of_ble_eq_true rfl) w_1637 w_1639 w_55 w_112 w_1640 (by decide +kernel) rfl (by decide) sh_175 rfl rfl (Nat.le_of_ble_eq_true rfl) (fun r M6 h7 => ?_)
    obtain ⟨⟨x5, rfl, qx5⟩, h7, jM6⟩ := h7
    have gx5 := tl_rg x5
    have hf := li_fs_trans hf h7 (fun i k => fun h => Or.elim h (fun h => Or.inl h) (fun h => Or.inr h))
    have hJ := jM6
    have rM6_12 := J_sl12 (M := M6) hJ
    have rM6_13 := J_sl13 (M := M6) hJ
    have rM6_14 := J_sl14 (M := M6) hJ
    have rM6_15 := J_sl15 (M := M6) hJ
    have mM6_12 : (M6.1 175 12).toInt = (M2.1 175 12).toInt := tl_slot (h7.1 175 12 (show ¬ ((175 = 175 ∧ 12 = 14) ∨ (175 = 175 ∧ 12 = 15)) by decide))
    have mM6_13 : (M6.1 175 13).toInt = (M2.1 175 13).toInt := tl_slot (h7.1 175 13 (show ¬ ((175 = 175 ∧ 13 = 14) ∨ (175 = 175 ∧ 13 = 15)) by decide))
    have bM6 : M6.2.2 0 = some 180 := (h7.2.2 0 (fun h9 => by first | exact (h9 : False).elim | (simp at h9; done) | omega)).trans bM2
    obtain ⟨ok1, q1, ra, ea1, ea2, ea3, ea4⟩ := qx5
    have fin : ∃ ok q : Int, rpr hB e 5 (p1.toInt) ((M0.1 175 14).toInt) ok q ∧ (M6.1 175 14).toInt = q ∧ (M0.1 175 14).toInt ≤ q ∧ q ≤ e ∧ ((ok = 1 ∧ (M6.1 175 15).toInt = -1) ∨ (ok = 0 ∧ (M6.1 175 15).toInt = q)) := ⟨ok1, q1, rp_in5 (Or.inl ⟨c45, rp_to ra rfl (Int.le_antisymm (by omega) (by omega)) rfl rfl⟩), ea1, by omega, by omega, ea4⟩
    refine li_ineg dX12_part_14 ?_
    refine li_top (fun x8 ex8 => ?_)
    try (have tx8 : x8.toInt = -(x5 : Int32).toInt := tl_neg ex8 (by omega))
    exact li_iret dX12_part_15 rfl rfl ⟨⟨_, rfl, (by first | exact fin | exact absurd hw (by omega))⟩, hf, hJ⟩
  · skip
    refine li_if_eq 16 dX12_part_6 (by decide) (fun c => ?_) (fun c => absurd rfl c)
    have n45 : ¬ rd_ch hB e ((M0.1 175 14).toInt) = 45 := fun h9 => qx1.1 (Int.le_antisymm (by omega) (by omega)) (ch0.trans h9)
    refine li_aload_n 0 dX12_part_16 rfl ?_
    refine li_callV (n := 0) (As := []) dX12_part_17 (k_X12_fine (d - 1) (by omega)  M2 hJ ) (by omega) (Nat.le_of_ble_eq_true rfl) w_1581 w_1583 w_43 w_112 w_1584 (by decide +kernel) rfl (by decide) sh_175 rfl rfl (Nat.le_of_ble_eq_true rfl) (fun r M11 h12 => ?_)
    obtain ⟨qx10, h12, jM11⟩ := h12
    have hf := li_fs_trans hf h12 (fun i k h => False.elim h)
    have kM11 : (li_hr M11).toInt = (li_hr M2).toInt := li_hr_fs h12 id id id id (fun _ _ _ => id) (by assumption)
    have hJ := jM11
    have rM11_12 := J_sl12 (M := M11) hJ
    have rM11_13 := J_sl13 (M := M11) hJ
    have rM11_14 := J_sl14 (M := M11) hJ
    have rM11_15 := J_sl15 (M := M11) hJ
    have mM11_12 : (M11.1 175 12).toInt = (M2.1 175 12).toInt := tl_slot (h12.1 175 12 id)
    have mM11_13 : (M11.1 175 13).toInt = (M2.1 175 13).toInt := tl_slot (h12.1 175 13 id)
    have mM11_14 : (M11.1 175 14).toInt = (M2.1 175 14).toInt := tl_slot (h12.1 175 14 id)
    have mM11_15 : (M11.1 175 15).toInt = (M2.1 175 15).toInt := tl_slot (h12.1 175 15 id)
    have bM11 : M11.2.2 0 = some 180 := (h12.2.2 0 (fun h9 => by first | exact (h9 : False).elim | (simp at h9; done) | omega)).trans bM2
    rcases qx10 with ⟨rfl, qx10⟩ | ⟨rfl, qx10⟩
    · skip
      refine li_if_ne 25 dX12_part_20 (by decide) (fun c => ?_) (fun c => absurd c (by decide))
      refine li_aload_n 0 dX12_part_25 rfl ?_
      have ch26 : (li_hr M11).toInt = rd_ch hB e ((M0.1 175 14).toInt) := (hr_pt bM11 (by omega) rfl (by rw [show (M11.1 175 12).toInt = (M0.1 175 12).toInt from Int.le_antisymm (by omega) (by omega), show (M11.1 175 13).toInt = (M0.1 175 13).toInt from Int.le_antisymm (by omega) (by omega)]; exact he) (Int.le_antisymm (by omega) (by omega))).trans (congrArg (fun z => rd_ch z e ((M0.1 175 14).toInt)) ((congrArg li_by (funext fun i => hf.1 180 i ((fun i => (show ¬ ((180 = 175 ∧ i = 14) ∨ (180 = 175 ∧ i = 15)) by first | (simp; done) | omega)) i))).trans hhB))
      refine li_callV (n := 0) (As := []) dX12_part_26 (k_X12_here (d - 1) (by omega)  M11 hJ ) (by omega) (Nat.le_of_ble_eq_true rfl) w_1597 w_1599 w_47 w_112 w_1600 (by decide +kernel) rfl (by decide) sh_175 rfl rfl (Nat.le_of_ble_eq_true rfl) (fun r M15 h16 => ?_)
      obtain ⟨⟨x14, rfl, qx14⟩, h16, jM15⟩ := h16
      have gx14 := tl_rg x14
      have hf := li_fs_trans hf h16 (fun i k h => False.elim h)
      have kM15 : (li_hr M15).toInt = (li_hr M11).toInt := li_hr_fs h16 id id id id (fun _ _ _ => id) (by assumption)
      have hJ := jM15
      have rM15_12 := J_sl12 (M := M15) hJ
      have rM15_13 := J_sl13 (M := M15) hJ
      have rM15_14 := J_sl14 (M := M15) hJ
      have rM15_15 := J_sl15 (M := M15) hJ
      have mM15_12 : (M15.1 175 12).toInt = (M11.1 175 12).toInt := tl_slot (h16.1 175 12 id)
      have mM15_13 : (M15.1 175 13).toInt = (M11.1 175 13).toInt := tl_slot (h16.1 175 13 id)
      have mM15_14 : (M15.1 175 14).toInt = (M11.1 175 14).toInt := tl_slot (h16.1 175 14 id)
      have mM15_15 : (M15.1 175 15).toInt = (M11.1 175 15).toInt := tl_slot (h16.1 175 15 id)
      have bM15 : M15.2.2 0 = some 180 := (h16.2.2 0 (fun h9 => by first | exact (h9 : False).elim | (simp at h9; done) | omega)).trans bM11
      have c26 : x14.toInt = rd_ch hB e ((M0.1 175 14).toInt) := Int.le_antisymm (by omega) (by omega)
      refine li_istore_n [(2, .int x14), (0, .ref (Z.2.2 175)), (1, .int p1)] dX12_part_29 (by decide) rfl ?_
      refine li_iload_n 0 dX12_part_30 rfl ?_
      refine li_bipush 40 dX12_part_31 (by decide) ?_
      refine li_icmp_ne 67 dX12_part_33 (by decide) (fun c17 => ?_) (fun c17 => ?_)
      · have tc17 : ¬ x14.toInt = 40 := tl_ne c17
        have n40 : ¬ (rd_ch hB e ((M0.1 175 14).toInt) = 40 ∧ p1.toInt < 4) := fun h9 => by omega
        refine li_iload_n 0 dX12_part_67 rfl ?_
        refine li_bipush 48 dX12_part_68 (by decide) ?_
        refine li_bipush 57 dX12_part_70 (by decide) ?_
        have z48 : (48 : Int32).toInt = 48 := rfl
        have z57 : (57 : Int32).toInt = 57 := rfl
        refine li_callS (n := 3) (As := [.int x14, .int 48, .int 57]) dX12_part_72 (k_X12_in (d - 1) (by omega) x14 48 57 M15 hJ ) (by omega) (Nat.le_of_ble_eq_true rfl) w_1570 w_1571 w_112 w_1572 (by decide +kernel) rfl rfl (Nat.le_of_ble_eq_true rfl) (fun r M19 h20 => ?_)
        obtain ⟨qx18, h20, jM19⟩ := h20
        have hf := li_fs_trans hf h20 (fun i k h => False.elim h)
        have kM19 : (li_hr M19).toInt = (li_hr M15).toInt := li_hr_fs h20 id id id id (fun _ _ _ => id) (by assumption)
        have hJ := jM19
        have rM19_12 := J_sl12 (M := M19) hJ
        have rM19_13 := J_sl13 (M := M19) hJ
        have rM19_14 := J_sl14 (M := M19) hJ
        have rM19_15 := J_sl15 (M := M19) hJ
        have mM19_12 : (M19.1 175 12).toInt = (M15.1 175 12).toInt := tl_slot (h20.1 175 12 id)
        have mM19_13 : (M19.1 175 13).toInt = (M15.1 175 13).toInt := tl_slot (h20.1 175 13 id)
        have mM19_14 : (M19.1 175 14).toInt = (M15.1 175 14).toInt := tl_slot (h20.1 175 14 id)
        have mM19_15 : (M19.1 175 15).toInt = (M15.1 175 15).toInt := tl_slot (h20.1 175 15 id)
        have bM19 : M19.2.2 0 = some 180 := (h20.2.2 0 (fun h9 => by first | exact (h9 : False).elim | (simp at h9; done) | omega)).trans bM15
        rcases qx18 with ⟨rfl, qx18⟩ | ⟨rfl, qx18⟩
        · skip
          refine li_if_eq 84 dX12_part_75 (by decide) (fun c => absurd c (by decide)) (fun c => ?_)
          refine li_aload_n 1 dX12_part_78 rfl ?_
          refine li_iconst 3 dX12_part_79 (by decide) ?_
          obtain ⟨rn, qn, nq0⟩ : ∃ r q, li_nq hB e 3 (-1) ((M0.1 175 14).toInt) r q := li_nq_self
          have z3 : (3 : Int32).toInt = 3 := rfl
          refine li_callV (n := 1) (As := [.int 3]) dX12_part_80 (k5_X12_number (d - 1) (by omega) 3 M19 hJ (by decide) bM19 _ _ (li_nq_tr ((congrArg li_by (funext fun i => hf.1 180 i ((fun i => (show ¬ ((180 = 175 ∧ i = 14) ∨ (180 = 175 ∧ i = 15)) by first | (simp; done) | omega)) i))).trans hhB) (by rw [show (M19.1 175 12).toInt = (M0.1 175 12).toInt from Int.le_antisymm (by omega) (by omega), show (M19.1 175 13).toInt = (M0.1 175 13).toInt from Int.le_antisymm (by omega) (by omega)]; exact he) (by decide) rfl (Int.le_antisymm (by omega) (by omega)) rfl rfl nq0)) (by omega) (Nat.le_of_ble_eq_true rfl) w_1589 w_1591 w_45 w_112 w_1592 (by decide +kernel) rfl (by decide) sh_175 rfl rfl (Nat.le_of_ble_eq_true rfl) (fun r M23 h24 => ?_)
          obtain ⟨⟨x22, rfl, qx22⟩, h24, jM23⟩ := h24
          have gx22 := tl_rg x22
          have hf := li_fs_trans hf h24 (fun i k => fun h => Or.elim h (fun h => Or.inl h) (fun h => Or.inr h))
          have hJ := jM23
          have rM23_12 := J_sl12 (M := M23) hJ
          have rM23_13 := J_sl13 (M := M23) hJ
          have rM23_14 := J_sl14 (M := M23) hJ
          have rM23_15 := J_sl15 (M := M23) hJ
          have mM23_12 : (M23.1 175 12).toInt = (M19.1 175 12).toInt := tl_slot (h24.1 175 12 (show ¬ ((175 = 175 ∧ 12 = 14) ∨ (175 = 175 ∧ 12 = 15)) by decide))
          have mM23_13 : (M23.1 175 13).toInt = (M19.1 175 13).toInt := tl_slot (h24.1 175 13 (show ¬ ((175 = 175 ∧ 13 = 14) ∨ (175 = 175 ∧ 13 = 15)) by decide))
          have bM23 : M23.2.2 0 = some 180 := (h24.2.2 0 (fun h9 => by first | exact (h9 : False).elim | (simp at h9; done) | omega)).trans bM19
          have nl : ¬ rp_let (rd_ch hB e ((M0.1 175 14).toInt)) := by unfold rp_let; omega
          have em9 : min (M19.1 175 12).toInt (M19.1 175 13).toInt = e := (by rw [show (M19.1 175 12).toInt = (M0.1 175 12).toInt from Int.le_antisymm (by omega) (by omega), show (M19.1 175 13).toInt = (M0.1 175 13).toInt from Int.le_antisymm (by omega) (by omega)]; exact he)
          have um := qx22.2.2.2 (by rw [em9]; omega)
          rw [em9] at um
          have fin : ∃ ok q : Int, rpr hB e 5 (p1.toInt) ((M0.1 175 14).toInt) ok q ∧ (M23.1 175 14).toInt = q ∧ (M0.1 175 14).toInt ≤ q ∧ q ≤ e ∧ ((ok = 1 ∧ (M23.1 175 15).toInt = -1) ∨ (ok = 0 ∧ (M23.1 175 15).toInt = q)) := by
            have hq := qx22.1 (Int.le_antisymm (by omega) (by omega))
            rcases Int.lt_or_le rn 0 with c | c
            · have u := hq.1 c; exact ⟨0, qn, rp_in5 (Or.inr ⟨n45, rp_in6 (Or.inr ⟨n40, Or.inr ⟨nl, rn, nq0, Or.inr ⟨c, rfl⟩⟩⟩)⟩), Int.le_antisymm (by omega) (by omega), by omega, by omega, Or.inr ⟨rfl, Int.le_antisymm (by omega) (by omega)⟩⟩
            · have u := hq.2 c; exact ⟨1, qn, rp_in5 (Or.inr ⟨n45, rp_in6 (Or.inr ⟨n40, Or.inr ⟨nl, rn, nq0, Or.inl ⟨c, rfl⟩⟩⟩)⟩), Int.le_antisymm (by omega) (by omega), by omega, by omega, Or.inl ⟨rfl, u.2.2⟩⟩
          exact li_iret dX12_part_83 rfl rfl ⟨⟨_, rfl, (by first | exact fin | exact absurd hw (by omega))⟩, hf, hJ⟩
        · skip
          refine li_if_eq 84 dX12_part_75 (by decide) (fun c => ?_) (fun c => absurd rfl c)
          refine li_iload_n 0 dX12_part_84 rfl ?_
          refine li_callS (n := 1) (As := [.int x14]) dX12_part_85 (k14_X12_letterOf (d - 1) (by omega) x14 M19 hJ ) (by omega) (Nat.le_of_ble_eq_true rfl) w_1641 w_1642 w_112 w_1643 (by decide +kernel) rfl rfl (Nat.le_of_ble_eq_true rfl) (fun r M27 h28 => ?_)
          obtain ⟨⟨x26, rfl, qx26⟩, h28, jM27⟩ := h28
          have gx26 := tl_rg x26
          have hf := li_fs_trans hf h28 (fun i k h => False.elim h)
          have kM27 : (li_hr M27).toInt = (li_hr M19).toInt := li_hr_fs h28 id id id id (fun _ _ _ => id) (by assumption)
          have hJ := jM27
          have rM27_12 := J_sl12 (M := M27) hJ
          have rM27_13 := J_sl13 (M := M27) hJ
          have rM27_14 := J_sl14 (M := M27) hJ
          have rM27_15 := J_sl15 (M := M27) hJ
          have mM27_12 : (M27.1 175 12).toInt = (M19.1 175 12).toInt := tl_slot (h28.1 175 12 id)
          have mM27_13 : (M27.1 175 13).toInt = (M19.1 175 13).toInt := tl_slot (h28.1 175 13 id)
          have mM27_14 : (M27.1 175 14).toInt = (M19.1 175 14).toInt := tl_slot (h28.1 175 14 id)
          have mM27_15 : (M27.1 175 15).toInt = (M19.1 175 15).toInt := tl_slot (h28.1 175 15 id)
          have bM27 : M27.2.2 0 = some 180 := (h28.2.2 0 (fun h9 => by first | exact (h9 : False).elim | (simp at h9; done) | omega)).trans bM19
          have lt85 := qx26
          rw [c26] at lt85
          refine li_iconst (-1) dX12_part_88 (by decide) ?_
          refine li_icmp_ne 102 dX12_part_89 (by decide) (fun c29 => ?_) (fun c29 => ?_)
          · have tc29 : ¬ x26.toInt = (-1) := tl_ne c29
            refine li_aload_n 1 dX12_part_102 rfl ?_
            refine li_dup dX12_part_103 rfl ?_
            refine li_geti (k := 14) (N := 52) (T := TX12) (C0 := RX12) dX12_part_104 (by decide) sh_175 rfl rfl (by decide) li_in12 w_1418 ?_
            refine li_top (fun x30 ex30 => ?_)
            have gx30 : 0 ≤ x30.toInt ∧ x30.toInt ≤ 81 := by rw [ex30]; exact J_sl14 hJ
            have mx30 : x30.toInt = (M27.1 175 14).toInt := tl_slot ex30
            refine li_iconst 1 dX12_part_107 (by decide) ?_
            refine li_iadd dX12_part_108 ?_
            refine li_top (fun x31 ex31 => ?_)
            have z1 : (1 : Int32).toInt = 1 := rfl
            try (have tx31 : x31.toInt = (x30 : Int32).toInt + (1 : Int32).toInt := tl_add ex31 ⟨by omega, by omega⟩)
            refine li_puti (k := 14) (N := 52) (T := TX12) (C0 := RX12) dX12_part_109 (by decide) sh_175 rfl rfl (by decide) li_in12 tyX12_ok nmX12 rfl rfl rfl rfl w_1418 ?_
            refine li_nm (fun M32 eM32 => ?_)
            have hf := li_fs_ui hf (Or.inl ⟨rfl, rfl⟩) eM32
            have hJ := J_pt14 hJ (show 0 ≤ (x31 : Int32).toInt ∧ (x31 : Int32).toInt ≤ 81 from ⟨(by omega), (by omega)⟩) eM32
            have rM32_12 := J_sl12 (M := M32) hJ
            have rM32_13 := J_sl13 (M := M32) hJ
            have rM32_14 := J_sl14 (M := M32) hJ
            have rM32_15 := J_sl15 (M := M32) hJ
            have mM32_12 : (M32.1 175 12).toInt = (M27.1 175 12).toInt := by rw [eM32, li_ui_at, if_pos rfl, if_neg (by decide)]
            have mM32_13 : (M32.1 175 13).toInt = (M27.1 175 13).toInt := by rw [eM32, li_ui_at, if_pos rfl, if_neg (by decide)]
            have mM32_14 : (M32.1 175 14).toInt = x31.toInt := by rw [eM32, li_ui_at, if_pos rfl, if_pos rfl]
            have mM32_15 : (M32.1 175 15).toInt = (M27.1 175 15).toInt := by rw [eM32, li_ui_at, if_pos rfl, if_neg (by decide)]
            have bM32 : M32.2.2 0 = some 180 := by rw [eM32]; exact bM27
            have yl : rp_let (rd_ch hB e ((M0.1 175 14).toInt)) := by rcases lt85 with c | c; exact absurd c.1 (by assumption); exact c.2.2
            have lt := rd_lt (rp_let_nn yl)
            have fin : ∃ ok q : Int, rpr hB e 5 (p1.toInt) ((M0.1 175 14).toInt) ok q ∧ (M32.1 175 14).toInt = q ∧ (M0.1 175 14).toInt ≤ q ∧ q ≤ e ∧ ((ok = 1 ∧ (M32.1 175 15).toInt = -1) ∨ (ok = 0 ∧ (M32.1 175 15).toInt = q)) := ⟨1, (M0.1 175 14).toInt + 1, rp_in5 (Or.inr ⟨n45, rp_in6 (Or.inr ⟨n40, Or.inl ⟨yl, rfl, rfl⟩⟩)⟩), Int.le_antisymm (by omega) (by omega), by omega, by omega, Or.inl ⟨rfl, Int.le_antisymm (by omega) (by omega)⟩⟩
            refine li_aload_n 1 dX12_part_112 rfl ?_
            refine li_geti (k := 20) (N := 52) (T := TX12) (C0 := RX12) dX12_part_113 (by decide) sh_175 rfl rfl (by decide) li_in12 w_1424 ?_
            refine li_top (fun x33 ex33 => ?_)
            have gx33 := tl_rg x33
            have sx33 : x33.toInt = (M0.1 175 20).toInt := tl_slot (ex33.trans (hf.1 175 20 (show ¬ ((175 = 175 ∧ 20 = 14) ∨ (175 = 175 ∧ 20 = 15)) by decide)))
            refine li_if_eq 131 dX12_part_116 (by decide) (fun c34 => ?_) (fun c34 => ?_)
            · have tc34 : x33.toInt = 0 := tl_eq c34
              refine li_iconst 0 dX12_part_131 (by decide) ?_
              have z0 : (0 : Int32).toInt = 0 := rfl
              exact li_iret dX12_part_132 rfl rfl ⟨⟨_, rfl, (by first | exact fin | exact absurd hw (by omega))⟩, hf, hJ⟩
            · have tc34 : ¬ x33.toInt = 0 := tl_ne c34
              refine li_aload_n 1 dX12_part_119 rfl ?_
              refine li_getr (k := 21) (N := 52) (T := TX12) (C0 := RX12) dX12_part_120 (by decide) sh_175 rfl rfl (by decide) (by decide) li_in12 w_1425 ?_
              refine li_iload_n 0 dX12_part_123 rfl ?_
              refine li_callS (n := 1) (As := [.int x14]) dX12_part_124 (k14_X12_letterOf (d - 1) (by omega) x14 M32 hJ ) (by omega) (Nat.le_of_ble_eq_true rfl) w_1641 w_1642 w_112 w_1643 (by decide +kernel) rfl rfl (Nat.le_of_ble_eq_true rfl) (fun r M36 h37 => ?_)
              obtain ⟨⟨x35, rfl, qx35⟩, h37, jM36⟩ := h37
              have gx35 := tl_rg x35
              have hf := li_fs_trans hf h37 (fun i k h => False.elim h)
              have kM36 : (li_hr M36).toInt = (li_hr M32).toInt := li_hr_fs h37 id id id id (fun _ _ _ => id) (by assumption)
              have hJ := jM36
              have rM36_12 := J_sl12 (M := M36) hJ
              have rM36_13 := J_sl13 (M := M36) hJ
              have rM36_14 := J_sl14 (M := M36) hJ
              have rM36_15 := J_sl15 (M := M36) hJ
              have mM36_12 : (M36.1 175 12).toInt = (M32.1 175 12).toInt := tl_slot (h37.1 175 12 id)
              have mM36_13 : (M36.1 175 13).toInt = (M32.1 175 13).toInt := tl_slot (h37.1 175 13 id)
              have mM36_14 : (M36.1 175 14).toInt = (M32.1 175 14).toInt := tl_slot (h37.1 175 14 id)
              have mM36_15 : (M36.1 175 15).toInt = (M32.1 175 15).toInt := tl_slot (h37.1 175 15 id)
              have bM36 : M36.2.2 0 = some 180 := (h37.2.2 0 (fun h9 => by first | exact (h9 : False).elim | (simp at h9; done) | omega)).trans bM32
              refine li_iald dX12_part_127 (by decide) sh_185 (tl_in ⟨by omega, by omega⟩) ?_
              refine li_top (fun x38 ex38 => ?_)
              have gx38 := tl_rg x38
              refine li_goto 132 dX12_part_128 (by decide) ?_
              exact li_iret dX12_part_132 rfl rfl ⟨⟨_, rfl, (by first | exact fin | exact absurd hw (by omega))⟩, hf, hJ⟩
          · have tc29 : x26.toInt = (-1) := tl_eq c29
            refine li_aload_n 1 dX12_part_92 rfl ?_
            refine li_aload_n 1 dX12_part_93 rfl ?_
            refine li_geti (k := 14) (N := 52) (T := TX12) (C0 := RX12) dX12_part_94 (by decide) sh_175 rfl rfl (by decide) li_in12 w_1418 ?_
            refine li_top (fun x39 ex39 => ?_)
            have gx39 : 0 ≤ x39.toInt ∧ x39.toInt ≤ 81 := by rw [ex39]; exact J_sl14 hJ
            have mx39 : x39.toInt = (M27.1 175 14).toInt := tl_slot ex39
            refine li_callV (n := 1) (As := [.int x39]) dX12_part_97 (k_X12_fault (d - 1) (by omega) x39 M27 hJ ⟨by omega, by omega⟩) (by omega) (Nat.le_of_ble_eq_true rfl) w_1585 w_1587 w_44 w_112 w_1588 (by decide +kernel) rfl (by decide) sh_175 rfl rfl (Nat.le_of_ble_eq_true rfl) (fun r M41 h42 => ?_)
            obtain ⟨rfl, h42, jM41, nM41⟩ := h42
            have hf := li_fs_trans hf h42 (fun i k => fun h => Or.inr h)
            have kM41 : (li_hr M41).toInt = (li_hr M27).toInt := li_hr_fs h42 (show ¬ ((175 = 175 ∧ 12 = 15)) by decide) (show ¬ ((175 = 175 ∧ 13 = 15)) by decide) (show ¬ ((175 = 175 ∧ 14 = 15)) by decide) (show ¬ ((1000 = 175 ∧ 0 = 15)) by decide) (fun q i h => (show ¬ ((q = 175 ∧ i = 15)) by first | (unfold li_rq at h; rcases h with rfl | rfl | rfl <;> simp; done) | (unfold li_rq at h; omega))) (by assumption)
            have hJ := jM41
            have rM41_12 := J_sl12 (M := M41) hJ
            have rM41_13 := J_sl13 (M := M41) hJ
            have rM41_14 := J_sl14 (M := M41) hJ
            have rM41_15 := J_sl15 (M := M41) hJ
            have mM41_12 : (M41.1 175 12).toInt = (M27.1 175 12).toInt := tl_slot (h42.1 175 12 (show ¬ ((175 = 175 ∧ 12 = 15)) by decide))
            have mM41_13 : (M41.1 175 13).toInt = (M27.1 175 13).toInt := tl_slot (h42.1 175 13 (show ¬ ((175 = 175 ∧ 13 = 15)) by decide))
            have mM41_14 : (M41.1 175 14).toInt = (M27.1 175 14).toInt := tl_slot (h42.1 175 14 (show ¬ ((175 = 175 ∧ 14 = 15)) by decide))
            have bM41 : M41.2.2 0 = some 180 := (h42.2.2 0 (fun h9 => by first | exact (h9 : False).elim | (simp at h9; done) | omega)).trans bM27
            have nl : ¬ rp_let (rd_ch hB e ((M0.1 175 14).toInt)) := by rcases lt85 with c | c; exact c.2; exact absurd c.1 (by omega)
            have wf := nM41.1 (Int.le_antisymm (by omega) (by omega))
            obtain ⟨rn, qn, nq0⟩ : ∃ r q, li_nq hB e 3 (-1) ((M0.1 175 14).toInt) r q := li_nq_self
            have nn := li_nq_no nq0 (fun h9 => by omega)
            have fin : ∃ ok q : Int, rpr hB e 5 (p1.toInt) ((M0.1 175 14).toInt) ok q ∧ (M41.1 175 14).toInt = q ∧ (M0.1 175 14).toInt ≤ q ∧ q ≤ e ∧ ((ok = 1 ∧ (M41.1 175 15).toInt = -1) ∨ (ok = 0 ∧ (M41.1 175 15).toInt = q)) := ⟨0, qn, rp_in5 (Or.inr ⟨n45, rp_in6 (Or.inr ⟨n40, Or.inr ⟨nl, rn, nq0, Or.inr ⟨by omega, rfl⟩⟩⟩)⟩), Int.le_antisymm (by omega) (by omega), by omega, by omega, Or.inr ⟨rfl, Int.le_antisymm (by omega) (by omega)⟩⟩
            refine li_iconst 0 dX12_part_100 (by decide) ?_
            have z0 : (0 : Int32).toInt = 0 := rfl
            exact li_iret dX12_part_101 rfl rfl ⟨⟨_, rfl, (by first | exact fin | exact absurd hw (by omega))⟩, hf, hJ⟩
      · have tc17 : x14.toInt = 40 := tl_eq c17
        refine li_iload_n 2 dX12_part_36 rfl ?_
        refine li_iconst 4 dX12_part_37 (by decide) ?_
        refine li_icmp_ge 67 dX12_part_38 (by decide) (fun c43 => ?_) (fun c43 => ?_)
        · have tc43 : 4 ≤ p1.toInt := tl_le c43
          have n40 : ¬ (rd_ch hB e ((M0.1 175 14).toInt) = 40 ∧ p1.toInt < 4) := fun h9 => by omega
          refine li_iload_n 0 dX12_part_67 rfl ?_
          refine li_bipush 48 dX12_part_68 (by decide) ?_
          refine li_bipush 57 dX12_part_70 (by decide) ?_
          have z48 : (48 : Int32).toInt = 48 := rfl
          have z57 : (57 : Int32).toInt = 57 := rfl
          refine li_callS (n := 3) (As := [.int x14, .int 48, .int 57]) dX12_part_72 (k_X12_in (d - 1) (by omega) x14 48 57 M15 hJ ) (by omega) (Nat.le_of_ble_eq_true rfl) w_1570 w_1571 w_112 w_1572 (by decide +kernel) rfl rfl (Nat.le_of_ble_eq_true rfl) (fun r M45 h46 => ?_)
          obtain ⟨qx44, h46, jM45⟩ := h46
          have hf := li_fs_trans hf h46 (fun i k h => False.elim h)
          have kM45 : (li_hr M45).toInt = (li_hr M15).toInt := li_hr_fs h46 id id id id (fun _ _ _ => id) (by assumption)
          have hJ := jM45
          have rM45_12 := J_sl12 (M := M45) hJ
          have rM45_13 := J_sl13 (M := M45) hJ
          have rM45_14 := J_sl14 (M := M45) hJ
          have rM45_15 := J_sl15 (M := M45) hJ
          have mM45_12 : (M45.1 175 12).toInt = (M15.1 175 12).toInt := tl_slot (h46.1 175 12 id)
          have mM45_13 : (M45.1 175 13).toInt = (M15.1 175 13).toInt := tl_slot (h46.1 175 13 id)
          have mM45_14 : (M45.1 175 14).toInt = (M15.1 175 14).toInt := tl_slot (h46.1 175 14 id)
          have mM45_15 : (M45.1 175 15).toInt = (M15.1 175 15).toInt := tl_slot (h46.1 175 15 id)
          have bM45 : M45.2.2 0 = some 180 := (h46.2.2 0 (fun h9 => by first | exact (h9 : False).elim | (simp at h9; done) | omega)).trans bM15
          rcases qx44 with ⟨rfl, qx44⟩ | ⟨rfl, qx44⟩
          · skip
            refine li_if_eq 84 dX12_part_75 (by decide) (fun c => absurd c (by decide)) (fun c => ?_)
            refine li_aload_n 1 dX12_part_78 rfl ?_
            refine li_iconst 3 dX12_part_79 (by decide) ?_
            obtain ⟨rn, qn, nq0⟩ : ∃ r q, li_nq hB e 3 (-1) ((M0.1 175 14).toInt) r q := li_nq_self
            have z3 : (3 : Int32).toInt = 3 := rfl
            refine li_callV (n := 1) (As := [.int 3]) dX12_part_80 (k5_X12_number (d - 1) (by omega) 3 M45 hJ (by decide) bM45 _ _ (li_nq_tr ((congrArg li_by (funext fun i => hf.1 180 i ((fun i => (show ¬ ((180 = 175 ∧ i = 14) ∨ (180 = 175 ∧ i = 15)) by first | (simp; done) | omega)) i))).trans hhB) (by rw [show (M45.1 175 12).toInt = (M0.1 175 12).toInt from Int.le_antisymm (by omega) (by omega), show (M45.1 175 13).toInt = (M0.1 175 13).toInt from Int.le_antisymm (by omega) (by omega)]; exact he) (by decide) rfl (Int.le_antisymm (by omega) (by omega)) rfl rfl nq0)) (by omega) (Nat.le_of_ble_eq_true rfl) w_1589 w_1591 w_45 w_112 w_1592 (by decide +kernel) rfl (by decide) sh_175 rfl rfl (Nat.le_of_ble_eq_true rfl) (fun r M49 h50 => ?_)
            obtain ⟨⟨x48, rfl, qx48⟩, h50, jM49⟩ := h50
            have gx48 := tl_rg x48
            have hf := li_fs_trans hf h50 (fun i k => fun h => Or.elim h (fun h => Or.inl h) (fun h => Or.inr h))
            have hJ := jM49
            have rM49_12 := J_sl12 (M := M49) hJ
            have rM49_13 := J_sl13 (M := M49) hJ
            have rM49_14 := J_sl14 (M := M49) hJ
            have rM49_15 := J_sl15 (M := M49) hJ
            have mM49_12 : (M49.1 175 12).toInt = (M45.1 175 12).toInt := tl_slot (h50.1 175 12 (show ¬ ((175 = 175 ∧ 12 = 14) ∨ (175 = 175 ∧ 12 = 15)) by decide))
            have mM49_13 : (M49.1 175 13).toInt = (M45.1 175 13).toInt := tl_slot (h50.1 175 13 (show ¬ ((175 = 175 ∧ 13 = 14) ∨ (175 = 175 ∧ 13 = 15)) by decide))
            have bM49 : M49.2.2 0 = some 180 := (h50.2.2 0 (fun h9 => by first | exact (h9 : False).elim | (simp at h9; done) | omega)).trans bM45
            have nl : ¬ rp_let (rd_ch hB e ((M0.1 175 14).toInt)) := by unfold rp_let; omega
            have em9 : min (M45.1 175 12).toInt (M45.1 175 13).toInt = e := (by rw [show (M45.1 175 12).toInt = (M0.1 175 12).toInt from Int.le_antisymm (by omega) (by omega), show (M45.1 175 13).toInt = (M0.1 175 13).toInt from Int.le_antisymm (by omega) (by omega)]; exact he)
            have um := qx48.2.2.2 (by rw [em9]; omega)
            rw [em9] at um
            have fin : ∃ ok q : Int, rpr hB e 5 (p1.toInt) ((M0.1 175 14).toInt) ok q ∧ (M49.1 175 14).toInt = q ∧ (M0.1 175 14).toInt ≤ q ∧ q ≤ e ∧ ((ok = 1 ∧ (M49.1 175 15).toInt = -1) ∨ (ok = 0 ∧ (M49.1 175 15).toInt = q)) := by
              have hq := qx48.1 (Int.le_antisymm (by omega) (by omega))
              rcases Int.lt_or_le rn 0 with c | c
              · have u := hq.1 c; exact ⟨0, qn, rp_in5 (Or.inr ⟨n45, rp_in6 (Or.inr ⟨n40, Or.inr ⟨nl, rn, nq0, Or.inr ⟨c, rfl⟩⟩⟩)⟩), Int.le_antisymm (by omega) (by omega), by omega, by omega, Or.inr ⟨rfl, Int.le_antisymm (by omega) (by omega)⟩⟩
              · have u := hq.2 c; exact ⟨1, qn, rp_in5 (Or.inr ⟨n45, rp_in6 (Or.inr ⟨n40, Or.inr ⟨nl, rn, nq0, Or.inl ⟨c, rfl⟩⟩⟩)⟩), Int.le_antisymm (by omega) (by omega), by omega, by omega, Or.inl ⟨rfl, u.2.2⟩⟩
            exact li_iret dX12_part_83 rfl rfl ⟨⟨_, rfl, (by first | exact fin | exact absurd hw (by omega))⟩, hf, hJ⟩
          · skip
            refine li_if_eq 84 dX12_part_75 (by decide) (fun c => ?_) (fun c => absurd rfl c)
            refine li_iload_n 0 dX12_part_84 rfl ?_
            refine li_callS (n := 1) (As := [.int x14]) dX12_part_85 (k14_X12_letterOf (d - 1) (by omega) x14 M45 hJ ) (by omega) (Nat.le_of_ble_eq_true rfl) w_1641 w_1642 w_112 w_1643 (by decide +kernel) rfl rfl (Nat.le_of_ble_eq_true rfl) (fun r M53 h54 => ?_)
            obtain ⟨⟨x52, rfl, qx52⟩, h54, jM53⟩ := h54
            have gx52 := tl_rg x52
            have hf := li_fs_trans hf h54 (fun i k h => False.elim h)
            have kM53 : (li_hr M53).toInt = (li_hr M45).toInt := li_hr_fs h54 id id id id (fun _ _ _ => id) (by assumption)
            have hJ := jM53
            have rM53_12 := J_sl12 (M := M53) hJ
            have rM53_13 := J_sl13 (M := M53) hJ
            have rM53_14 := J_sl14 (M := M53) hJ
            have rM53_15 := J_sl15 (M := M53) hJ
            have mM53_12 : (M53.1 175 12).toInt = (M45.1 175 12).toInt := tl_slot (h54.1 175 12 id)
            have mM53_13 : (M53.1 175 13).toInt = (M45.1 175 13).toInt := tl_slot (h54.1 175 13 id)
            have mM53_14 : (M53.1 175 14).toInt = (M45.1 175 14).toInt := tl_slot (h54.1 175 14 id)
            have mM53_15 : (M53.1 175 15).toInt = (M45.1 175 15).toInt := tl_slot (h54.1 175 15 id)
            have bM53 : M53.2.2 0 = some 180 := (h54.2.2 0 (fun h9 => by first | exact (h9 : False).elim | (simp at h9; done) | omega)).trans bM45
            have lt85 := qx52
            rw [c26] at lt85
            refine li_iconst (-1) dX12_part_88 (by decide) ?_
            refine li_icmp_ne 102 dX12_part_89 (by decide) (fun c55 => ?_) (fun c55 => ?_)
            · have tc55 : ¬ x52.toInt = (-1) := tl_ne c55
              refine li_aload_n 1 dX12_part_102 rfl ?_
              refine li_dup dX12_part_103 rfl ?_
              refine li_geti (k := 14) (N := 52) (T := TX12) (C0 := RX12) dX12_part_104 (by decide) sh_175 rfl rfl (by decide) li_in12 w_1418 ?_
              refine li_top (fun x56 ex56 => ?_)
              have gx56 : 0 ≤ x56.toInt ∧ x56.toInt ≤ 81 := by rw [ex56]; exact J_sl14 hJ
              have mx56 : x56.toInt = (M53.1 175 14).toInt := tl_slot ex56
              refine li_iconst 1 dX12_part_107 (by decide) ?_
              refine li_iadd dX12_part_108 ?_
              refine li_top (fun x57 ex57 => ?_)
              have z1 : (1 : Int32).toInt = 1 := rfl
              try (have tx57 : x57.toInt = (x56 : Int32).toInt + (1 : Int32).toInt := tl_add ex57 ⟨by omega, by omega⟩)
              refine li_puti (k := 14) (N := 52) (T := TX12) (C0 := RX12) dX12_part_109 (by decide) sh_175 rfl rfl (by decide) li_in12 tyX12_ok nmX12 rfl rfl rfl rfl w_1418 ?_
              refine li_nm (fun M58 eM58 => ?_)
              have hf := li_fs_ui hf (Or.inl ⟨rfl, rfl⟩) eM58
              have hJ := J_pt14 hJ (show 0 ≤ (x57 : Int32).toInt ∧ (x57 : Int32).toInt ≤ 81 from ⟨(by omega), (by omega)⟩) eM58
              have rM58_12 := J_sl12 (M := M58) hJ
              have rM58_13 := J_sl13 (M := M58) hJ
              have rM58_14 := J_sl14 (M := M58) hJ
              have rM58_15 := J_sl15 (M := M58) hJ
              have mM58_12 : (M58.1 175 12).toInt = (M53.1 175 12).toInt := by rw [eM58, li_ui_at, if_pos rfl, if_neg (by decide)]
              have mM58_13 : (M58.1 175 13).toInt = (M53.1 175 13).toInt := by rw [eM58, li_ui_at, if_pos rfl, if_neg (by decide)]
              have mM58_14 : (M58.1 175 14).toInt = x57.toInt := by rw [eM58, li_ui_at, if_pos rfl, if_pos rfl]
              have mM58_15 : (M58.1 175 15).toInt = (M53.1 175 15).toInt := by rw [eM58, li_ui_at, if_pos rfl, if_neg (by decide)]
              have bM58 : M58.2.2 0 = some 180 := by rw [eM58]; exact bM53
              have yl : rp_let (rd_ch hB e ((M0.1 175 14).toInt)) := by rcases lt85 with c | c; exact absurd c.1 (by assumption); exact c.2.2
              have lt := rd_lt (rp_let_nn yl)
              have fin : ∃ ok q : Int, rpr hB e 5 (p1.toInt) ((M0.1 175 14).toInt) ok q ∧ (M58.1 175 14).toInt = q ∧ (M0.1 175 14).toInt ≤ q ∧ q ≤ e ∧ ((ok = 1 ∧ (M58.1 175 15).toInt = -1) ∨ (ok = 0 ∧ (M58.1 175 15).toInt = q)) := ⟨1, (M0.1 175 14).toInt + 1, rp_in5 (Or.inr ⟨n45, rp_in6 (Or.inr ⟨n40, Or.inl ⟨yl, rfl, rfl⟩⟩)⟩), Int.le_antisymm (by omega) (by omega), by omega, by omega, Or.inl ⟨rfl, Int.le_antisymm (by omega) (by omega)⟩⟩
              refine li_aload_n 1 dX12_part_112 rfl ?_
              refine li_geti (k := 20) (N := 52) (T := TX12) (C0 := RX12) dX12_part_113 (by decide) sh_175 rfl rfl (by decide) li_in12 w_1424 ?_
              refine li_top (fun x59 ex59 => ?_)
              have gx59 := tl_rg x59
              have sx59 : x59.toInt = (M0.1 175 20).toInt := tl_slot (ex59.trans (hf.1 175 20 (show ¬ ((175 = 175 ∧ 20 = 14) ∨ (175 = 175 ∧ 20 = 15)) by decide)))
              refine li_if_eq 131 dX12_part_116 (by decide) (fun c60 => ?_) (fun c60 => ?_)
              · have tc60 : x59.toInt = 0 := tl_eq c60
                refine li_iconst 0 dX12_part_131 (by decide) ?_
                have z0 : (0 : Int32).toInt = 0 := rfl
                exact li_iret dX12_part_132 rfl rfl ⟨⟨_, rfl, (by first | exact fin | exact absurd hw (by omega))⟩, hf, hJ⟩
              · have tc60 : ¬ x59.toInt = 0 := tl_ne c60
                refine li_aload_n 1 dX12_part_119 rfl ?_
                refine li_getr (k := 21) (N := 52) (T := TX12) (C0 := RX12) dX12_part_120 (by decide) sh_175 rfl rfl (by decide) (by decide) li_in12 w_1425 ?_
                refine li_iload_n 0 dX12_part_123 rfl ?_
                refine li_callS (n := 1) (As := [.int x14]) dX12_part_124 (k14_X12_letterOf (d - 1) (by omega) x14 M58 hJ ) (by omega) (Nat.le_of_ble_eq_true rfl) w_1641 w_1642 w_112 w_1643 (by decide +kernel) rfl rfl (Nat.le_of_ble_eq_true rfl) (fun r M62 h63 => ?_)
                obtain ⟨⟨x61, rfl, qx61⟩, h63, jM62⟩ := h63
                have gx61 := tl_rg x61
                have hf := li_fs_trans hf h63 (fun i k h => False.elim h)
                have kM62 : (li_hr M62).toInt = (li_hr M58).toInt := li_hr_fs h63 id id id id (fun _ _ _ => id) (by assumption)
                have hJ := jM62
                have rM62_12 := J_sl12 (M := M62) hJ
                have rM62_13 := J_sl13 (M := M62) hJ
                have rM62_14 := J_sl14 (M := M62) hJ
                have rM62_15 := J_sl15 (M := M62) hJ
                have mM62_12 : (M62.1 175 12).toInt = (M58.1 175 12).toInt := tl_slot (h63.1 175 12 id)
                have mM62_13 : (M62.1 175 13).toInt = (M58.1 175 13).toInt := tl_slot (h63.1 175 13 id)
                have mM62_14 : (M62.1 175 14).toInt = (M58.1 175 14).toInt := tl_slot (h63.1 175 14 id)
                have mM62_15 : (M62.1 175 15).toInt = (M58.1 175 15).toInt := tl_slot (h63.1 175 15 id)
                have bM62 : M62.2.2 0 = some 180 := (h63.2.2 0 (fun h9 => by first | exact (h9 : False).elim | (simp at h9; done) | omega)).trans bM58
                refine li_iald dX12_part_127 (by decide) sh_185 (tl_in ⟨by omega, by omega⟩) ?_
                refine li_top (fun x64 ex64 => ?_)
                have gx64 := tl_rg x64
                refine li_goto 132 dX12_part_128 (by decide) ?_
                exact li_iret dX12_part_132 rfl rfl ⟨⟨_, rfl, (by first | exact fin | exact absurd hw (by omega))⟩, hf, hJ⟩
            · have tc55 : x52.toInt = (-1) := tl_eq c55
              refine li_aload_n 1 dX12_part_92 rfl ?_
              refine li_aload_n 1 dX12_part_93 rfl ?_
              refine li_geti (k := 14) (N := 52) (T := TX12) (C0 := RX12) dX12_part_94 (by decide) sh_175 rfl rfl (by decide) li_in12 w_1418 ?_
              refine li_top (fun x65 ex65 => ?_)
              have gx65 : 0 ≤ x65.toInt ∧ x65.toInt ≤ 81 := by rw [ex65]; exact J_sl14 hJ
              have mx65 : x65.toInt = (M53.1 175 14).toInt := tl_slot ex65
              refine li_callV (n := 1) (As := [.int x65]) dX12_part_97 (k_X12_fault (d - 1) (by omega) x65 M53 hJ ⟨by omega, by omega⟩) (by omega) (Nat.le_of_ble_eq_true rfl) w_1585 w_1587 w_44 w_112 w_1588 (by decide +kernel) rfl (by decide) sh_175 rfl rfl (Nat.le_of_ble_eq_true rfl) (fun r M67 h68 => ?_)
              obtain ⟨rfl, h68, jM67, nM67⟩ := h68
              have hf := li_fs_trans hf h68 (fun i k => fun h => Or.inr h)
              have kM67 : (li_hr M67).toInt = (li_hr M53).toInt := li_hr_fs h68 (show ¬ ((175 = 175 ∧ 12 = 15)) by decide) (show ¬ ((175 = 175 ∧ 13 = 15)) by decide) (show ¬ ((175 = 175 ∧ 14 = 15)) by decide) (show ¬ ((1000 = 175 ∧ 0 = 15)) by decide) (fun q i h => (show ¬ ((q = 175 ∧ i = 15)) by first | (unfold li_rq at h; rcases h with rfl | rfl | rfl <;> simp; done) | (unfold li_rq at h; omega))) (by assumption)
              have hJ := jM67
              have rM67_12 := J_sl12 (M := M67) hJ
              have rM67_13 := J_sl13 (M := M67) hJ
              have rM67_14 := J_sl14 (M := M67) hJ
              have rM67_15 := J_sl15 (M := M67) hJ
              have mM67_12 : (M67.1 175 12).toInt = (M53.1 175 12).toInt := tl_slot (h68.1 175 12 (show ¬ ((175 = 175 ∧ 12 = 15)) by decide))
              have mM67_13 : (M67.1 175 13).toInt = (M53.1 175 13).toInt := tl_slot (h68.1 175 13 (show ¬ ((175 = 175 ∧ 13 = 15)) by decide))
              have mM67_14 : (M67.1 175 14).toInt = (M53.1 175 14).toInt := tl_slot (h68.1 175 14 (show ¬ ((175 = 175 ∧ 14 = 15)) by decide))
              have bM67 : M67.2.2 0 = some 180 := (h68.2.2 0 (fun h9 => by first | exact (h9 : False).elim | (simp at h9; done) | omega)).trans bM53
              have nl : ¬ rp_let (rd_ch hB e ((M0.1 175 14).toInt)) := by rcases lt85 with c | c; exact c.2; exact absurd c.1 (by omega)
              have wf := nM67.1 (Int.le_antisymm (by omega) (by omega))
              obtain ⟨rn, qn, nq0⟩ : ∃ r q, li_nq hB e 3 (-1) ((M0.1 175 14).toInt) r q := li_nq_self
              have nn := li_nq_no nq0 (fun h9 => by omega)
              have fin : ∃ ok q : Int, rpr hB e 5 (p1.toInt) ((M0.1 175 14).toInt) ok q ∧ (M67.1 175 14).toInt = q ∧ (M0.1 175 14).toInt ≤ q ∧ q ≤ e ∧ ((ok = 1 ∧ (M67.1 175 15).toInt = -1) ∨ (ok = 0 ∧ (M67.1 175 15).toInt = q)) := ⟨0, qn, rp_in5 (Or.inr ⟨n45, rp_in6 (Or.inr ⟨n40, Or.inr ⟨nl, rn, nq0, Or.inr ⟨by omega, rfl⟩⟩⟩)⟩), Int.le_antisymm (by omega) (by omega), by omega, by omega, Or.inr ⟨rfl, Int.le_antisymm (by omega) (by omega)⟩⟩
              refine li_iconst 0 dX12_part_100 (by decide) ?_
              have z0 : (0 : Int32).toInt = 0 := rfl
              exact li_iret dX12_part_101 rfl rfl ⟨⟨_, rfl, (by first | exact fin | exact absurd hw (by omega))⟩, hf, hJ⟩
        · have tc43 : p1.toInt < 4 := tl_nle c43
          refine li_aload_n 1 dX12_part_41 rfl ?_
          refine li_dup dX12_part_42 rfl ?_
          refine li_geti (k := 14) (N := 52) (T := TX12) (C0 := RX12) dX12_part_43 (by decide) sh_175 rfl rfl (by decide) li_in12 w_1418 ?_
          refine li_top (fun x69 ex69 => ?_)
          have gx69 : 0 ≤ x69.toInt ∧ x69.toInt ≤ 81 := by rw [ex69]; exact J_sl14 hJ
          have mx69 : x69.toInt = (M15.1 175 14).toInt := tl_slot ex69
          refine li_iconst 1 dX12_part_46 (by decide) ?_
          refine li_iadd dX12_part_47 ?_
          refine li_top (fun x70 ex70 => ?_)
          have z1 : (1 : Int32).toInt = 1 := rfl
          try (have tx70 : x70.toInt = (x69 : Int32).toInt + (1 : Int32).toInt := tl_add ex70 ⟨by omega, by omega⟩)
          refine li_puti (k := 14) (N := 52) (T := TX12) (C0 := RX12) dX12_part_48 (by decide) sh_175 rfl rfl (by decide) li_in12 tyX12_ok nmX12 rfl rfl rfl rfl w_1418 ?_
          refine li_nm (fun M71 eM71 => ?_)
          have hf := li_fs_ui hf (Or.inl ⟨rfl, rfl⟩) eM71
          have hJ := J_pt14 hJ (show 0 ≤ (x70 : Int32).toInt ∧ (x70 : Int32).toInt ≤ 81 from ⟨(by omega), (by omega)⟩) eM71
          have rM71_12 := J_sl12 (M := M71) hJ
          have rM71_13 := J_sl13 (M := M71) hJ
          have rM71_14 := J_sl14 (M := M71) hJ
          have rM71_15 := J_sl15 (M := M71) hJ
          have mM71_12 : (M71.1 175 12).toInt = (M15.1 175 12).toInt := by rw [eM71, li_ui_at, if_pos rfl, if_neg (by decide)]
          have mM71_13 : (M71.1 175 13).toInt = (M15.1 175 13).toInt := by rw [eM71, li_ui_at, if_pos rfl, if_neg (by decide)]
          have mM71_14 : (M71.1 175 14).toInt = x70.toInt := by rw [eM71, li_ui_at, if_pos rfl, if_pos rfl]
          have mM71_15 : (M71.1 175 15).toInt = (M15.1 175 15).toInt := by rw [eM71, li_ui_at, if_pos rfl, if_neg (by decide)]
          have bM71 : M71.2.2 0 = some 180 := by rw [eM71]; exact bM15
          refine li_aload_n 1 dX12_part_51 rfl ?_
          refine li_iload_n 2 dX12_part_52 rfl ?_
          refine li_iconst 1 dX12_part_53 (by decide) ?_
          refine li_iadd dX12_part_54 ?_
          refine li_top (fun x72 ex72 => ?_)
          have z1 : (1 : Int32).toInt = 1 := rfl
          try (have tx72 : x72.toInt = (p1 : Int32).toInt + (1 : Int32).toInt := tl_add ex72 ⟨by omega, by omega⟩)
          refine li_callV (n := 1) (As := [.int x72]) dX12_part_55 (IHh x72 M71 hJ bM71 ((congrArg li_by (funext fun i => hf.1 180 i ((fun i => (show ¬ ((180 = 175 ∧ i = 14) ∨ (180 = 175 ∧ i = 15)) by first | (simp; done) | omega)) i))).trans hhB) (by rw [show (M71.1 175 12).toInt = (M0.1 175 12).toInt from Int.le_antisymm (by omega) (by omega), show (M71.1 175 13).toInt = (M0.1 175 13).toInt from Int.le_antisymm (by omega) (by omega)]; exact he) (by omega) (by omega) (Int.le_antisymm (by omega) (by omega)) ⟨by omega, by omega⟩) (by omega) (Nat.le_of_ble_eq_true rfl) w_1625 w_1627 w_52 w_112 w_1628 (by decide +kernel) rfl (by decide) sh_175 rfl rfl (Nat.le_of_ble_eq_true rfl) (fun r M74 h75 => ?_)
          obtain ⟨⟨x73, rfl, qx73⟩, h75, jM74⟩ := h75
          have gx73 := tl_rg x73
          have hf := li_fs_trans hf h75 (fun i k => fun h => Or.elim h (fun h => Or.inl h) (fun h => Or.inr h))
          have hJ := jM74
          have rM74_12 := J_sl12 (M := M74) hJ
          have rM74_13 := J_sl13 (M := M74) hJ
          have rM74_14 := J_sl14 (M := M74) hJ
          have rM74_15 := J_sl15 (M := M74) hJ
          have mM74_12 : (M74.1 175 12).toInt = (M71.1 175 12).toInt := tl_slot (h75.1 175 12 (show ¬ ((175 = 175 ∧ 12 = 14) ∨ (175 = 175 ∧ 12 = 15)) by decide))
          have mM74_13 : (M74.1 175 13).toInt = (M71.1 175 13).toInt := tl_slot (h75.1 175 13 (show ¬ ((175 = 175 ∧ 13 = 14) ∨ (175 = 175 ∧ 13 = 15)) by decide))
          have bM74 : M74.2.2 0 = some 180 := (h75.2.2 0 (fun h9 => by first | exact (h9 : False).elim | (simp at h9; done) | omega)).trans bM71
          obtain ⟨ok2, q2, rb, eb1, eb2, eb3, eb4⟩ := qx73
          refine li_istore_n [(3, .int x73), (2, .int x14), (0, .ref (Z.2.2 175)), (1, .int p1)] dX12_part_58 (by decide) rfl ?_
          refine li_aload_n 2 dX12_part_59 rfl ?_
          refine li_bipush 41 dX12_part_60 (by decide) ?_
          have ch62 : (li_hr M74).toInt = rd_ch hB e (q2) := (hr_pt bM74 (by omega) rfl (by rw [show (M74.1 175 12).toInt = (M0.1 175 12).toInt from Int.le_antisymm (by omega) (by omega), show (M74.1 175 13).toInt = (M0.1 175 13).toInt from Int.le_antisymm (by omega) (by omega)]; exact he) (Int.le_antisymm (by omega) (by omega))).trans (congrArg (fun z => rd_ch z e (q2)) ((congrArg li_by (funext fun i => hf.1 180 i ((fun i => (show ¬ ((180 = 175 ∧ i = 14) ∨ (180 = 175 ∧ i = 15)) by first | (simp; done) | omega)) i))).trans hhB))
          have z41 : (41 : Int32).toInt = 41 := rfl
          refine li_callV (n := 1) (As := [.int 41]) dX12_part_62 (k_X12_need (d - 1) (by omega) 41 M74 hJ (by omega)) (by omega) (Nat.le_of_ble_eq_true rfl) w_1601 w_1603 w_48 w_112 w_1604 (by decide +kernel) rfl (by decide) sh_175 rfl rfl (Nat.le_of_ble_eq_true rfl) (fun r M77 h78 => ?_)
          obtain ⟨rfl, h78, jM77, nM77⟩ := h78
          have hf := li_fs_trans hf h78 (fun i k => fun h => Or.elim h (fun h => Or.inl h) (fun h => Or.inr h))
          have hJ := jM77
          have rM77_12 := J_sl12 (M := M77) hJ
          have rM77_13 := J_sl13 (M := M77) hJ
          have rM77_14 := J_sl14 (M := M77) hJ
          have rM77_15 := J_sl15 (M := M77) hJ
          have mM77_12 : (M77.1 175 12).toInt = (M74.1 175 12).toInt := tl_slot (h78.1 175 12 (show ¬ ((175 = 175 ∧ 12 = 14) ∨ (175 = 175 ∧ 12 = 15)) by decide))
          have mM77_13 : (M77.1 175 13).toInt = (M74.1 175 13).toInt := tl_slot (h78.1 175 13 (show ¬ ((175 = 175 ∧ 13 = 14) ∨ (175 = 175 ∧ 13 = 15)) by decide))
          have bM77 : M77.2.2 0 = some 180 := (h78.2.2 0 (fun h9 => by first | exact (h9 : False).elim | (simp at h9; done) | omega)).trans bM74
          have rb9 : ok2 = 1 → rpr hB e 0 (p1.toInt + 1) ((M0.1 175 14).toInt + 1) 1 q2 := fun h9 => rp_to rb (Int.le_antisymm (by omega) (by omega)) (Int.le_antisymm (by omega) (by omega)) h9.symm rfl
          have rb8 : ok2 = 0 → rpr hB e 0 (p1.toInt + 1) ((M0.1 175 14).toInt + 1) 0 q2 := fun h9 => rp_to rb (Int.le_antisymm (by omega) (by omega)) (Int.le_antisymm (by omega) (by omega)) h9.symm rfl
          have fin : ∃ ok q : Int, rpr hB e 5 (p1.toInt) ((M0.1 175 14).toInt) ok q ∧ (M77.1 175 14).toInt = q ∧ (M0.1 175 14).toInt ≤ q ∧ q ≤ e ∧ ((ok = 1 ∧ (M77.1 175 15).toInt = -1) ∨ (ok = 0 ∧ (M77.1 175 15).toInt = q)) := by
            have h40 : rd_ch hB e ((M0.1 175 14).toInt) = 40 ∧ p1.toInt < 4 := ⟨Int.le_antisymm (by omega) (by omega), by omega⟩
            rcases eb4 with c | c
            · by_cases e9 : rd_ch hB e q2 = 41
              · have u := nM77.1 (Int.le_antisymm (by omega) (by omega)) (by omega)
                have lt := rd_lt (g := hB) (len := e) (p := q2) (by omega)
                exact ⟨1, q2 + 1, rp_in5 (Or.inr ⟨n45, rp_in6 (Or.inl ⟨h40, Or.inr ⟨q2, rb9 c.1, Or.inl ⟨e9, rfl, rfl⟩⟩⟩)⟩), Int.le_antisymm (by omega) (by omega), by omega, by omega, Or.inl ⟨rfl, u.2.1⟩⟩
              · have u := nM77.2.1 (Int.le_antisymm (by omega) (by omega)) (fun h9 => e9 (Int.le_antisymm (by omega) (by omega)))
                exact ⟨0, q2, rp_in5 (Or.inr ⟨n45, rp_in6 (Or.inl ⟨h40, Or.inr ⟨q2, rb9 c.1, Or.inr ⟨e9, rfl, rfl⟩⟩⟩)⟩), Int.le_antisymm (by omega) (by omega), by omega, by omega, Or.inr ⟨rfl, Int.le_antisymm (by omega) (by omega)⟩⟩
            · have u := nM77.2.2 (by omega)
              exact ⟨0, q2, rp_in5 (Or.inr ⟨n45, rp_in6 (Or.inl ⟨h40, Or.inl ⟨rb8 c.1, rfl⟩⟩)⟩), Int.le_antisymm (by omega) (by omega), by omega, by omega, Or.inr ⟨rfl, Int.le_antisymm (by omega) (by omega)⟩⟩
          refine li_iload_n 0 dX12_part_65 rfl ?_
          exact li_iret dX12_part_66 rfl rfl ⟨⟨_, rfl, (by first | exact fin | exact absurd hw (by omega))⟩, hf, hJ⟩
    · skip
      refine li_if_ne 25 dX12_part_20 (by decide) (fun c => absurd rfl c) (fun c => ?_)
      refine li_iconst 0 dX12_part_23 (by decide) ?_
      have z0 : (0 : Int32).toInt = 0 := rfl
      exact li_iret dX12_part_24 rfl rfl ⟨⟨_, rfl, (by first | exact fin | exact absurd hw (by omega))⟩, hf, hJ⟩
set_option maxRecDepth 100000 in
set_option maxHeartbeats 4000000 in
theorem k14_X12_product {l : Launch} {Z : li_Z} (d : Nat) (hd : 2 ≤ d) (p1 : Int32) (dE : Nat) (hE : dE + 1 ≤ d) (M0 : li_M) (hJ : li_J M0) (bM0 : M0.2.2 0 = some 180) (hB : Nat → Int32) (hhB : li_by (M0.1 180) = hB) (e : Int) (he : min (M0.1 175 12).toInt (M0.1 175 13).toInt = e) (hat : (M0.1 175 14).toInt ≤ e) (hw : (M0.1 175 15).toInt = -1) (h4 : 0 ≤ p1.toInt ∧ p1.toInt ≤ 4) (PT : ∀ (q9 : Int32) (M : li_M), li_J M → M.2.2 0 = some 180 → li_by (M.1 180) = hB → min (M.1 175 12).toInt (M.1 175 13).toInt = e → (M0.1 175 14).toInt ≤ (M.1 175 14).toInt → (M.1 175 14).toInt ≤ e → (M.1 175 15).toInt = -1 → 0 ≤ q9.toInt ∧ q9.toInt ≤ 4 → li_Met l Z YX12_part dE [.ref (Z.2.2 175), .int q9] M (fun r M' => (∃ x : Int32, r = some (.int x) ∧ (∃ ok q : Int, rpr hB e 5 (q9.toInt) ((M.1 175 14).toInt) ok q ∧ (M'.1 175 14).toInt = q ∧ (M.1 175 14).toInt ≤ q ∧ q ≤ e ∧ ((ok = 1 ∧ (M'.1 175 15).toInt = -1) ∨ (ok = 0 ∧ (M'.1 175 15).toInt = q)))) ∧ li_fs (fun i k => (i = 175 ∧ k = 14) ∨ (i = 175 ∧ k = 15)) M M' ∧ li_J M')) : li_Met l Z YX12_product d [.ref (Z.2.2 175), .int p1] M0 (fun r M' => (∃ x : Int32, r = some (.int x) ∧ (∃ ok q : Int, rpr hB e 3 (p1.toInt) ((M0.1 175 14).toInt) ok q ∧ (M'.1 175 14).toInt = q ∧ (M0.1 175 14).toInt ≤ q ∧ q ≤ e ∧ ((ok = 1 ∧ (M'.1 175 15).toInt = -1) ∨ (ok = 0 ∧ (M'.1 175 15).toInt = q)))) ∧ li_fs (fun i k => (i = 175 ∧ k = 14) ∨ (i = 175 ∧ k = 15)) M0 M' ∧ li_J M') := by
  refine li_enter (by decide +kernel) (Nat.le_of_ble_eq_true rfl) ?_
  show li_T l Z YX12_product d 0 [(0, .ref (Z.2.2 175)), (1, .int p1)] [] M0 _
  have hf : li_fs (fun i k => (i = 175 ∧ k = 14) ∨ (i = 175 ∧ k = 15)) M0 M0 := li_fs_refl
  have gp1 := tl_rg p1
  have rM0_12 := J_sl12 (M := M0) hJ
  have rM0_13 := J_sl13 (M := M0) hJ
  have rM0_14 := J_sl14 (M := M0) hJ
  have rM0_15 := J_sl15 (M := M0) hJ
  refine li_aload_n 0 dX12_product_0 rfl ?_
  refine li_iload_n 1 dX12_product_1 rfl ?_
  refine li_callV (n := 1) (As := [.int p1]) dX12_product_2 (PT p1 M0 hJ bM0 ((congrArg li_by (funext fun i => hf.1 180 i ((fun i => (show ¬ ((180 = 175 ∧ i = 14) ∨ (180 = 175 ∧ i = 15)) by first | (simp; done) | omega)) i))).trans hhB) (by rw [show (M0.1 175 12).toInt = (M0.1 175 12).toInt from Int.le_antisymm (by omega) (by omega), show (M0.1 175 13).toInt = (M0.1 175 13).toInt from Int.le_antisymm (by omega) (by omega)]; exact he) (by omega) (by omega) (Int.le_antisymm (by omega) (by omega)) ⟨by omega, by omega⟩) (by omega) (Nat.le_of_ble_eq_true rfl) w_1637 w_1639 w_55 w_112 w_1640 (by decide +kernel) rfl (by decide) sh_175 rfl rfl (Nat.le_of_ble_eq_true rfl) (fun r M2 h3 => ?_)
  obtain ⟨⟨x1, rfl, qx1⟩, h3, jM2⟩ := h3
  have gx1 := tl_rg x1
  have hf := li_fs_trans hf h3 (fun i k => fun h => Or.elim h (fun h => Or.inl h) (fun h => Or.inr h))
  have hJ := jM2
  have rM2_12 := J_sl12 (M := M2) hJ
  have rM2_13 := J_sl13 (M := M2) hJ
  have rM2_14 := J_sl14 (M := M2) hJ
  have rM2_15 := J_sl15 (M := M2) hJ
  have mM2_12 : (M2.1 175 12).toInt = (M0.1 175 12).toInt := tl_slot (h3.1 175 12 (show ¬ ((175 = 175 ∧ 12 = 14) ∨ (175 = 175 ∧ 12 = 15)) by decide))
  have mM2_13 : (M2.1 175 13).toInt = (M0.1 175 13).toInt := tl_slot (h3.1 175 13 (show ¬ ((175 = 175 ∧ 13 = 14) ∨ (175 = 175 ∧ 13 = 15)) by decide))
  have bM2 : M2.2.2 0 = some 180 := (h3.2.2 0 (fun h9 => by first | exact (h9 : False).elim | (simp at h9; done) | omega)).trans bM0
  obtain ⟨okA, qA, ra, ea1, ea2, ea3, ea4⟩ := qx1
  refine li_istore_n [(2, .int x1), (0, .ref (Z.2.2 175)), (1, .int p1)] dX12_product_5 (by decide) rfl ?_
  have L6 : ∀ (n : Nat) (x4 : Int32) (M5 : li_M), (81 - (M5.1 175 14).toInt).toNat < n → li_fs (fun i k => (i = 175 ∧ k = 14) ∨ (i = 175 ∧ k = 15)) M0 M5 → li_J M5 → (M0.1 175 14).toInt ≤ (M5.1 175 14).toInt ∧ (M5.1 175 14).toInt ≤ e ∧ (M5.1 175 12).toInt = (M0.1 175 12).toInt ∧ (M5.1 175 13).toInt = (M0.1 175 13).toInt ∧ li_hd (((M5.1 175 15).toInt = -1 ∧ li_rk hB e 3 (p1.toInt) ((M0.1 175 14).toInt) 4 (p1.toInt) ((M5.1 175 14).toInt)) ∨ (¬ (M5.1 175 15).toInt = -1 ∧ (M5.1 175 15).toInt = (M5.1 175 14).toInt ∧ rpr hB e 3 (p1.toInt) ((M0.1 175 14).toInt) 0 ((M5.1 175 14).toInt))) → M5.2.2 0 = some 180 → li_T l Z YX12_product d 6 [(2, .int x4), (0, .ref (Z.2.2 175)), (1, .int p1)] [] M5 (fun r M' => (∃ x : Int32, r = some (.int x) ∧ (∃ ok q : Int, rpr hB e 3 (p1.toInt) ((M0.1 175 14).toInt) ok q ∧ (M'.1 175 14).toInt = q ∧ (M0.1 175 14).toInt ≤ q ∧ q ≤ e ∧ ((ok = 1 ∧ (M'.1 175 15).toInt = -1) ∨ (ok = 0 ∧ (M'.1 175 15).toInt = q)))) ∧ li_fs (fun i k => (i = 175 ∧ k = 14) ∨ (i = 175 ∧ k = 15)) M0 M' ∧ li_J M') := by
    try clear okA
    try clear qA
    try clear ra
    try clear ea1
    try clear ea2
    try clear ea3
    try clear ea4
    try clear bM2
    try clear mM2_13
    try clear mM2_12
    try clear rM2_15
    try clear rM2_14
    try clear rM2_13
    try clear rM2_12
    try clear gx1
    try clear qx1
    try clear h3
    try clear jM2
    try clear rM0_15
    try clear rM0_14
    try clear rM0_13
    try clear rM0_12
    intro n
    induction n with
    | zero => intro x4 M5 hn; exact absurd hn (Nat.not_lt_zero _)
    | succ n ih6 =>
      intro x4 M5 hn hf hJ hi bM5
      have gx4 := tl_rg x4
      have rM5_12 := J_sl12 (M := M5) hJ
      have rM5_13 := J_sl13 (M := M5) hJ
      have rM5_14 := J_sl14 (M := M5) hJ
      have rM5_15 := J_sl15 (M := M5) hJ
      have mM5_12 : (M5.1 175 12).toInt = (M0.1 175 12).toInt := tl_slot (hf.1 175 12 (show ¬ ((175 = 175 ∧ 12 = 14) ∨ (175 = 175 ∧ 12 = 15)) by decide))
      have mM5_13 : (M5.1 175 13).toInt = (M0.1 175 13).toInt := tl_slot (hf.1 175 13 (show ¬ ((175 = 175 ∧ 13 = 14) ∨ (175 = 175 ∧ 13 = 15)) by decide))
      obtain ⟨i0, i1, i2, i3, i4⟩ := hi
      refine li_aload_n 1 dX12_product_6 rfl ?_
      refine li_callV (n := 0) (As := []) dX12_product_7 (k_X12_fine (d - 1) (by omega)  M5 hJ ) (by omega) (Nat.le_of_ble_eq_true rfl) w_1581 w_1583 w_43 w_112 w_1584 (by decide +kernel) rfl (by decide) sh_175 rfl rfl (Nat.le_of_ble_eq_true rfl) (fun r M7 h8 => ?_)
      obtain ⟨qx6, h8, jM7⟩ := h8
      have hf := li_fs_trans hf h8 (fun i k h => False.elim h)
      have kM7 : (li_hr M7).toInt = (li_hr M5).toInt := li_hr_fs h8 id id id id (fun _ _ _ => id) (by assumption)
      have hJ := jM7
      have rM7_12 := J_sl12 (M := M7) hJ
      have rM7_13 := J_sl13 (M := M7) hJ
      have rM7_14 := J_sl14 (M := M7) hJ
      have rM7_15 := J_sl15 (M := M7) hJ
      have mM7_12 : (M7.1 175 12).toInt = (M5.1 175 12).toInt := tl_slot (h8.1 175 12 id)
      have mM7_13 : (M7.1 175 13).toInt = (M5.1 175 13).toInt := tl_slot (h8.1 175 13 id)
      have mM7_14 : (M7.1 175 14).toInt = (M5.1 175 14).toInt := tl_slot (h8.1 175 14 id)
      have mM7_15 : (M7.1 175 15).toInt = (M5.1 175 15).toInt := tl_slot (h8.1 175 15 id)
      have bM7 : M7.2.2 0 = some 180 := (h8.2.2 0 (fun h9 => by first | exact (h9 : False).elim | (simp at h9; done) | omega)).trans bM5
      rcases qx6 with ⟨rfl, qx6⟩ | ⟨rfl, qx6⟩
      · skip
        refine li_if_eq 91 dX12_product_10 (by decide) (fun c => absurd c (by decide)) (fun c => ?_)
        obtain ⟨A1, hA1⟩ : ∃ z : Int, z = (M7.1 175 14).toInt := ⟨_, rfl⟩
        have rkq : li_rk hB e 3 (p1.toInt) ((M0.1 175 14).toInt) 4 (p1.toInt) A1 := rk_to (Or.resolve_right i4 (fun h9 => h9.1 (Int.le_antisymm (by omega) (by omega)))).2 (Int.le_antisymm (by omega) (by omega))
        clear i4
        refine li_aload_n 1 dX12_product_13 rfl ?_
        have ch14 : (li_hr M7).toInt = rd_ch hB e (A1) := (hr_pt bM7 (by omega) rfl (by rw [show (M7.1 175 12).toInt = (M0.1 175 12).toInt from Int.le_antisymm (by omega) (by omega), show (M7.1 175 13).toInt = (M0.1 175 13).toInt from Int.le_antisymm (by omega) (by omega)]; exact he) (Int.le_antisymm (by omega) (by omega))).trans (congrArg (fun z => rd_ch z e (A1)) ((congrArg li_by (funext fun i => hf.1 180 i ((fun i => (show ¬ ((180 = 175 ∧ i = 14) ∨ (180 = 175 ∧ i = 15)) by first | (simp; done) | omega)) i))).trans hhB))
        refine li_callV (n := 0) (As := []) dX12_product_14 (k_X12_here (d - 1) (by omega)  M7 hJ ) (by omega) (Nat.le_of_ble_eq_true rfl) w_1597 w_1599 w_47 w_112 w_1600 (by decide +kernel) rfl (by decide) sh_175 rfl rfl (Nat.le_of_ble_eq_true rfl) (fun r M11 h12 => ?_)
        obtain ⟨⟨x10, rfl, qx10⟩, h12, jM11⟩ := h12
        have gx10 := tl_rg x10
        have hf := li_fs_trans hf h12 (fun i k h => False.elim h)
        have kM11 : (li_hr M11).toInt = (li_hr M7).toInt := li_hr_fs h12 id id id id (fun _ _ _ => id) (by assumption)
        have hJ := jM11
        have rM11_12 := J_sl12 (M := M11) hJ
        have rM11_13 := J_sl13 (M := M11) hJ
        have rM11_14 := J_sl14 (M := M11) hJ
        have rM11_15 := J_sl15 (M := M11) hJ
        have mM11_12 : (M11.1 175 12).toInt = (M7.1 175 12).toInt := tl_slot (h12.1 175 12 id)
        have mM11_13 : (M11.1 175 13).toInt = (M7.1 175 13).toInt := tl_slot (h12.1 175 13 id)
        have mM11_14 : (M11.1 175 14).toInt = (M7.1 175 14).toInt := tl_slot (h12.1 175 14 id)
        have mM11_15 : (M11.1 175 15).toInt = (M7.1 175 15).toInt := tl_slot (h12.1 175 15 id)
        have bM11 : M11.2.2 0 = some 180 := (h12.2.2 0 (fun h9 => by first | exact (h9 : False).elim | (simp at h9; done) | omega)).trans bM7
        have h14x : x10.toInt = rd_ch hB e A1 := Int.le_antisymm (by omega) (by omega)
        refine li_bipush 42 dX12_product_17 (by decide) ?_
        refine li_icmp_eq 31 dX12_product_19 (by decide) (fun c13 => ?_) (fun c13 => ?_)
        · have tc13 : x10.toInt = 42 := tl_eq c13
          have cCq : rp_mul (rd_ch hB e A1) := by unfold rp_mul; omega
          refine li_aload_n 1 dX12_product_31 rfl ?_
          refine li_callV (n := 0) (As := []) dX12_product_32 (k_X12_here (d - 1) (by omega)  M11 hJ ) (by omega) (Nat.le_of_ble_eq_true rfl) w_1597 w_1599 w_47 w_112 w_1600 (by decide +kernel) rfl (by decide) sh_175 rfl rfl (Nat.le_of_ble_eq_true rfl) (fun r M15 h16 => ?_)
          obtain ⟨⟨x14, rfl, qx14⟩, h16, jM15⟩ := h16
          have gx14 := tl_rg x14
          have hf := li_fs_trans hf h16 (fun i k h => False.elim h)
          have kM15 : (li_hr M15).toInt = (li_hr M11).toInt := li_hr_fs h16 id id id id (fun _ _ _ => id) (by assumption)
          have hJ := jM15
          have rM15_12 := J_sl12 (M := M15) hJ
          have rM15_13 := J_sl13 (M := M15) hJ
          have rM15_14 := J_sl14 (M := M15) hJ
          have rM15_15 := J_sl15 (M := M15) hJ
          have mM15_12 : (M15.1 175 12).toInt = (M11.1 175 12).toInt := tl_slot (h16.1 175 12 id)
          have mM15_13 : (M15.1 175 13).toInt = (M11.1 175 13).toInt := tl_slot (h16.1 175 13 id)
          have mM15_14 : (M15.1 175 14).toInt = (M11.1 175 14).toInt := tl_slot (h16.1 175 14 id)
          have mM15_15 : (M15.1 175 15).toInt = (M11.1 175 15).toInt := tl_slot (h16.1 175 15 id)
          have bM15 : M15.2.2 0 = some 180 := (h16.2.2 0 (fun h9 => by first | exact (h9 : False).elim | (simp at h9; done) | omega)).trans bM11
          refine li_bipush 42 dX12_product_35 (by decide) ?_
          have J45 : ∀ (x18 : Int32) (M19 : li_M), li_fs (fun i k => (i = 175 ∧ k = 14) ∨ (i = 175 ∧ k = 15)) M0 M19 → li_J M19 → (M0.1 175 14).toInt ≤ (M19.1 175 14).toInt ∧ (M5.1 175 14).toInt = (M19.1 175 14).toInt ∧ (M19.1 175 12).toInt = (M0.1 175 12).toInt ∧ (M19.1 175 13).toInt = (M0.1 175 13).toInt ∧ (M19.1 175 15).toInt = -1 ∧ (M19.1 175 14).toInt ≤ e ∧ li_rk hB e 3 (p1.toInt) ((M0.1 175 14).toInt) 4 (p1.toInt) ((M19.1 175 14).toInt) ∧ rp_mul (rd_ch hB e ((M19.1 175 14).toInt)) → M19.2.2 0 = some 180 → li_T l Z YX12_product d 45 [(2, .int x4), (0, .ref (Z.2.2 175)), (1, .int p1)] [.int x18] M19 (fun r M' => (∃ x : Int32, r = some (.int x) ∧ (∃ ok q : Int, rpr hB e 3 (p1.toInt) ((M0.1 175 14).toInt) ok q ∧ (M'.1 175 14).toInt = q ∧ (M0.1 175 14).toInt ≤ q ∧ q ≤ e ∧ ((ok = 1 ∧ (M'.1 175 15).toInt = -1) ∨ (ok = 0 ∧ (M'.1 175 15).toInt = q)))) ∧ li_fs (fun i k => (i = 175 ∧ k = 14) ∨ (i = 175 ∧ k = 15)) M0 M' ∧ li_J M') := by
            try clear bM15
            try clear mM15_15
            try clear mM15_14
            try clear mM15_13
            try clear mM15_12
            try clear rM15_15
            try clear rM15_14
            try clear rM15_13
            try clear rM15_12
            try clear kM15
            try clear gx14
            try clear qx14
            try clear h16
            try clear jM15
            try clear cCq
            try clear tc13
            try clear h14x
            try clear bM11
            try clear mM11_15
            try clear mM11_14
            try clear mM11_13
            try clear mM11_12
            try clear rM11_15
            try clear rM11_14
            try clear rM11_13
            try clear rM11_12
            try clear kM11
            try clear gx10
            try clear qx10
            try clear h12
            try clear jM11
            try clear ch14
            try clear rkq
            try clear hA1
            try clear c
            try clear bM7
            try clear mM7_15
            try clear mM7_14
            try clear mM7_13
            try clear mM7_12
            try clear rM7_15
            try clear rM7_14
            try clear rM7_13
            try clear rM7_12
            try clear kM7
            try clear qx6
            try clear h8
            try clear jM7
            try clear i0
            try clear i1
            try clear i2
            try clear i3
            try clear i4
            try clear mM5_13
            try clear mM5_12
            try clear rM5_15
            try clear rM5_14
            try clear rM5_13
            try clear rM5_12
            try clear okA
            try clear qA
            try clear ra
            try clear ea1
            try clear ea2
            try clear ea3
            try clear ea4
            try clear bM2
            try clear mM2_13
            try clear mM2_12
            try clear rM2_15
            try clear rM2_14
            try clear rM2_13
            try clear rM2_12
            try clear gx1
            try clear qx1
            try clear h3
            try clear jM2
            try clear rM0_15
            try clear rM0_14
            try clear rM0_13
            try clear rM0_12
            try clear hi
            intro x18 M19 hf hJ hi bM19
            have gx18 := tl_rg x18
            have rM19_12 := J_sl12 (M := M19) hJ
            have rM19_13 := J_sl13 (M := M19) hJ
            have rM19_14 := J_sl14 (M := M19) hJ
            have rM19_15 := J_sl15 (M := M19) hJ
            have mM19_12 : (M19.1 175 12).toInt = (M0.1 175 12).toInt := tl_slot (hf.1 175 12 (show ¬ ((175 = 175 ∧ 12 = 14) ∨ (175 = 175 ∧ 12 = 15)) by decide))
            have mM19_13 : (M19.1 175 13).toInt = (M0.1 175 13).toInt := tl_slot (hf.1 175 13 (show ¬ ((175 = 175 ∧ 13 = 14) ∨ (175 = 175 ∧ 13 = 15)) by decide))
            obtain ⟨k0, k1, k2, k3, k4, k6, k9, kC⟩ := hi
            have lt45 := rd_lt (rp_mul_nn kC)
            refine li_istore_n [(3, .int x18), (2, .int x4), (0, .ref (Z.2.2 175)), (1, .int p1)] dX12_product_45 (by decide) rfl ?_
            refine li_aload_n 2 dX12_product_46 rfl ?_
            refine li_dup dX12_product_47 rfl ?_
            refine li_geti (k := 14) (N := 52) (T := TX12) (C0 := RX12) dX12_product_48 (by decide) sh_175 rfl rfl (by decide) li_in12 w_1418 ?_
            refine li_top (fun x20 ex20 => ?_)
            have gx20 : 0 ≤ x20.toInt ∧ x20.toInt ≤ 81 := by rw [ex20]; exact J_sl14 hJ
            have mx20 : x20.toInt = (M19.1 175 14).toInt := tl_slot ex20
            refine li_iconst 1 dX12_product_51 (by decide) ?_
            refine li_iadd dX12_product_52 ?_
            refine li_top (fun x21 ex21 => ?_)
            have z1 : (1 : Int32).toInt = 1 := rfl
            try (have tx21 : x21.toInt = (x20 : Int32).toInt + (1 : Int32).toInt := tl_add ex21 ⟨by omega, by omega⟩)
            refine li_puti (k := 14) (N := 52) (T := TX12) (C0 := RX12) dX12_product_53 (by decide) sh_175 rfl rfl (by decide) li_in12 tyX12_ok nmX12 rfl rfl rfl rfl w_1418 ?_
            refine li_nm (fun M22 eM22 => ?_)
            have hf := li_fs_ui hf (Or.inl ⟨rfl, rfl⟩) eM22
            have hJ := J_pt14 hJ (show 0 ≤ (x21 : Int32).toInt ∧ (x21 : Int32).toInt ≤ 81 from ⟨(by omega), (by omega)⟩) eM22
            have rM22_12 := J_sl12 (M := M22) hJ
            have rM22_13 := J_sl13 (M := M22) hJ
            have rM22_14 := J_sl14 (M := M22) hJ
            have rM22_15 := J_sl15 (M := M22) hJ
            have mM22_12 : (M22.1 175 12).toInt = (M19.1 175 12).toInt := by rw [eM22, li_ui_at, if_pos rfl, if_neg (by decide)]
            have mM22_13 : (M22.1 175 13).toInt = (M19.1 175 13).toInt := by rw [eM22, li_ui_at, if_pos rfl, if_neg (by decide)]
            have mM22_14 : (M22.1 175 14).toInt = x21.toInt := by rw [eM22, li_ui_at, if_pos rfl, if_pos rfl]
            have mM22_15 : (M22.1 175 15).toInt = (M19.1 175 15).toInt := by rw [eM22, li_ui_at, if_pos rfl, if_neg (by decide)]
            have bM22 : M22.2.2 0 = some 180 := by rw [eM22]; exact bM19
            refine li_aload_n 2 dX12_product_56 rfl ?_
            refine li_iload_n 3 dX12_product_57 rfl ?_
            refine li_callV (n := 1) (As := [.int p1]) dX12_product_58 (PT p1 M22 hJ bM22 ((congrArg li_by (funext fun i => hf.1 180 i ((fun i => (show ¬ ((180 = 175 ∧ i = 14) ∨ (180 = 175 ∧ i = 15)) by first | (simp; done) | omega)) i))).trans hhB) (by rw [show (M22.1 175 12).toInt = (M0.1 175 12).toInt from Int.le_antisymm (by omega) (by omega), show (M22.1 175 13).toInt = (M0.1 175 13).toInt from Int.le_antisymm (by omega) (by omega)]; exact he) (by omega) (by omega) (Int.le_antisymm (by omega) (by omega)) ⟨by omega, by omega⟩) (by omega) (Nat.le_of_ble_eq_true rfl) w_1637 w_1639 w_55 w_112 w_1640 (by decide +kernel) rfl (by decide) sh_175 rfl rfl (Nat.le_of_ble_eq_true rfl) (fun r M24 h25 => ?_)
            obtain ⟨⟨x23, rfl, qx23⟩, h25, jM24⟩ := h25
            have gx23 := tl_rg x23
            have hf := li_fs_trans hf h25 (fun i k => fun h => Or.elim h (fun h => Or.inl h) (fun h => Or.inr h))
            have hJ := jM24
            have rM24_12 := J_sl12 (M := M24) hJ
            have rM24_13 := J_sl13 (M := M24) hJ
            have rM24_14 := J_sl14 (M := M24) hJ
            have rM24_15 := J_sl15 (M := M24) hJ
            have mM24_12 : (M24.1 175 12).toInt = (M22.1 175 12).toInt := tl_slot (h25.1 175 12 (show ¬ ((175 = 175 ∧ 12 = 14) ∨ (175 = 175 ∧ 12 = 15)) by decide))
            have mM24_13 : (M24.1 175 13).toInt = (M22.1 175 13).toInt := tl_slot (h25.1 175 13 (show ¬ ((175 = 175 ∧ 13 = 14) ∨ (175 = 175 ∧ 13 = 15)) by decide))
            have bM24 : M24.2.2 0 = some 180 := (h25.2.2 0 (fun h9 => by first | exact (h9 : False).elim | (simp at h9; done) | omega)).trans bM22
            obtain ⟨okB, qB, rb, eb1, eb2, eb3, eb4⟩ := qx23
            refine li_istore [(4, .int x23), (3, .int x18), (2, .int x4), (0, .ref (Z.2.2 175)), (1, .int p1)] dX12_product_61 (by decide) rfl ?_
            refine li_iload_n 1 dX12_product_63 rfl ?_
            have J87 : ∀ (x27 : Int32) (M28 : li_M), li_fs (fun i k => (i = 175 ∧ k = 14) ∨ (i = 175 ∧ k = 15)) M0 M28 → li_J M28 → (M0.1 175 14).toInt ≤ (M28.1 175 14).toInt ∧ (M28.1 175 14).toInt ≤ e ∧ (M28.1 175 12).toInt = (M0.1 175 12).toInt ∧ (M28.1 175 13).toInt = (M0.1 175 13).toInt ∧ (M5.1 175 14).toInt + 1 ≤ (M28.1 175 14).toInt ∧ li_hd (((M28.1 175 15).toInt = -1 ∧ li_rk hB e 3 (p1.toInt) ((M0.1 175 14).toInt) 4 (p1.toInt) ((M28.1 175 14).toInt)) ∨ (¬ (M28.1 175 15).toInt = -1 ∧ (M28.1 175 15).toInt = (M28.1 175 14).toInt ∧ rpr hB e 3 (p1.toInt) ((M0.1 175 14).toInt) 0 ((M28.1 175 14).toInt))) → M28.2.2 0 = some 180 → li_T l Z YX12_product d 87 [(4, .int x23), (3, .int x18), (2, .int x4), (0, .ref (Z.2.2 175)), (1, .int p1)] [.int x27] M28 (fun r M' => (∃ x : Int32, r = some (.int x) ∧ (∃ ok q : Int, rpr hB e 3 (p1.toInt) ((M0.1 175 14).toInt) ok q ∧ (M'.1 175 14).toInt = q ∧ (M0.1 175 14).toInt ≤ q ∧ q ≤ e ∧ ((ok = 1 ∧ (M'.1 175 15).toInt = -1) ∨ (ok = 0 ∧ (M'.1 175 15).toInt = q)))) ∧ li_fs (fun i k => (i = 175 ∧ k = 14) ∨ (i = 175 ∧ k = 15)) M0 M' ∧ li_J M') := by
              try clear okB
              try clear qB
              try clear rb
              try clear eb1
              try clear eb2
              try clear eb3
              try clear eb4
              try clear bM24
              try clear mM24_13
              try clear mM24_12
              try clear rM24_15
              try clear rM24_14
              try clear rM24_13
              try clear rM24_12
              try clear qx23
              try clear h25
              try clear jM24
              try clear bM22
              try clear mM22_15
              try clear mM22_14
              try clear mM22_13
              try clear mM22_12
              try clear rM22_15
              try clear rM22_14
              try clear rM22_13
              try clear rM22_12
              try clear eM22
              try clear tx21
              try clear ex21
              try clear mx20
              try clear gx20
              try clear ex20
              try clear lt45
              try clear k0
              try clear k1
              try clear k2
              try clear k3
              try clear k4
              try clear k6
              try clear k9
              try clear kC
              try clear mM19_13
              try clear mM19_12
              try clear rM19_15
              try clear rM19_14
              try clear rM19_13
              try clear rM19_12
              try clear bM15
              try clear mM15_15
              try clear mM15_14
              try clear mM15_13
              try clear mM15_12
              try clear rM15_15
              try clear rM15_14
              try clear rM15_13
              try clear rM15_12
              try clear kM15
              try clear gx14
              try clear qx14
              try clear h16
              try clear jM15
              try clear cCq
              try clear tc13
              try clear h14x
              try clear bM11
              try clear mM11_15
              try clear mM11_14
              try clear mM11_13
              try clear mM11_12
              try clear rM11_15
              try clear rM11_14
              try clear rM11_13
              try clear rM11_12
              try clear kM11
              try clear gx10
              try clear qx10
              try clear h12
              try clear jM11
              try clear ch14
              try clear rkq
              try clear hA1
              try clear c
              try clear bM7
              try clear mM7_15
              try clear mM7_14
              try clear mM7_13
              try clear mM7_12
              try clear rM7_15
              try clear rM7_14
              try clear rM7_13
              try clear rM7_12
              try clear kM7
              try clear qx6
              try clear h8
              try clear jM7
              try clear i0
              try clear i1
              try clear i2
              try clear i3
              try clear i4
              try clear mM5_13
              try clear mM5_12
              try clear rM5_15
              try clear rM5_14
              try clear rM5_13
              try clear rM5_12
              try clear okA
              try clear qA
              try clear ra
              try clear ea1
              try clear ea2
              try clear ea3
              try clear ea4
              try clear bM2
              try clear mM2_13
              try clear mM2_12
              try clear rM2_15
              try clear rM2_14
              try clear rM2_13
              try clear rM2_12
              try clear gx1
              try clear qx1
              try clear h3
              try clear jM2
              try clear rM0_15
              try clear rM0_14
              try clear rM0_13
              try clear rM0_12
              try clear hi
              try clear hi
              intro x27 M28 hf hJ hi bM28
              have gx27 := tl_rg x27
              have rM28_12 := J_sl12 (M := M28) hJ
              have rM28_13 := J_sl13 (M := M28) hJ
              have rM28_14 := J_sl14 (M := M28) hJ
              have rM28_15 := J_sl15 (M := M28) hJ
              have mM28_12 : (M28.1 175 12).toInt = (M0.1 175 12).toInt := tl_slot (hf.1 175 12 (show ¬ ((175 = 175 ∧ 12 = 14) ∨ (175 = 175 ∧ 12 = 15)) by decide))
              have mM28_13 : (M28.1 175 13).toInt = (M0.1 175 13).toInt := tl_slot (hf.1 175 13 (show ¬ ((175 = 175 ∧ 13 = 14) ∨ (175 = 175 ∧ 13 = 15)) by decide))
              obtain ⟨k0, k1, k2, k3, k4, k5⟩ := hi
              refine li_istore_n [(2, .int x27), (4, .int x23), (3, .int x18), (0, .ref (Z.2.2 175)), (1, .int p1)] dX12_product_87 (by decide) rfl ?_
              refine li_goto 6 dX12_product_88 (by decide) ?_
              refine li_pick [0, 3, 4] [(2, .int x27), (0, .ref (Z.2.2 175)), (1, .int p1)] rfl ?_
              exact ih6 x27 M28 (by omega) hf hJ ⟨(by omega), (by omega), (Int.le_antisymm (by omega) (by omega)), (Int.le_antisymm (by omega) (by omega)), (by first | (exact Or.elim k5 (fun c => Or.inl ⟨c.1, c.2⟩) (fun c => Or.inr c)) | (rcases ea4 with c | c; exact Or.inl ⟨c.2, rk_to (rk_4 (rp_to ra rfl rfl c.1.symm rfl)) (Int.le_antisymm (by omega) (by omega))⟩; exact Or.inr ⟨by omega, Int.le_antisymm (by omega) (by omega), rk_3f (rp_to ra rfl rfl c.1.symm (Int.le_antisymm (by omega) (by omega)))⟩))⟩ bM28
            refine li_if_eq 74 dX12_product_64 (by decide) (fun c26 => ?_) (fun c26 => ?_)
            · have tc26 : x18.toInt = 0 := tl_eq c26
              refine li_iload 0 dX12_product_74 rfl ?_
              refine li_if_ne 83 dX12_product_76 (by decide) (fun c29 => ?_) (fun c29 => ?_)
              · have tc29 : ¬ x23.toInt = 0 := tl_ne c29
                refine li_iload_n 2 dX12_product_83 rfl ?_
                refine li_iload 0 dX12_product_84 rfl ?_
                refine li_idiv dX12_product_86 (by assumption) ?_
                refine li_top (fun x30 ex30 => ?_)
                refine li_pick [0, 1, 2, 3, 4] [(4, .int x23), (3, .int x18), (2, .int x4), (0, .ref (Z.2.2 175)), (1, .int p1)] rfl ?_
                exact J87 x30 M24 hf hJ ⟨(by omega), (by omega), (Int.le_antisymm (by omega) (by omega)), (Int.le_antisymm (by omega) (by omega)), (by omega), (by first | (rcases eb4 with c | c; exact Or.inl ⟨c.2, rk_to (rk_4s k9 kC (rp_to rb rfl (Int.le_antisymm (by omega) (by omega)) c.1.symm rfl)) (Int.le_antisymm (by omega) (by omega))⟩; exact Or.inr ⟨by omega, Int.le_antisymm (by omega) (by omega), rp_to (rk_4f k9 kC (rp_to rb rfl (Int.le_antisymm (by omega) (by omega)) c.1.symm rfl)) rfl rfl rfl (Int.le_antisymm (by omega) (by omega))⟩))⟩ bM24
              · have tc29 : x23.toInt = 0 := tl_eq c29
                refine li_iconst 0 dX12_product_79 (by decide) ?_
                refine li_goto 87 dX12_product_80 (by decide) ?_
                refine li_pick [0, 1, 2, 3, 4] [(4, .int x23), (3, .int x18), (2, .int x4), (0, .ref (Z.2.2 175)), (1, .int p1)] rfl ?_
                have z0 : (0 : Int32).toInt = 0 := rfl
                exact J87 0 M24 hf hJ ⟨(by omega), (by omega), (Int.le_antisymm (by omega) (by omega)), (Int.le_antisymm (by omega) (by omega)), (by omega), (by first | (rcases eb4 with c | c; exact Or.inl ⟨c.2, rk_to (rk_4s k9 kC (rp_to rb rfl (Int.le_antisymm (by omega) (by omega)) c.1.symm rfl)) (Int.le_antisymm (by omega) (by omega))⟩; exact Or.inr ⟨by omega, Int.le_antisymm (by omega) (by omega), rp_to (rk_4f k9 kC (rp_to rb rfl (Int.le_antisymm (by omega) (by omega)) c.1.symm rfl)) rfl rfl rfl (Int.le_antisymm (by omega) (by omega))⟩))⟩ bM24
            · have tc26 : ¬ x18.toInt = 0 := tl_ne c26
              refine li_iload_n 2 dX12_product_67 rfl ?_
              refine li_iload 0 dX12_product_68 rfl ?_
              refine li_imul dX12_product_70 ?_
              refine li_top (fun x31 ex31 => ?_)
              refine li_goto 87 dX12_product_71 (by decide) ?_
              refine li_pick [0, 1, 2, 3, 4] [(4, .int x23), (3, .int x18), (2, .int x4), (0, .ref (Z.2.2 175)), (1, .int p1)] rfl ?_
              exact J87 x31 M24 hf hJ ⟨(by omega), (by omega), (Int.le_antisymm (by omega) (by omega)), (Int.le_antisymm (by omega) (by omega)), (by omega), (by first | (rcases eb4 with c | c; exact Or.inl ⟨c.2, rk_to (rk_4s k9 kC (rp_to rb rfl (Int.le_antisymm (by omega) (by omega)) c.1.symm rfl)) (Int.le_antisymm (by omega) (by omega))⟩; exact Or.inr ⟨by omega, Int.le_antisymm (by omega) (by omega), rp_to (rk_4f k9 kC (rp_to rb rfl (Int.le_antisymm (by omega) (by omega)) c.1.symm rfl)) rfl rfl rfl (Int.le_antisymm (by omega) (by omega))⟩))⟩ bM24
          refine li_icmp_ne 44 dX12_product_37 (by decide) (fun c17 => ?_) (fun c17 => ?_)
          · have tc17 : ¬ x14.toInt = 42 := tl_ne c17
            refine li_iconst 0 dX12_product_44 (by decide) ?_
            refine li_pick [0, 1, 2] [(2, .int x4), (0, .ref (Z.2.2 175)), (1, .int p1)] rfl ?_
            have z0 : (0 : Int32).toInt = 0 := rfl
            exact J45 0 M15 hf hJ ⟨(by omega), (Int.le_antisymm (by omega) (by omega)), (Int.le_antisymm (by omega) (by omega)), (Int.le_antisymm (by omega) (by omega)), (Int.le_antisymm (by omega) (by omega)), (by omega), (rk_to rkq (Int.le_antisymm (by omega) (by omega))), (by exact rp_mv4 cCq (Int.le_antisymm (by omega) (by omega)))⟩ bM15
          · have tc17 : x14.toInt = 42 := tl_eq c17
            refine li_iconst 1 dX12_product_40 (by decide) ?_
            refine li_goto 45 dX12_product_41 (by decide) ?_
            refine li_pick [0, 1, 2] [(2, .int x4), (0, .ref (Z.2.2 175)), (1, .int p1)] rfl ?_
            have z1 : (1 : Int32).toInt = 1 := rfl
            exact J45 1 M15 hf hJ ⟨(by omega), (Int.le_antisymm (by omega) (by omega)), (Int.le_antisymm (by omega) (by omega)), (Int.le_antisymm (by omega) (by omega)), (Int.le_antisymm (by omega) (by omega)), (by omega), (rk_to rkq (Int.le_antisymm (by omega) (by omega))), (by exact rp_mv4 cCq (Int.le_antisymm (by omega) (by omega)))⟩ bM15
        · have tc13 : ¬ x10.toInt = 42 := tl_ne c13
          refine li_aload_n 1 dX12_product_22 rfl ?_
          have ch23 : (li_hr M11).toInt = rd_ch hB e (A1) := (hr_pt bM11 (by omega) rfl (by rw [show (M11.1 175 12).toInt = (M0.1 175 12).toInt from Int.le_antisymm (by omega) (by omega), show (M11.1 175 13).toInt = (M0.1 175 13).toInt from Int.le_antisymm (by omega) (by omega)]; exact he) (Int.le_antisymm (by omega) (by omega))).trans (congrArg (fun z => rd_ch z e (A1)) ((congrArg li_by (funext fun i => hf.1 180 i ((fun i => (show ¬ ((180 = 175 ∧ i = 14) ∨ (180 = 175 ∧ i = 15)) by first | (simp; done) | omega)) i))).trans hhB))
          refine li_callV (n := 0) (As := []) dX12_product_23 (k_X12_here (d - 1) (by omega)  M11 hJ ) (by omega) (Nat.le_of_ble_eq_true rfl) w_1597 w_1599 w_47 w_112 w_1600 (by decide +kernel) rfl (by decide) sh_175 rfl rfl (Nat.le_of_ble_eq_true rfl) (fun r M33 h34 => ?_)
          obtain ⟨⟨x32, rfl, qx32⟩, h34, jM33⟩ := h34
          have gx32 := tl_rg x32
          have hf := li_fs_trans hf h34 (fun i k h => False.elim h)
          have kM33 : (li_hr M33).toInt = (li_hr M11).toInt := li_hr_fs h34 id id id id (fun _ _ _ => id) (by assumption)
          have hJ := jM33
          have rM33_12 := J_sl12 (M := M33) hJ
          have rM33_13 := J_sl13 (M := M33) hJ
          have rM33_14 := J_sl14 (M := M33) hJ
          have rM33_15 := J_sl15 (M := M33) hJ
          have mM33_12 : (M33.1 175 12).toInt = (M11.1 175 12).toInt := tl_slot (h34.1 175 12 id)
          have mM33_13 : (M33.1 175 13).toInt = (M11.1 175 13).toInt := tl_slot (h34.1 175 13 id)
          have mM33_14 : (M33.1 175 14).toInt = (M11.1 175 14).toInt := tl_slot (h34.1 175 14 id)
          have mM33_15 : (M33.1 175 15).toInt = (M11.1 175 15).toInt := tl_slot (h34.1 175 15 id)
          have bM33 : M33.2.2 0 = some 180 := (h34.2.2 0 (fun h9 => by first | exact (h9 : False).elim | (simp at h9; done) | omega)).trans bM11
          have h23x : x32.toInt = rd_ch hB e A1 := Int.le_antisymm (by omega) (by omega)
          refine li_bipush 47 dX12_product_26 (by decide) ?_
          refine li_icmp_ne 91 dX12_product_28 (by decide) (fun c35 => ?_) (fun c35 => ?_)
          · have tc35 : ¬ x32.toInt = 47 := tl_ne c35
            have fin : ∃ ok q : Int, rpr hB e 3 (p1.toInt) ((M0.1 175 14).toInt) ok q ∧ (M33.1 175 14).toInt = q ∧ (M0.1 175 14).toInt ≤ q ∧ q ≤ e ∧ ((ok = 1 ∧ (M33.1 175 15).toInt = -1) ∨ (ok = 0 ∧ (M33.1 175 15).toInt = q)) := by
              first | (have nCq : ¬ rp_mul (rd_ch hB e A1) := by unfold rp_mul; omega) | skip
              first | exact ⟨1, A1, rk_4e rkq nCq, Int.le_antisymm (by omega) (by omega), by omega, by omega, Or.inl ⟨rfl, Int.le_antisymm (by omega) (by omega)⟩⟩ | (rcases i4 with c | c; exact absurd c.1 (by omega); exact ⟨0, _, rp_to c.2.2 rfl (Int.le_antisymm (by omega) (by omega)) rfl rfl, rfl, by omega, by omega, Or.inr ⟨rfl, Int.le_antisymm (by omega) (by omega)⟩⟩)
            refine li_iload_n 0 dX12_product_91 rfl ?_
            exact li_iret dX12_product_92 rfl rfl ⟨⟨_, rfl, (by exact fin)⟩, hf, hJ⟩
          · have tc35 : x32.toInt = 47 := tl_eq c35
            have cCq : rp_mul (rd_ch hB e A1) := by unfold rp_mul; omega
            refine li_aload_n 1 dX12_product_31 rfl ?_
            refine li_callV (n := 0) (As := []) dX12_product_32 (k_X12_here (d - 1) (by omega)  M33 hJ ) (by omega) (Nat.le_of_ble_eq_true rfl) w_1597 w_1599 w_47 w_112 w_1600 (by decide +kernel) rfl (by decide) sh_175 rfl rfl (Nat.le_of_ble_eq_true rfl) (fun r M37 h38 => ?_)
            obtain ⟨⟨x36, rfl, qx36⟩, h38, jM37⟩ := h38
            have gx36 := tl_rg x36
            have hf := li_fs_trans hf h38 (fun i k h => False.elim h)
            have kM37 : (li_hr M37).toInt = (li_hr M33).toInt := li_hr_fs h38 id id id id (fun _ _ _ => id) (by assumption)
            have hJ := jM37
            have rM37_12 := J_sl12 (M := M37) hJ
            have rM37_13 := J_sl13 (M := M37) hJ
            have rM37_14 := J_sl14 (M := M37) hJ
            have rM37_15 := J_sl15 (M := M37) hJ
            have mM37_12 : (M37.1 175 12).toInt = (M33.1 175 12).toInt := tl_slot (h38.1 175 12 id)
            have mM37_13 : (M37.1 175 13).toInt = (M33.1 175 13).toInt := tl_slot (h38.1 175 13 id)
            have mM37_14 : (M37.1 175 14).toInt = (M33.1 175 14).toInt := tl_slot (h38.1 175 14 id)
            have mM37_15 : (M37.1 175 15).toInt = (M33.1 175 15).toInt := tl_slot (h38.1 175 15 id)
            have bM37 : M37.2.2 0 = some 180 := (h38.2.2 0 (fun h9 => by first | exact (h9 : False).elim | (simp at h9; done) | omega)).trans bM33
            refine li_bipush 42 dX12_product_35 (by decide) ?_
            have J45 : ∀ (x40 : Int32) (M41 : li_M), li_fs (fun i k => (i = 175 ∧ k = 14) ∨ (i = 175 ∧ k = 15)) M0 M41 → li_J M41 → (M0.1 175 14).toInt ≤ (M41.1 175 14).toInt ∧ (M5.1 175 14).toInt = (M41.1 175 14).toInt ∧ (M41.1 175 12).toInt = (M0.1 175 12).toInt ∧ (M41.1 175 13).toInt = (M0.1 175 13).toInt ∧ (M41.1 175 15).toInt = -1 ∧ (M41.1 175 14).toInt ≤ e ∧ li_rk hB e 3 (p1.toInt) ((M0.1 175 14).toInt) 4 (p1.toInt) ((M41.1 175 14).toInt) ∧ rp_mul (rd_ch hB e ((M41.1 175 14).toInt)) → M41.2.2 0 = some 180 → li_T l Z YX12_product d 45 [(2, .int x4), (0, .ref (Z.2.2 175)), (1, .int p1)] [.int x40] M41 (fun r M' => (∃ x : Int32, r = some (.int x) ∧ (∃ ok q : Int, rpr hB e 3 (p1.toInt) ((M0.1 175 14).toInt) ok q ∧ (M'.1 175 14).toInt = q ∧ (M0.1 175 14).toInt ≤ q ∧ q ≤ e ∧ ((ok = 1 ∧ (M'.1 175 15).toInt = -1) ∨ (ok = 0 ∧ (M'.1 175 15).toInt = q)))) ∧ li_fs (fun i k => (i = 175 ∧ k = 14) ∨ (i = 175 ∧ k = 15)) M0 M' ∧ li_J M') := by
              try clear bM37
              try clear mM37_15
              try clear mM37_14
              try clear mM37_13
              try clear mM37_12
              try clear rM37_15
              try clear rM37_14
              try clear rM37_13
              try clear rM37_12
              try clear kM37
              try clear gx36
              try clear qx36
              try clear h38
              try clear jM37
              try clear cCq
              try clear tc35
              try clear fin
              try clear c35
              try clear h23x
              try clear bM33
              try clear mM33_15
              try clear mM33_14
              try clear mM33_13
              try clear mM33_12
              try clear rM33_15
              try clear rM33_14
              try clear rM33_13
              try clear rM33_12
              try clear kM33
              try clear gx32
              try clear qx32
              try clear h34
              try clear jM33
              try clear ch23
              try clear tc13
              try clear c17
              try clear bM15
              try clear mM15_15
              try clear mM15_14
              try clear mM15_13
              try clear mM15_12
              try clear rM15_15
              try clear rM15_14
              try clear rM15_13
              try clear rM15_12
              try clear kM15
              try clear gx14
              try clear qx14
              try clear h16
              try clear jM15
              try clear c13
              try clear h14x
              try clear bM11
              try clear mM11_15
              try clear mM11_14
              try clear mM11_13
              try clear mM11_12
              try clear rM11_15
              try clear rM11_14
              try clear rM11_13
              try clear rM11_12
              try clear kM11
              try clear gx10
              try clear qx10
              try clear h12
              try clear jM11
              try clear ch14
              try clear rkq
              try clear hA1
              try clear c
              try clear bM7
              try clear mM7_15
              try clear mM7_14
              try clear mM7_13
              try clear mM7_12
              try clear rM7_15
              try clear rM7_14
              try clear rM7_13
              try clear rM7_12
              try clear kM7
              try clear qx6
              try clear h8
              try clear jM7
              try clear i0
              try clear i1
              try clear i2
              try clear i3
              try clear i4
              try clear mM5_13
              try clear mM5_12
              try clear rM5_15
              try clear rM5_14
              try clear rM5_13
              try clear rM5_12
              try clear okA
              try clear qA
              try clear ra
              try clear ea1
              try clear ea2
              try clear ea3
              try clear ea4
              try clear bM2
              try clear mM2_13
              try clear mM2_12
              try clear rM2_15
              try clear rM2_14
              try clear rM2_13
              try clear rM2_12
              try clear gx1
              try clear qx1
              try clear h3
              try clear jM2
              try clear rM0_15
              try clear rM0_14
              try clear rM0_13
              try clear rM0_12
              try clear hi
              intro x40 M41 hf hJ hi bM41
              have gx40 := tl_rg x40
              have rM41_12 := J_sl12 (M := M41) hJ
              have rM41_13 := J_sl13 (M := M41) hJ
              have rM41_14 := J_sl14 (M := M41) hJ
              have rM41_15 := J_sl15 (M := M41) hJ
              have mM41_12 : (M41.1 175 12).toInt = (M0.1 175 12).toInt := tl_slot (hf.1 175 12 (show ¬ ((175 = 175 ∧ 12 = 14) ∨ (175 = 175 ∧ 12 = 15)) by decide))
              have mM41_13 : (M41.1 175 13).toInt = (M0.1 175 13).toInt := tl_slot (hf.1 175 13 (show ¬ ((175 = 175 ∧ 13 = 14) ∨ (175 = 175 ∧ 13 = 15)) by decide))
              obtain ⟨k0, k1, k2, k3, k4, k6, k9, kC⟩ := hi
              have lt45 := rd_lt (rp_mul_nn kC)
              refine li_istore_n [(3, .int x40), (2, .int x4), (0, .ref (Z.2.2 175)), (1, .int p1)] dX12_product_45 (by decide) rfl ?_
              refine li_aload_n 2 dX12_product_46 rfl ?_
              refine li_dup dX12_product_47 rfl ?_
              refine li_geti (k := 14) (N := 52) (T := TX12) (C0 := RX12) dX12_product_48 (by decide) sh_175 rfl rfl (by decide) li_in12 w_1418 ?_
              refine li_top (fun x42 ex42 => ?_)
              have gx42 : 0 ≤ x42.toInt ∧ x42.toInt ≤ 81 := by rw [ex42]; exact J_sl14 hJ
              have mx42 : x42.toInt = (M41.1 175 14).toInt := tl_slot ex42
              refine li_iconst 1 dX12_product_51 (by decide) ?_
              refine li_iadd dX12_product_52 ?_
              refine li_top (fun x43 ex43 => ?_)
              have z1 : (1 : Int32).toInt = 1 := rfl
              try (have tx43 : x43.toInt = (x42 : Int32).toInt + (1 : Int32).toInt := tl_add ex43 ⟨by omega, by omega⟩)
              refine li_puti (k := 14) (N := 52) (T := TX12) (C0 := RX12) dX12_product_53 (by decide) sh_175 rfl rfl (by decide) li_in12 tyX12_ok nmX12 rfl rfl rfl rfl w_1418 ?_
              refine li_nm (fun M44 eM44 => ?_)
              have hf := li_fs_ui hf (Or.inl ⟨rfl, rfl⟩) eM44
              have hJ := J_pt14 hJ (show 0 ≤ (x43 : Int32).toInt ∧ (x43 : Int32).toInt ≤ 81 from ⟨(by omega), (by omega)⟩) eM44
              have rM44_12 := J_sl12 (M := M44) hJ
              have rM44_13 := J_sl13 (M := M44) hJ
              have rM44_14 := J_sl14 (M := M44) hJ
              have rM44_15 := J_sl15 (M := M44) hJ
              have mM44_12 : (M44.1 175 12).toInt = (M41.1 175 12).toInt := by rw [eM44, li_ui_at, if_pos rfl, if_neg (by decide)]
              have mM44_13 : (M44.1 175 13).toInt = (M41.1 175 13).toInt := by rw [eM44, li_ui_at, if_pos rfl, if_neg (by decide)]
              have mM44_14 : (M44.1 175 14).toInt = x43.toInt := by rw [eM44, li_ui_at, if_pos rfl, if_pos rfl]
              have mM44_15 : (M44.1 175 15).toInt = (M41.1 175 15).toInt := by rw [eM44, li_ui_at, if_pos rfl, if_neg (by decide)]
              have bM44 : M44.2.2 0 = some 180 := by rw [eM44]; exact bM41
              refine li_aload_n 2 dX12_product_56 rfl ?_
              refine li_iload_n 3 dX12_product_57 rfl ?_
              refine li_callV (n := 1) (As := [.int p1]) dX12_product_58 (PT p1 M44 hJ bM44 ((congrArg li_by (funext fun i => hf.1 180 i ((fun i => (show ¬ ((180 = 175 ∧ i = 14) ∨ (180 = 175 ∧ i = 15)) by first | (simp; done) | omega)) i))).trans hhB) (by rw [show (M44.1 175 12).toInt = (M0.1 175 12).toInt from Int.le_antisymm (by omega) (by omega), show (M44.1 175 13).toInt = (M0.1 175 13).toInt from Int.le_antisymm (by omega) (by omega)]; exact he) (by omega) (by omega) (Int.le_antisymm (by omega) (by omega)) ⟨by omega, by omega⟩) (by omega) (Nat.le_of_ble_eq_true rfl) w_1637 w_1639 w_55 w_112 w_1640 (by decide +kernel) rfl (by decide) sh_175 rfl rfl (Nat.le_of_ble_eq_true rfl) (fun r M46 h47 => ?_)
              obtain ⟨⟨x45, rfl, qx45⟩, h47, jM46⟩ := h47
              have gx45 := tl_rg x45
              have hf := li_fs_trans hf h47 (fun i k => fun h => Or.elim h (fun h => Or.inl h) (fun h => Or.inr h))
              have hJ := jM46
              have rM46_12 := J_sl12 (M := M46) hJ
              have rM46_13 := J_sl13 (M := M46) hJ
              have rM46_14 := J_sl14 (M := M46) hJ
              have rM46_15 := J_sl15 (M := M46) hJ
              have mM46_12 : (M46.1 175 12).toInt = (M44.1 175 12).toInt := tl_slot (h47.1 175 12 (show ¬ ((175 = 175 ∧ 12 = 14) ∨ (175 = 175 ∧ 12 = 15)) by decide))
              have mM46_13 : (M46.1 175 13).toInt = (M44.1 175 13).toInt := tl_slot (h47.1 175 13 (show ¬ ((175 = 175 ∧ 13 = 14) ∨ (175 = 175 ∧ 13 = 15)) by decide))
              have bM46 : M46.2.2 0 = some 180 := (h47.2.2 0 (fun h9 => by first | exact (h9 : False).elim | (simp at h9; done) | omega)).trans bM44
              obtain ⟨okB, qB, rb, eb1, eb2, eb3, eb4⟩ := qx45
              refine li_istore [(4, .int x45), (3, .int x40), (2, .int x4), (0, .ref (Z.2.2 175)), (1, .int p1)] dX12_product_61 (by decide) rfl ?_
              refine li_iload_n 1 dX12_product_63 rfl ?_
              have J87 : ∀ (x49 : Int32) (M50 : li_M), li_fs (fun i k => (i = 175 ∧ k = 14) ∨ (i = 175 ∧ k = 15)) M0 M50 → li_J M50 → (M0.1 175 14).toInt ≤ (M50.1 175 14).toInt ∧ (M50.1 175 14).toInt ≤ e ∧ (M50.1 175 12).toInt = (M0.1 175 12).toInt ∧ (M50.1 175 13).toInt = (M0.1 175 13).toInt ∧ (M5.1 175 14).toInt + 1 ≤ (M50.1 175 14).toInt ∧ li_hd (((M50.1 175 15).toInt = -1 ∧ li_rk hB e 3 (p1.toInt) ((M0.1 175 14).toInt) 4 (p1.toInt) ((M50.1 175 14).toInt)) ∨ (¬ (M50.1 175 15).toInt = -1 ∧ (M50.1 175 15).toInt = (M50.1 175 14).toInt ∧ rpr hB e 3 (p1.toInt) ((M0.1 175 14).toInt) 0 ((M50.1 175 14).toInt))) → M50.2.2 0 = some 180 → li_T l Z YX12_product d 87 [(4, .int x45), (3, .int x40), (2, .int x4), (0, .ref (Z.2.2 175)), (1, .int p1)] [.int x49] M50 (fun r M' => (∃ x : Int32, r = some (.int x) ∧ (∃ ok q : Int, rpr hB e 3 (p1.toInt) ((M0.1 175 14).toInt) ok q ∧ (M'.1 175 14).toInt = q ∧ (M0.1 175 14).toInt ≤ q ∧ q ≤ e ∧ ((ok = 1 ∧ (M'.1 175 15).toInt = -1) ∨ (ok = 0 ∧ (M'.1 175 15).toInt = q)))) ∧ li_fs (fun i k => (i = 175 ∧ k = 14) ∨ (i = 175 ∧ k = 15)) M0 M' ∧ li_J M') := by
                try clear okB
                try clear qB
                try clear rb
                try clear eb1
                try clear eb2
                try clear eb3
                try clear eb4
                try clear bM46
                try clear mM46_13
                try clear mM46_12
                try clear rM46_15
                try clear rM46_14
                try clear rM46_13
                try clear rM46_12
                try clear qx45
                try clear h47
                try clear jM46
                try clear bM44
                try clear mM44_15
                try clear mM44_14
                try clear mM44_13
                try clear mM44_12
                try clear rM44_15
                try clear rM44_14
                try clear rM44_13
                try clear rM44_12
                try clear eM44
                try clear tx43
                try clear ex43
                try clear mx42
                try clear gx42
                try clear ex42
                try clear lt45
                try clear k0
                try clear k1
                try clear k2
                try clear k3
                try clear k4
                try clear k6
                try clear k9
                try clear kC
                try clear mM41_13
                try clear mM41_12
                try clear rM41_15
                try clear rM41_14
                try clear rM41_13
                try clear rM41_12
                try clear bM37
                try clear mM37_15
                try clear mM37_14
                try clear mM37_13
                try clear mM37_12
                try clear rM37_15
                try clear rM37_14
                try clear rM37_13
                try clear rM37_12
                try clear kM37
                try clear gx36
                try clear qx36
                try clear h38
                try clear jM37
                try clear cCq
                try clear tc35
                try clear fin
                try clear c35
                try clear h23x
                try clear bM33
                try clear mM33_15
                try clear mM33_14
                try clear mM33_13
                try clear mM33_12
                try clear rM33_15
                try clear rM33_14
                try clear rM33_13
                try clear rM33_12
                try clear kM33
                try clear gx32
                try clear qx32
                try clear h34
                try clear jM33
                try clear ch23
                try clear tc13
                try clear c17
                try clear bM15
                try clear mM15_15
                try clear mM15_14
                try clear mM15_13
                try clear mM15_12
                try clear rM15_15
                try clear rM15_14
                try clear rM15_13
                try clear rM15_12
                try clear kM15
                try clear gx14
                try clear qx14
                try clear h16
                try clear jM15
                try clear c13
                try clear h14x
                try clear bM11
                try clear mM11_15
                try clear mM11_14
                try clear mM11_13
                try clear mM11_12
                try clear rM11_15
                try clear rM11_14
                try clear rM11_13
                try clear rM11_12
                try clear kM11
                try clear gx10
                try clear qx10
                try clear h12
                try clear jM11
                try clear ch14
                try clear rkq
                try clear hA1
                try clear c
                try clear bM7
                try clear mM7_15
                try clear mM7_14
                try clear mM7_13
                try clear mM7_12
                try clear rM7_15
                try clear rM7_14
                try clear rM7_13
                try clear rM7_12
                try clear kM7
                try clear qx6
                try clear h8
                try clear jM7
                try clear i0
                try clear i1
                try clear i2
                try clear i3
                try clear i4
                try clear mM5_13
                try clear mM5_12
                try clear rM5_15
                try clear rM5_14
                try clear rM5_13
                try clear rM5_12
                try clear okA
                try clear qA
                try clear ra
                try clear ea1
                try clear ea2
                try clear ea3
                try clear ea4
                try clear bM2
                try clear mM2_13
                try clear mM2_12
                try clear rM2_15
                try clear rM2_14
                try clear rM2_13
                try clear rM2_12
                try clear gx1
                try clear qx1
                try clear h3
                try clear jM2
                try clear rM0_15
                try clear rM0_14
                try clear rM0_13
                try clear rM0_12
                try clear hi
                try clear hi
                intro x49 M50 hf hJ hi bM50
                have gx49 := tl_rg x49
                have rM50_12 := J_sl12 (M := M50) hJ
                have rM50_13 := J_sl13 (M := M50) hJ
                have rM50_14 := J_sl14 (M := M50) hJ
                have rM50_15 := J_sl15 (M := M50) hJ
                have mM50_12 : (M50.1 175 12).toInt = (M0.1 175 12).toInt := tl_slot (hf.1 175 12 (show ¬ ((175 = 175 ∧ 12 = 14) ∨ (175 = 175 ∧ 12 = 15)) by decide))
                have mM50_13 : (M50.1 175 13).toInt = (M0.1 175 13).toInt := tl_slot (hf.1 175 13 (show ¬ ((175 = 175 ∧ 13 = 14) ∨ (175 = 175 ∧ 13 = 15)) by decide))
                obtain ⟨k0, k1, k2, k3, k4, k5⟩ := hi
                refine li_istore_n [(2, .int x49), (4, .int x45), (3, .int x40), (0, .ref (Z.2.2 175)), (1, .int p1)] dX12_product_87 (by decide) rfl ?_
                refine li_goto 6 dX12_product_88 (by decide) ?_
                refine li_pick [0, 3, 4] [(2, .int x49), (0, .ref (Z.2.2 175)), (1, .int p1)] rfl ?_
                exact ih6 x49 M50 (by omega) hf hJ ⟨(by omega), (by omega), (Int.le_antisymm (by omega) (by omega)), (Int.le_antisymm (by omega) (by omega)), (by first | (exact Or.elim k5 (fun c => Or.inl ⟨c.1, c.2⟩) (fun c => Or.inr c)) | (rcases ea4 with c | c; exact Or.inl ⟨c.2, rk_to (rk_4 (rp_to ra rfl rfl c.1.symm rfl)) (Int.le_antisymm (by omega) (by omega))⟩; exact Or.inr ⟨by omega, Int.le_antisymm (by omega) (by omega), rk_3f (rp_to ra rfl rfl c.1.symm (Int.le_antisymm (by omega) (by omega)))⟩))⟩ bM50
              refine li_if_eq 74 dX12_product_64 (by decide) (fun c48 => ?_) (fun c48 => ?_)
              · have tc48 : x40.toInt = 0 := tl_eq c48
                refine li_iload 0 dX12_product_74 rfl ?_
                refine li_if_ne 83 dX12_product_76 (by decide) (fun c51 => ?_) (fun c51 => ?_)
                · have tc51 : ¬ x45.toInt = 0 := tl_ne c51
                  refine li_iload_n 2 dX12_product_83 rfl ?_
                  refine li_iload 0 dX12_product_84 rfl ?_
                  refine li_idiv dX12_product_86 (by assumption) ?_
                  refine li_top (fun x52 ex52 => ?_)
                  refine li_pick [0, 1, 2, 3, 4] [(4, .int x45), (3, .int x40), (2, .int x4), (0, .ref (Z.2.2 175)), (1, .int p1)] rfl ?_
                  exact J87 x52 M46 hf hJ ⟨(by omega), (by omega), (Int.le_antisymm (by omega) (by omega)), (Int.le_antisymm (by omega) (by omega)), (by omega), (by first | (rcases eb4 with c | c; exact Or.inl ⟨c.2, rk_to (rk_4s k9 kC (rp_to rb rfl (Int.le_antisymm (by omega) (by omega)) c.1.symm rfl)) (Int.le_antisymm (by omega) (by omega))⟩; exact Or.inr ⟨by omega, Int.le_antisymm (by omega) (by omega), rp_to (rk_4f k9 kC (rp_to rb rfl (Int.le_antisymm (by omega) (by omega)) c.1.symm rfl)) rfl rfl rfl (Int.le_antisymm (by omega) (by omega))⟩))⟩ bM46
                · have tc51 : x45.toInt = 0 := tl_eq c51
                  refine li_iconst 0 dX12_product_79 (by decide) ?_
                  refine li_goto 87 dX12_product_80 (by decide) ?_
                  refine li_pick [0, 1, 2, 3, 4] [(4, .int x45), (3, .int x40), (2, .int x4), (0, .ref (Z.2.2 175)), (1, .int p1)] rfl ?_
                  have z0 : (0 : Int32).toInt = 0 := rfl
                  exact J87 0 M46 hf hJ ⟨(by omega), (by omega), (Int.le_antisymm (by omega) (by omega)), (Int.le_antisymm (by omega) (by omega)), (by omega), (by first | (rcases eb4 with c | c; exact Or.inl ⟨c.2, rk_to (rk_4s k9 kC (rp_to rb rfl (Int.le_antisymm (by omega) (by omega)) c.1.symm rfl)) (Int.le_antisymm (by omega) (by omega))⟩; exact Or.inr ⟨by omega, Int.le_antisymm (by omega) (by omega), rp_to (rk_4f k9 kC (rp_to rb rfl (Int.le_antisymm (by omega) (by omega)) c.1.symm rfl)) rfl rfl rfl (Int.le_antisymm (by omega) (by omega))⟩))⟩ bM46
              · have tc48 : ¬ x40.toInt = 0 := tl_ne c48
                refine li_iload_n 2 dX12_product_67 rfl ?_
                refine li_iload 0 dX12_product_68 rfl ?_
                refine li_imul dX12_product_70 ?_
                refine li_top (fun x53 ex53 => ?_)
                refine li_goto 87 dX12_product_71 (by decide) ?_
                refine li_pick [0, 1, 2, 3, 4] [(4, .int x45), (3, .int x40), (2, .int x4), (0, .ref (Z.2.2 175)), (1, .int p1)] rfl ?_
                exact J87 x53 M46 hf hJ ⟨(by omega), (by omega), (Int.le_antisymm (by omega) (by omega)), (Int.le_antisymm (by omega) (by omega)), (by omega), (by first | (rcases eb4 with c | c; exact Or.inl ⟨c.2, rk_to (rk_4s k9 kC (rp_to rb rfl (Int.le_antisymm (by omega) (by omega)) c.1.symm rfl)) (Int.le_antisymm (by omega) (by omega))⟩; exact Or.inr ⟨by omega, Int.le_antisymm (by omega) (by omega), rp_to (rk_4f k9 kC (rp_to rb rfl (Int.le_antisymm (by omega) (by omega)) c.1.symm rfl)) rfl rfl rfl (Int.le_antisymm (by omega) (by omega))⟩))⟩ bM46
            refine li_icmp_ne 44 dX12_product_37 (by decide) (fun c39 => ?_) (fun c39 => ?_)
            · have tc39 : ¬ x36.toInt = 42 := tl_ne c39
              refine li_iconst 0 dX12_product_44 (by decide) ?_
              refine li_pick [0, 1, 2] [(2, .int x4), (0, .ref (Z.2.2 175)), (1, .int p1)] rfl ?_
              have z0 : (0 : Int32).toInt = 0 := rfl
              exact J45 0 M37 hf hJ ⟨(by omega), (Int.le_antisymm (by omega) (by omega)), (Int.le_antisymm (by omega) (by omega)), (Int.le_antisymm (by omega) (by omega)), (Int.le_antisymm (by omega) (by omega)), (by omega), (rk_to rkq (Int.le_antisymm (by omega) (by omega))), (by exact rp_mv4 cCq (Int.le_antisymm (by omega) (by omega)))⟩ bM37
            · have tc39 : x36.toInt = 42 := tl_eq c39
              refine li_iconst 1 dX12_product_40 (by decide) ?_
              refine li_goto 45 dX12_product_41 (by decide) ?_
              refine li_pick [0, 1, 2] [(2, .int x4), (0, .ref (Z.2.2 175)), (1, .int p1)] rfl ?_
              have z1 : (1 : Int32).toInt = 1 := rfl
              exact J45 1 M37 hf hJ ⟨(by omega), (Int.le_antisymm (by omega) (by omega)), (Int.le_antisymm (by omega) (by omega)), (Int.le_antisymm (by omega) (by omega)), (Int.le_antisymm (by omega) (by omega)), (by omega), (rk_to rkq (Int.le_antisymm (by omega) (by omega))), (by exact rp_mv4 cCq (Int.le_antisymm (by omega) (by omega)))⟩ bM37
      · skip
        refine li_if_eq 91 dX12_product_10 (by decide) (fun c => ?_) (fun c => absurd rfl c)
        have fin : ∃ ok q : Int, rpr hB e 3 (p1.toInt) ((M0.1 175 14).toInt) ok q ∧ (M7.1 175 14).toInt = q ∧ (M0.1 175 14).toInt ≤ q ∧ q ≤ e ∧ ((ok = 1 ∧ (M7.1 175 15).toInt = -1) ∨ (ok = 0 ∧ (M7.1 175 15).toInt = q)) := by
          first | (have nCq : ¬ rp_mul (rd_ch hB e A1) := by unfold rp_mul; omega) | skip
          first | exact ⟨1, A1, rk_4e rkq nCq, Int.le_antisymm (by omega) (by omega), by omega, by omega, Or.inl ⟨rfl, Int.le_antisymm (by omega) (by omega)⟩⟩ | (rcases i4 with c | c; exact absurd c.1 (by omega); exact ⟨0, _, rp_to c.2.2 rfl (Int.le_antisymm (by omega) (by omega)) rfl rfl, rfl, by omega, by omega, Or.inr ⟨rfl, Int.le_antisymm (by omega) (by omega)⟩⟩)
        refine li_iload_n 0 dX12_product_91 rfl ?_
        exact li_iret dX12_product_92 rfl rfl ⟨⟨_, rfl, (by exact fin)⟩, hf, hJ⟩
  exact L6 _ x1 M2 (Nat.lt_succ_self _) hf hJ ⟨(by omega), (by omega), (Int.le_antisymm (by omega) (by omega)), (Int.le_antisymm (by omega) (by omega)), (by first | (exact Or.elim k5 (fun c => Or.inl ⟨c.1, c.2⟩) (fun c => Or.inr c)) | (rcases ea4 with c | c; exact Or.inl ⟨c.2, rk_to (rk_4 (rp_to ra rfl rfl c.1.symm rfl)) (Int.le_antisymm (by omega) (by omega))⟩; exact Or.inr ⟨by omega, Int.le_antisymm (by omega) (by omega), rk_3f (rp_to ra rfl rfl c.1.symm (Int.le_antisymm (by omega) (by omega)))⟩))⟩ bM2
set_option maxRecDepth 100000 in
set_option maxHeartbeats 4000000 in
theorem k14_X12_sum {l : Launch} {Z : li_Z} (d : Nat) (hd : 2 ≤ d) (p1 : Int32) (dE : Nat) (hE : dE + 1 ≤ d) (M0 : li_M) (hJ : li_J M0) (bM0 : M0.2.2 0 = some 180) (hB : Nat → Int32) (hhB : li_by (M0.1 180) = hB) (e : Int) (he : min (M0.1 175 12).toInt (M0.1 175 13).toInt = e) (hat : (M0.1 175 14).toInt ≤ e) (hw : (M0.1 175 15).toInt = -1) (h4 : 0 ≤ p1.toInt ∧ p1.toInt ≤ 4) (PR : ∀ (q9 : Int32) (M : li_M), li_J M → M.2.2 0 = some 180 → li_by (M.1 180) = hB → min (M.1 175 12).toInt (M.1 175 13).toInt = e → (M0.1 175 14).toInt ≤ (M.1 175 14).toInt → (M.1 175 14).toInt ≤ e → (M.1 175 15).toInt = -1 → 0 ≤ q9.toInt ∧ q9.toInt ≤ 4 → li_Met l Z YX12_product dE [.ref (Z.2.2 175), .int q9] M (fun r M' => (∃ x : Int32, r = some (.int x) ∧ (∃ ok q : Int, rpr hB e 3 (q9.toInt) ((M.1 175 14).toInt) ok q ∧ (M'.1 175 14).toInt = q ∧ (M.1 175 14).toInt ≤ q ∧ q ≤ e ∧ ((ok = 1 ∧ (M'.1 175 15).toInt = -1) ∨ (ok = 0 ∧ (M'.1 175 15).toInt = q)))) ∧ li_fs (fun i k => (i = 175 ∧ k = 14) ∨ (i = 175 ∧ k = 15)) M M' ∧ li_J M')) : li_Met l Z YX12_sum d [.ref (Z.2.2 175), .int p1] M0 (fun r M' => (∃ x : Int32, r = some (.int x) ∧ (∃ ok q : Int, rpr hB e 1 (p1.toInt) ((M0.1 175 14).toInt) ok q ∧ (M'.1 175 14).toInt = q ∧ (M0.1 175 14).toInt ≤ q ∧ q ≤ e ∧ ((ok = 1 ∧ (M'.1 175 15).toInt = -1) ∨ (ok = 0 ∧ (M'.1 175 15).toInt = q)))) ∧ li_fs (fun i k => (i = 175 ∧ k = 14) ∨ (i = 175 ∧ k = 15)) M0 M' ∧ li_J M') := by
  refine li_enter (by decide +kernel) (Nat.le_of_ble_eq_true rfl) ?_
  show li_T l Z YX12_sum d 0 [(0, .ref (Z.2.2 175)), (1, .int p1)] [] M0 _
  have hf : li_fs (fun i k => (i = 175 ∧ k = 14) ∨ (i = 175 ∧ k = 15)) M0 M0 := li_fs_refl
  have gp1 := tl_rg p1
  have rM0_12 := J_sl12 (M := M0) hJ
  have rM0_13 := J_sl13 (M := M0) hJ
  have rM0_14 := J_sl14 (M := M0) hJ
  have rM0_15 := J_sl15 (M := M0) hJ
  refine li_aload_n 0 dX12_sum_0 rfl ?_
  refine li_iload_n 1 dX12_sum_1 rfl ?_
  refine li_callV (n := 1) (As := [.int p1]) dX12_sum_2 (PR p1 M0 hJ bM0 ((congrArg li_by (funext fun i => hf.1 180 i ((fun i => (show ¬ ((180 = 175 ∧ i = 14) ∨ (180 = 175 ∧ i = 15)) by first | (simp; done) | omega)) i))).trans hhB) (by rw [show (M0.1 175 12).toInt = (M0.1 175 12).toInt from Int.le_antisymm (by omega) (by omega), show (M0.1 175 13).toInt = (M0.1 175 13).toInt from Int.le_antisymm (by omega) (by omega)]; exact he) (by omega) (by omega) (Int.le_antisymm (by omega) (by omega)) ⟨by omega, by omega⟩) (by omega) (Nat.le_of_ble_eq_true rfl) w_1633 w_1635 w_54 w_112 w_1636 (by decide +kernel) rfl (by decide) sh_175 rfl rfl (Nat.le_of_ble_eq_true rfl) (fun r M2 h3 => ?_)
  obtain ⟨⟨x1, rfl, qx1⟩, h3, jM2⟩ := h3
  have gx1 := tl_rg x1
  have hf := li_fs_trans hf h3 (fun i k => fun h => Or.elim h (fun h => Or.inl h) (fun h => Or.inr h))
  have hJ := jM2
  have rM2_12 := J_sl12 (M := M2) hJ
  have rM2_13 := J_sl13 (M := M2) hJ
  have rM2_14 := J_sl14 (M := M2) hJ
  have rM2_15 := J_sl15 (M := M2) hJ
  have mM2_12 : (M2.1 175 12).toInt = (M0.1 175 12).toInt := tl_slot (h3.1 175 12 (show ¬ ((175 = 175 ∧ 12 = 14) ∨ (175 = 175 ∧ 12 = 15)) by decide))
  have mM2_13 : (M2.1 175 13).toInt = (M0.1 175 13).toInt := tl_slot (h3.1 175 13 (show ¬ ((175 = 175 ∧ 13 = 14) ∨ (175 = 175 ∧ 13 = 15)) by decide))
  have bM2 : M2.2.2 0 = some 180 := (h3.2.2 0 (fun h9 => by first | exact (h9 : False).elim | (simp at h9; done) | omega)).trans bM0
  obtain ⟨okA, qA, ra, ea1, ea2, ea3, ea4⟩ := qx1
  refine li_istore_n [(2, .int x1), (0, .ref (Z.2.2 175)), (1, .int p1)] dX12_sum_5 (by decide) rfl ?_
  have L6 : ∀ (n : Nat) (x4 : Int32) (M5 : li_M), (81 - (M5.1 175 14).toInt).toNat < n → li_fs (fun i k => (i = 175 ∧ k = 14) ∨ (i = 175 ∧ k = 15)) M0 M5 → li_J M5 → (M0.1 175 14).toInt ≤ (M5.1 175 14).toInt ∧ (M5.1 175 14).toInt ≤ e ∧ (M5.1 175 12).toInt = (M0.1 175 12).toInt ∧ (M5.1 175 13).toInt = (M0.1 175 13).toInt ∧ li_hd (((M5.1 175 15).toInt = -1 ∧ li_rk hB e 1 (p1.toInt) ((M0.1 175 14).toInt) 2 (p1.toInt) ((M5.1 175 14).toInt)) ∨ (¬ (M5.1 175 15).toInt = -1 ∧ (M5.1 175 15).toInt = (M5.1 175 14).toInt ∧ rpr hB e 1 (p1.toInt) ((M0.1 175 14).toInt) 0 ((M5.1 175 14).toInt))) → M5.2.2 0 = some 180 → li_T l Z YX12_sum d 6 [(2, .int x4), (0, .ref (Z.2.2 175)), (1, .int p1)] [] M5 (fun r M' => (∃ x : Int32, r = some (.int x) ∧ (∃ ok q : Int, rpr hB e 1 (p1.toInt) ((M0.1 175 14).toInt) ok q ∧ (M'.1 175 14).toInt = q ∧ (M0.1 175 14).toInt ≤ q ∧ q ≤ e ∧ ((ok = 1 ∧ (M'.1 175 15).toInt = -1) ∨ (ok = 0 ∧ (M'.1 175 15).toInt = q)))) ∧ li_fs (fun i k => (i = 175 ∧ k = 14) ∨ (i = 175 ∧ k = 15)) M0 M' ∧ li_J M') := by
    try clear okA
    try clear qA
    try clear ra
    try clear ea1
    try clear ea2
    try clear ea3
    try clear ea4
    try clear bM2
    try clear mM2_13
    try clear mM2_12
    try clear rM2_15
    try clear rM2_14
    try clear rM2_13
    try clear rM2_12
    try clear gx1
    try clear qx1
    try clear h3
    try clear jM2
    try clear rM0_15
    try clear rM0_14
    try clear rM0_13
    try clear rM0_12
    intro n
    induction n with
    | zero => intro x4 M5 hn; exact absurd hn (Nat.not_lt_zero _)
    | succ n ih6 =>
      intro x4 M5 hn hf hJ hi bM5
      have gx4 := tl_rg x4
      have rM5_12 := J_sl12 (M := M5) hJ
      have rM5_13 := J_sl13 (M := M5) hJ
      have rM5_14 := J_sl14 (M := M5) hJ
      have rM5_15 := J_sl15 (M := M5) hJ
      have mM5_12 : (M5.1 175 12).toInt = (M0.1 175 12).toInt := tl_slot (hf.1 175 12 (show ¬ ((175 = 175 ∧ 12 = 14) ∨ (175 = 175 ∧ 12 = 15)) by decide))
      have mM5_13 : (M5.1 175 13).toInt = (M0.1 175 13).toInt := tl_slot (hf.1 175 13 (show ¬ ((175 = 175 ∧ 13 = 14) ∨ (175 = 175 ∧ 13 = 15)) by decide))
      obtain ⟨i0, i1, i2, i3, i4⟩ := hi
      refine li_aload_n 1 dX12_sum_6 rfl ?_
      refine li_callV (n := 0) (As := []) dX12_sum_7 (k_X12_fine (d - 1) (by omega)  M5 hJ ) (by omega) (Nat.le_of_ble_eq_true rfl) w_1581 w_1583 w_43 w_112 w_1584 (by decide +kernel) rfl (by decide) sh_175 rfl rfl (Nat.le_of_ble_eq_true rfl) (fun r M7 h8 => ?_)
      obtain ⟨qx6, h8, jM7⟩ := h8
      have hf := li_fs_trans hf h8 (fun i k h => False.elim h)
      have kM7 : (li_hr M7).toInt = (li_hr M5).toInt := li_hr_fs h8 id id id id (fun _ _ _ => id) (by assumption)
      have hJ := jM7
      have rM7_12 := J_sl12 (M := M7) hJ
      have rM7_13 := J_sl13 (M := M7) hJ
      have rM7_14 := J_sl14 (M := M7) hJ
      have rM7_15 := J_sl15 (M := M7) hJ
      have mM7_12 : (M7.1 175 12).toInt = (M5.1 175 12).toInt := tl_slot (h8.1 175 12 id)
      have mM7_13 : (M7.1 175 13).toInt = (M5.1 175 13).toInt := tl_slot (h8.1 175 13 id)
      have mM7_14 : (M7.1 175 14).toInt = (M5.1 175 14).toInt := tl_slot (h8.1 175 14 id)
      have mM7_15 : (M7.1 175 15).toInt = (M5.1 175 15).toInt := tl_slot (h8.1 175 15 id)
      have bM7 : M7.2.2 0 = some 180 := (h8.2.2 0 (fun h9 => by first | exact (h9 : False).elim | (simp at h9; done) | omega)).trans bM5
      rcases qx6 with ⟨rfl, qx6⟩ | ⟨rfl, qx6⟩
      · skip
        refine li_if_eq 82 dX12_sum_10 (by decide) (fun c => absurd c (by decide)) (fun c => ?_)
        obtain ⟨A1, hA1⟩ : ∃ z : Int, z = (M7.1 175 14).toInt := ⟨_, rfl⟩
        have rkq : li_rk hB e 1 (p1.toInt) ((M0.1 175 14).toInt) 2 (p1.toInt) A1 := rk_to (Or.resolve_right i4 (fun h9 => h9.1 (Int.le_antisymm (by omega) (by omega)))).2 (Int.le_antisymm (by omega) (by omega))
        clear i4
        refine li_aload_n 1 dX12_sum_13 rfl ?_
        have ch14 : (li_hr M7).toInt = rd_ch hB e (A1) := (hr_pt bM7 (by omega) rfl (by rw [show (M7.1 175 12).toInt = (M0.1 175 12).toInt from Int.le_antisymm (by omega) (by omega), show (M7.1 175 13).toInt = (M0.1 175 13).toInt from Int.le_antisymm (by omega) (by omega)]; exact he) (Int.le_antisymm (by omega) (by omega))).trans (congrArg (fun z => rd_ch z e (A1)) ((congrArg li_by (funext fun i => hf.1 180 i ((fun i => (show ¬ ((180 = 175 ∧ i = 14) ∨ (180 = 175 ∧ i = 15)) by first | (simp; done) | omega)) i))).trans hhB))
        refine li_callV (n := 0) (As := []) dX12_sum_14 (k_X12_here (d - 1) (by omega)  M7 hJ ) (by omega) (Nat.le_of_ble_eq_true rfl) w_1597 w_1599 w_47 w_112 w_1600 (by decide +kernel) rfl (by decide) sh_175 rfl rfl (Nat.le_of_ble_eq_true rfl) (fun r M11 h12 => ?_)
        obtain ⟨⟨x10, rfl, qx10⟩, h12, jM11⟩ := h12
        have gx10 := tl_rg x10
        have hf := li_fs_trans hf h12 (fun i k h => False.elim h)
        have kM11 : (li_hr M11).toInt = (li_hr M7).toInt := li_hr_fs h12 id id id id (fun _ _ _ => id) (by assumption)
        have hJ := jM11
        have rM11_12 := J_sl12 (M := M11) hJ
        have rM11_13 := J_sl13 (M := M11) hJ
        have rM11_14 := J_sl14 (M := M11) hJ
        have rM11_15 := J_sl15 (M := M11) hJ
        have mM11_12 : (M11.1 175 12).toInt = (M7.1 175 12).toInt := tl_slot (h12.1 175 12 id)
        have mM11_13 : (M11.1 175 13).toInt = (M7.1 175 13).toInt := tl_slot (h12.1 175 13 id)
        have mM11_14 : (M11.1 175 14).toInt = (M7.1 175 14).toInt := tl_slot (h12.1 175 14 id)
        have mM11_15 : (M11.1 175 15).toInt = (M7.1 175 15).toInt := tl_slot (h12.1 175 15 id)
        have bM11 : M11.2.2 0 = some 180 := (h12.2.2 0 (fun h9 => by first | exact (h9 : False).elim | (simp at h9; done) | omega)).trans bM7
        have h14x : x10.toInt = rd_ch hB e A1 := Int.le_antisymm (by omega) (by omega)
        refine li_bipush 43 dX12_sum_17 (by decide) ?_
        refine li_icmp_eq 31 dX12_sum_19 (by decide) (fun c13 => ?_) (fun c13 => ?_)
        · have tc13 : x10.toInt = 43 := tl_eq c13
          have cCq : rp_add (rd_ch hB e A1) := by unfold rp_add; omega
          refine li_aload_n 1 dX12_sum_31 rfl ?_
          refine li_callV (n := 0) (As := []) dX12_sum_32 (k_X12_here (d - 1) (by omega)  M11 hJ ) (by omega) (Nat.le_of_ble_eq_true rfl) w_1597 w_1599 w_47 w_112 w_1600 (by decide +kernel) rfl (by decide) sh_175 rfl rfl (Nat.le_of_ble_eq_true rfl) (fun r M15 h16 => ?_)
          obtain ⟨⟨x14, rfl, qx14⟩, h16, jM15⟩ := h16
          have gx14 := tl_rg x14
          have hf := li_fs_trans hf h16 (fun i k h => False.elim h)
          have kM15 : (li_hr M15).toInt = (li_hr M11).toInt := li_hr_fs h16 id id id id (fun _ _ _ => id) (by assumption)
          have hJ := jM15
          have rM15_12 := J_sl12 (M := M15) hJ
          have rM15_13 := J_sl13 (M := M15) hJ
          have rM15_14 := J_sl14 (M := M15) hJ
          have rM15_15 := J_sl15 (M := M15) hJ
          have mM15_12 : (M15.1 175 12).toInt = (M11.1 175 12).toInt := tl_slot (h16.1 175 12 id)
          have mM15_13 : (M15.1 175 13).toInt = (M11.1 175 13).toInt := tl_slot (h16.1 175 13 id)
          have mM15_14 : (M15.1 175 14).toInt = (M11.1 175 14).toInt := tl_slot (h16.1 175 14 id)
          have mM15_15 : (M15.1 175 15).toInt = (M11.1 175 15).toInt := tl_slot (h16.1 175 15 id)
          have bM15 : M15.2.2 0 = some 180 := (h16.2.2 0 (fun h9 => by first | exact (h9 : False).elim | (simp at h9; done) | omega)).trans bM11
          refine li_bipush 43 dX12_sum_35 (by decide) ?_
          have J45 : ∀ (x18 : Int32) (M19 : li_M), li_fs (fun i k => (i = 175 ∧ k = 14) ∨ (i = 175 ∧ k = 15)) M0 M19 → li_J M19 → (M0.1 175 14).toInt ≤ (M19.1 175 14).toInt ∧ (M5.1 175 14).toInt = (M19.1 175 14).toInt ∧ (M19.1 175 12).toInt = (M0.1 175 12).toInt ∧ (M19.1 175 13).toInt = (M0.1 175 13).toInt ∧ (M19.1 175 15).toInt = -1 ∧ (M19.1 175 14).toInt ≤ e ∧ li_rk hB e 1 (p1.toInt) ((M0.1 175 14).toInt) 2 (p1.toInt) ((M19.1 175 14).toInt) ∧ rp_add (rd_ch hB e ((M19.1 175 14).toInt)) → M19.2.2 0 = some 180 → li_T l Z YX12_sum d 45 [(2, .int x4), (0, .ref (Z.2.2 175)), (1, .int p1)] [.int x18] M19 (fun r M' => (∃ x : Int32, r = some (.int x) ∧ (∃ ok q : Int, rpr hB e 1 (p1.toInt) ((M0.1 175 14).toInt) ok q ∧ (M'.1 175 14).toInt = q ∧ (M0.1 175 14).toInt ≤ q ∧ q ≤ e ∧ ((ok = 1 ∧ (M'.1 175 15).toInt = -1) ∨ (ok = 0 ∧ (M'.1 175 15).toInt = q)))) ∧ li_fs (fun i k => (i = 175 ∧ k = 14) ∨ (i = 175 ∧ k = 15)) M0 M' ∧ li_J M') := by
            try clear bM15
            try clear mM15_15
            try clear mM15_14
            try clear mM15_13
            try clear mM15_12
            try clear rM15_15
            try clear rM15_14
            try clear rM15_13
            try clear rM15_12
            try clear kM15
            try clear gx14
            try clear qx14
            try clear h16
            try clear jM15
            try clear cCq
            try clear tc13
            try clear h14x
            try clear bM11
            try clear mM11_15
            try clear mM11_14
            try clear mM11_13
            try clear mM11_12
            try clear rM11_15
            try clear rM11_14
            try clear rM11_13
            try clear rM11_12
            try clear kM11
            try clear gx10
            try clear qx10
            try clear h12
            try clear jM11
            try clear ch14
            try clear rkq
            try clear hA1
            try clear c
            try clear bM7
            try clear mM7_15
            try clear mM7_14
            try clear mM7_13
            try clear mM7_12
            try clear rM7_15
            try clear rM7_14
            try clear rM7_13
            try clear rM7_12
            try clear kM7
            try clear qx6
            try clear h8
            try clear jM7
            try clear i0
            try clear i1
            try clear i2
            try clear i3
            try clear i4
            try clear mM5_13
            try clear mM5_12
            try clear rM5_15
            try clear rM5_14
            try clear rM5_13
            try clear rM5_12
            try clear okA
            try clear qA
            try clear ra
            try clear ea1
            try clear ea2
            try clear ea3
            try clear ea4
            try clear bM2
            try clear mM2_13
            try clear mM2_12
            try clear rM2_15
            try clear rM2_14
            try clear rM2_13
            try clear rM2_12
            try clear gx1
            try clear qx1
            try clear h3
            try clear jM2
            try clear rM0_15
            try clear rM0_14
            try clear rM0_13
            try clear rM0_12
            try clear hi
            intro x18 M19 hf hJ hi bM19
            have gx18 := tl_rg x18
            have rM19_12 := J_sl12 (M := M19) hJ
            have rM19_13 := J_sl13 (M := M19) hJ
            have rM19_14 := J_sl14 (M := M19) hJ
            have rM19_15 := J_sl15 (M := M19) hJ
            have mM19_12 : (M19.1 175 12).toInt = (M0.1 175 12).toInt := tl_slot (hf.1 175 12 (show ¬ ((175 = 175 ∧ 12 = 14) ∨ (175 = 175 ∧ 12 = 15)) by decide))
            have mM19_13 : (M19.1 175 13).toInt = (M0.1 175 13).toInt := tl_slot (hf.1 175 13 (show ¬ ((175 = 175 ∧ 13 = 14) ∨ (175 = 175 ∧ 13 = 15)) by decide))
            obtain ⟨k0, k1, k2, k3, k4, k6, k9, kC⟩ := hi
            have lt45 := rd_lt (rp_add_nn kC)
            refine li_istore_n [(3, .int x18), (2, .int x4), (0, .ref (Z.2.2 175)), (1, .int p1)] dX12_sum_45 (by decide) rfl ?_
            refine li_aload_n 2 dX12_sum_46 rfl ?_
            refine li_dup dX12_sum_47 rfl ?_
            refine li_geti (k := 14) (N := 52) (T := TX12) (C0 := RX12) dX12_sum_48 (by decide) sh_175 rfl rfl (by decide) li_in12 w_1418 ?_
            refine li_top (fun x20 ex20 => ?_)
            have gx20 : 0 ≤ x20.toInt ∧ x20.toInt ≤ 81 := by rw [ex20]; exact J_sl14 hJ
            have mx20 : x20.toInt = (M19.1 175 14).toInt := tl_slot ex20
            refine li_iconst 1 dX12_sum_51 (by decide) ?_
            refine li_iadd dX12_sum_52 ?_
            refine li_top (fun x21 ex21 => ?_)
            have z1 : (1 : Int32).toInt = 1 := rfl
            try (have tx21 : x21.toInt = (x20 : Int32).toInt + (1 : Int32).toInt := tl_add ex21 ⟨by omega, by omega⟩)
            refine li_puti (k := 14) (N := 52) (T := TX12) (C0 := RX12) dX12_sum_53 (by decide) sh_175 rfl rfl (by decide) li_in12 tyX12_ok nmX12 rfl rfl rfl rfl w_1418 ?_
            refine li_nm (fun M22 eM22 => ?_)
            have hf := li_fs_ui hf (Or.inl ⟨rfl, rfl⟩) eM22
            have hJ := J_pt14 hJ (show 0 ≤ (x21 : Int32).toInt ∧ (x21 : Int32).toInt ≤ 81 from ⟨(by omega), (by omega)⟩) eM22
            have rM22_12 := J_sl12 (M := M22) hJ
            have rM22_13 := J_sl13 (M := M22) hJ
            have rM22_14 := J_sl14 (M := M22) hJ
            have rM22_15 := J_sl15 (M := M22) hJ
            have mM22_12 : (M22.1 175 12).toInt = (M19.1 175 12).toInt := by rw [eM22, li_ui_at, if_pos rfl, if_neg (by decide)]
            have mM22_13 : (M22.1 175 13).toInt = (M19.1 175 13).toInt := by rw [eM22, li_ui_at, if_pos rfl, if_neg (by decide)]
            have mM22_14 : (M22.1 175 14).toInt = x21.toInt := by rw [eM22, li_ui_at, if_pos rfl, if_pos rfl]
            have mM22_15 : (M22.1 175 15).toInt = (M19.1 175 15).toInt := by rw [eM22, li_ui_at, if_pos rfl, if_neg (by decide)]
            have bM22 : M22.2.2 0 = some 180 := by rw [eM22]; exact bM19
            refine li_aload_n 2 dX12_sum_56 rfl ?_
            refine li_iload_n 3 dX12_sum_57 rfl ?_
            refine li_callV (n := 1) (As := [.int p1]) dX12_sum_58 (PR p1 M22 hJ bM22 ((congrArg li_by (funext fun i => hf.1 180 i ((fun i => (show ¬ ((180 = 175 ∧ i = 14) ∨ (180 = 175 ∧ i = 15)) by first | (simp; done) | omega)) i))).trans hhB) (by rw [show (M22.1 175 12).toInt = (M0.1 175 12).toInt from Int.le_antisymm (by omega) (by omega), show (M22.1 175 13).toInt = (M0.1 175 13).toInt from Int.le_antisymm (by omega) (by omega)]; exact he) (by omega) (by omega) (Int.le_antisymm (by omega) (by omega)) ⟨by omega, by omega⟩) (by omega) (Nat.le_of_ble_eq_true rfl) w_1633 w_1635 w_54 w_112 w_1636 (by decide +kernel) rfl (by decide) sh_175 rfl rfl (Nat.le_of_ble_eq_true rfl) (fun r M24 h25 => ?_)
            obtain ⟨⟨x23, rfl, qx23⟩, h25, jM24⟩ := h25
            have gx23 := tl_rg x23
            have hf := li_fs_trans hf h25 (fun i k => fun h => Or.elim h (fun h => Or.inl h) (fun h => Or.inr h))
            have hJ := jM24
            have rM24_12 := J_sl12 (M := M24) hJ
            have rM24_13 := J_sl13 (M := M24) hJ
            have rM24_14 := J_sl14 (M := M24) hJ
            have rM24_15 := J_sl15 (M := M24) hJ
            have mM24_12 : (M24.1 175 12).toInt = (M22.1 175 12).toInt := tl_slot (h25.1 175 12 (show ¬ ((175 = 175 ∧ 12 = 14) ∨ (175 = 175 ∧ 12 = 15)) by decide))
            have mM24_13 : (M24.1 175 13).toInt = (M22.1 175 13).toInt := tl_slot (h25.1 175 13 (show ¬ ((175 = 175 ∧ 13 = 14) ∨ (175 = 175 ∧ 13 = 15)) by decide))
            have bM24 : M24.2.2 0 = some 180 := (h25.2.2 0 (fun h9 => by first | exact (h9 : False).elim | (simp at h9; done) | omega)).trans bM22
            obtain ⟨okB, qB, rb, eb1, eb2, eb3, eb4⟩ := qx23
            refine li_istore [(4, .int x23), (3, .int x18), (2, .int x4), (0, .ref (Z.2.2 175)), (1, .int p1)] dX12_sum_61 (by decide) rfl ?_
            refine li_iload_n 1 dX12_sum_63 rfl ?_
            have J78 : ∀ (x27 : Int32) (M28 : li_M), li_fs (fun i k => (i = 175 ∧ k = 14) ∨ (i = 175 ∧ k = 15)) M0 M28 → li_J M28 → (M0.1 175 14).toInt ≤ (M28.1 175 14).toInt ∧ (M28.1 175 14).toInt ≤ e ∧ (M28.1 175 12).toInt = (M0.1 175 12).toInt ∧ (M28.1 175 13).toInt = (M0.1 175 13).toInt ∧ (M5.1 175 14).toInt + 1 ≤ (M28.1 175 14).toInt ∧ li_hd (((M28.1 175 15).toInt = -1 ∧ li_rk hB e 1 (p1.toInt) ((M0.1 175 14).toInt) 2 (p1.toInt) ((M28.1 175 14).toInt)) ∨ (¬ (M28.1 175 15).toInt = -1 ∧ (M28.1 175 15).toInt = (M28.1 175 14).toInt ∧ rpr hB e 1 (p1.toInt) ((M0.1 175 14).toInt) 0 ((M28.1 175 14).toInt))) → M28.2.2 0 = some 180 → li_T l Z YX12_sum d 78 [(4, .int x23), (3, .int x18), (2, .int x4), (0, .ref (Z.2.2 175)), (1, .int p1)] [.int x27] M28 (fun r M' => (∃ x : Int32, r = some (.int x) ∧ (∃ ok q : Int, rpr hB e 1 (p1.toInt) ((M0.1 175 14).toInt) ok q ∧ (M'.1 175 14).toInt = q ∧ (M0.1 175 14).toInt ≤ q ∧ q ≤ e ∧ ((ok = 1 ∧ (M'.1 175 15).toInt = -1) ∨ (ok = 0 ∧ (M'.1 175 15).toInt = q)))) ∧ li_fs (fun i k => (i = 175 ∧ k = 14) ∨ (i = 175 ∧ k = 15)) M0 M' ∧ li_J M') := by
              try clear okB
              try clear qB
              try clear rb
              try clear eb1
              try clear eb2
              try clear eb3
              try clear eb4
              try clear bM24
              try clear mM24_13
              try clear mM24_12
              try clear rM24_15
              try clear rM24_14
              try clear rM24_13
              try clear rM24_12
              try clear qx23
              try clear h25
              try clear jM24
              try clear bM22
              try clear mM22_15
              try clear mM22_14
              try clear mM22_13
              try clear mM22_12
              try clear rM22_15
              try clear rM22_14
              try clear rM22_13
              try clear rM22_12
              try clear eM22
              try clear tx21
              try clear ex21
              try clear mx20
              try clear gx20
              try clear ex20
              try clear lt45
              try clear k0
              try clear k1
              try clear k2
              try clear k3
              try clear k4
              try clear k6
              try clear k9
              try clear kC
              try clear mM19_13
              try clear mM19_12
              try clear rM19_15
              try clear rM19_14
              try clear rM19_13
              try clear rM19_12
              try clear bM15
              try clear mM15_15
              try clear mM15_14
              try clear mM15_13
              try clear mM15_12
              try clear rM15_15
              try clear rM15_14
              try clear rM15_13
              try clear rM15_12
              try clear kM15
              try clear gx14
              try clear qx14
              try clear h16
              try clear jM15
              try clear cCq
              try clear tc13
              try clear h14x
              try clear bM11
              try clear mM11_15
              try clear mM11_14
              try clear mM11_13
              try clear mM11_12
              try clear rM11_15
              try clear rM11_14
              try clear rM11_13
              try clear rM11_12
              try clear kM11
              try clear gx10
              try clear qx10
              try clear h12
              try clear jM11
              try clear ch14
              try clear rkq
              try clear hA1
              try clear c
              try clear bM7
              try clear mM7_15
              try clear mM7_14
              try clear mM7_13
              try clear mM7_12
              try clear rM7_15
              try clear rM7_14
              try clear rM7_13
              try clear rM7_12
              try clear kM7
              try clear qx6
              try clear h8
              try clear jM7
              try clear i0
              try clear i1
              try clear i2
              try clear i3
              try clear i4
              try clear mM5_13
              try clear mM5_12
              try clear rM5_15
              try clear rM5_14
              try clear rM5_13
              try clear rM5_12
              try clear okA
              try clear qA
              try clear ra
              try clear ea1
              try clear ea2
              try clear ea3
              try clear ea4
              try clear bM2
              try clear mM2_13
              try clear mM2_12
              try clear rM2_15
              try clear rM2_14
              try clear rM2_13
              try clear rM2_12
              try clear gx1
              try clear qx1
              try clear h3
              try clear jM2
              try clear rM0_15
              try clear rM0_14
              try clear rM0_13
              try clear rM0_12
              try clear hi
              try clear hi
              intro x27 M28 hf hJ hi bM28
              have gx27 := tl_rg x27
              have rM28_12 := J_sl12 (M := M28) hJ
              have rM28_13 := J_sl13 (M := M28) hJ
              have rM28_14 := J_sl14 (M := M28) hJ
              have rM28_15 := J_sl15 (M := M28) hJ
              have mM28_12 : (M28.1 175 12).toInt = (M0.1 175 12).toInt := tl_slot (hf.1 175 12 (show ¬ ((175 = 175 ∧ 12 = 14) ∨ (175 = 175 ∧ 12 = 15)) by decide))
              have mM28_13 : (M28.1 175 13).toInt = (M0.1 175 13).toInt := tl_slot (hf.1 175 13 (show ¬ ((175 = 175 ∧ 13 = 14) ∨ (175 = 175 ∧ 13 = 15)) by decide))
              obtain ⟨k0, k1, k2, k3, k4, k5⟩ := hi
              refine li_istore_n [(2, .int x27), (4, .int x23), (3, .int x18), (0, .ref (Z.2.2 175)), (1, .int p1)] dX12_sum_78 (by decide) rfl ?_
              refine li_goto 6 dX12_sum_79 (by decide) ?_
              refine li_pick [0, 3, 4] [(2, .int x27), (0, .ref (Z.2.2 175)), (1, .int p1)] rfl ?_
              exact ih6 x27 M28 (by omega) hf hJ ⟨(by omega), (by omega), (Int.le_antisymm (by omega) (by omega)), (Int.le_antisymm (by omega) (by omega)), (by first | (exact Or.elim k5 (fun c => Or.inl ⟨c.1, c.2⟩) (fun c => Or.inr c)) | (rcases ea4 with c | c; exact Or.inl ⟨c.2, rk_to (rk_2 (rp_to ra rfl rfl c.1.symm rfl)) (Int.le_antisymm (by omega) (by omega))⟩; exact Or.inr ⟨by omega, Int.le_antisymm (by omega) (by omega), rk_1f (rp_to ra rfl rfl c.1.symm (Int.le_antisymm (by omega) (by omega)))⟩))⟩ bM28
            refine li_if_eq 74 dX12_sum_64 (by decide) (fun c26 => ?_) (fun c26 => ?_)
            · have tc26 : x18.toInt = 0 := tl_eq c26
              refine li_iload_n 2 dX12_sum_74 rfl ?_
              refine li_iload 0 dX12_sum_75 rfl ?_
              refine li_isub dX12_sum_77 ?_
              refine li_top (fun x29 ex29 => ?_)
              try (have tx29 : x29.toInt = (x4 : Int32).toInt - (x23 : Int32).toInt := tl_sub ex29 ⟨by omega, by omega⟩)
              refine li_pick [0, 1, 2, 3, 4] [(4, .int x23), (3, .int x18), (2, .int x4), (0, .ref (Z.2.2 175)), (1, .int p1)] rfl ?_
              exact J78 x29 M24 hf hJ ⟨(by omega), (by omega), (Int.le_antisymm (by omega) (by omega)), (Int.le_antisymm (by omega) (by omega)), (by omega), (by first | (rcases eb4 with c | c; exact Or.inl ⟨c.2, rk_to (rk_2s k9 kC (rp_to rb rfl (Int.le_antisymm (by omega) (by omega)) c.1.symm rfl)) (Int.le_antisymm (by omega) (by omega))⟩; exact Or.inr ⟨by omega, Int.le_antisymm (by omega) (by omega), rp_to (rk_2f k9 kC (rp_to rb rfl (Int.le_antisymm (by omega) (by omega)) c.1.symm rfl)) rfl rfl rfl (Int.le_antisymm (by omega) (by omega))⟩))⟩ bM24
            · have tc26 : ¬ x18.toInt = 0 := tl_ne c26
              refine li_iload_n 2 dX12_sum_67 rfl ?_
              refine li_iload 0 dX12_sum_68 rfl ?_
              refine li_iadd dX12_sum_70 ?_
              refine li_top (fun x30 ex30 => ?_)
              try (have tx30 : x30.toInt = (x4 : Int32).toInt + (x23 : Int32).toInt := tl_add ex30 ⟨by omega, by omega⟩)
              refine li_goto 78 dX12_sum_71 (by decide) ?_
              refine li_pick [0, 1, 2, 3, 4] [(4, .int x23), (3, .int x18), (2, .int x4), (0, .ref (Z.2.2 175)), (1, .int p1)] rfl ?_
              exact J78 x30 M24 hf hJ ⟨(by omega), (by omega), (Int.le_antisymm (by omega) (by omega)), (Int.le_antisymm (by omega) (by omega)), (by omega), (by first | (rcases eb4 with c | c; exact Or.inl ⟨c.2, rk_to (rk_2s k9 kC (rp_to rb rfl (Int.le_antisymm (by omega) (by omega)) c.1.symm rfl)) (Int.le_antisymm (by omega) (by omega))⟩; exact Or.inr ⟨by omega, Int.le_antisymm (by omega) (by omega), rp_to (rk_2f k9 kC (rp_to rb rfl (Int.le_antisymm (by omega) (by omega)) c.1.symm rfl)) rfl rfl rfl (Int.le_antisymm (by omega) (by omega))⟩))⟩ bM24
          refine li_icmp_ne 44 dX12_sum_37 (by decide) (fun c17 => ?_) (fun c17 => ?_)
          · have tc17 : ¬ x14.toInt = 43 := tl_ne c17
            refine li_iconst 0 dX12_sum_44 (by decide) ?_
            refine li_pick [0, 1, 2] [(2, .int x4), (0, .ref (Z.2.2 175)), (1, .int p1)] rfl ?_
            have z0 : (0 : Int32).toInt = 0 := rfl
            exact J45 0 M15 hf hJ ⟨(by omega), (Int.le_antisymm (by omega) (by omega)), (Int.le_antisymm (by omega) (by omega)), (Int.le_antisymm (by omega) (by omega)), (Int.le_antisymm (by omega) (by omega)), (by omega), (rk_to rkq (Int.le_antisymm (by omega) (by omega))), (by exact rp_mv2 cCq (Int.le_antisymm (by omega) (by omega)))⟩ bM15
          · have tc17 : x14.toInt = 43 := tl_eq c17
            refine li_iconst 1 dX12_sum_40 (by decide) ?_
            refine li_goto 45 dX12_sum_41 (by decide) ?_
            refine li_pick [0, 1, 2] [(2, .int x4), (0, .ref (Z.2.2 175)), (1, .int p1)] rfl ?_
            have z1 : (1 : Int32).toInt = 1 := rfl
            exact J45 1 M15 hf hJ ⟨(by omega), (Int.le_antisymm (by omega) (by omega)), (Int.le_antisymm (by omega) (by omega)), (Int.le_antisymm (by omega) (by omega)), (Int.le_antisymm (by omega) (by omega)), (by omega), (rk_to rkq (Int.le_antisymm (by omega) (by omega))), (by exact rp_mv2 cCq (Int.le_antisymm (by omega) (by omega)))⟩ bM15
        · have tc13 : ¬ x10.toInt = 43 := tl_ne c13
          refine li_aload_n 1 dX12_sum_22 rfl ?_
          have ch23 : (li_hr M11).toInt = rd_ch hB e (A1) := (hr_pt bM11 (by omega) rfl (by rw [show (M11.1 175 12).toInt = (M0.1 175 12).toInt from Int.le_antisymm (by omega) (by omega), show (M11.1 175 13).toInt = (M0.1 175 13).toInt from Int.le_antisymm (by omega) (by omega)]; exact he) (Int.le_antisymm (by omega) (by omega))).trans (congrArg (fun z => rd_ch z e (A1)) ((congrArg li_by (funext fun i => hf.1 180 i ((fun i => (show ¬ ((180 = 175 ∧ i = 14) ∨ (180 = 175 ∧ i = 15)) by first | (simp; done) | omega)) i))).trans hhB))
          refine li_callV (n := 0) (As := []) dX12_sum_23 (k_X12_here (d - 1) (by omega)  M11 hJ ) (by omega) (Nat.le_of_ble_eq_true rfl) w_1597 w_1599 w_47 w_112 w_1600 (by decide +kernel) rfl (by decide) sh_175 rfl rfl (Nat.le_of_ble_eq_true rfl) (fun r M32 h33 => ?_)
          obtain ⟨⟨x31, rfl, qx31⟩, h33, jM32⟩ := h33
          have gx31 := tl_rg x31
          have hf := li_fs_trans hf h33 (fun i k h => False.elim h)
          have kM32 : (li_hr M32).toInt = (li_hr M11).toInt := li_hr_fs h33 id id id id (fun _ _ _ => id) (by assumption)
          have hJ := jM32
          have rM32_12 := J_sl12 (M := M32) hJ
          have rM32_13 := J_sl13 (M := M32) hJ
          have rM32_14 := J_sl14 (M := M32) hJ
          have rM32_15 := J_sl15 (M := M32) hJ
          have mM32_12 : (M32.1 175 12).toInt = (M11.1 175 12).toInt := tl_slot (h33.1 175 12 id)
          have mM32_13 : (M32.1 175 13).toInt = (M11.1 175 13).toInt := tl_slot (h33.1 175 13 id)
          have mM32_14 : (M32.1 175 14).toInt = (M11.1 175 14).toInt := tl_slot (h33.1 175 14 id)
          have mM32_15 : (M32.1 175 15).toInt = (M11.1 175 15).toInt := tl_slot (h33.1 175 15 id)
          have bM32 : M32.2.2 0 = some 180 := (h33.2.2 0 (fun h9 => by first | exact (h9 : False).elim | (simp at h9; done) | omega)).trans bM11
          have h23x : x31.toInt = rd_ch hB e A1 := Int.le_antisymm (by omega) (by omega)
          refine li_bipush 45 dX12_sum_26 (by decide) ?_
          refine li_icmp_ne 82 dX12_sum_28 (by decide) (fun c34 => ?_) (fun c34 => ?_)
          · have tc34 : ¬ x31.toInt = 45 := tl_ne c34
            have fin : ∃ ok q : Int, rpr hB e 1 (p1.toInt) ((M0.1 175 14).toInt) ok q ∧ (M32.1 175 14).toInt = q ∧ (M0.1 175 14).toInt ≤ q ∧ q ≤ e ∧ ((ok = 1 ∧ (M32.1 175 15).toInt = -1) ∨ (ok = 0 ∧ (M32.1 175 15).toInt = q)) := by
              first | (have nCq : ¬ rp_add (rd_ch hB e A1) := by unfold rp_add; omega) | skip
              first | exact ⟨1, A1, rk_2e rkq nCq, Int.le_antisymm (by omega) (by omega), by omega, by omega, Or.inl ⟨rfl, Int.le_antisymm (by omega) (by omega)⟩⟩ | (rcases i4 with c | c; exact absurd c.1 (by omega); exact ⟨0, _, rp_to c.2.2 rfl (Int.le_antisymm (by omega) (by omega)) rfl rfl, rfl, by omega, by omega, Or.inr ⟨rfl, Int.le_antisymm (by omega) (by omega)⟩⟩)
            refine li_iload_n 0 dX12_sum_82 rfl ?_
            exact li_iret dX12_sum_83 rfl rfl ⟨⟨_, rfl, (by exact fin)⟩, hf, hJ⟩
          · have tc34 : x31.toInt = 45 := tl_eq c34
            have cCq : rp_add (rd_ch hB e A1) := by unfold rp_add; omega
            refine li_aload_n 1 dX12_sum_31 rfl ?_
            refine li_callV (n := 0) (As := []) dX12_sum_32 (k_X12_here (d - 1) (by omega)  M32 hJ ) (by omega) (Nat.le_of_ble_eq_true rfl) w_1597 w_1599 w_47 w_112 w_1600 (by decide +kernel) rfl (by decide) sh_175 rfl rfl (Nat.le_of_ble_eq_true rfl) (fun r M36 h37 => ?_)
            obtain ⟨⟨x35, rfl, qx35⟩, h37, jM36⟩ := h37
            have gx35 := tl_rg x35
            have hf := li_fs_trans hf h37 (fun i k h => False.elim h)
            have kM36 : (li_hr M36).toInt = (li_hr M32).toInt := li_hr_fs h37 id id id id (fun _ _ _ => id) (by assumption)
            have hJ := jM36
            have rM36_12 := J_sl12 (M := M36) hJ
            have rM36_13 := J_sl13 (M := M36) hJ
            have rM36_14 := J_sl14 (M := M36) hJ
            have rM36_15 := J_sl15 (M := M36) hJ
            have mM36_12 : (M36.1 175 12).toInt = (M32.1 175 12).toInt := tl_slot (h37.1 175 12 id)
            have mM36_13 : (M36.1 175 13).toInt = (M32.1 175 13).toInt := tl_slot (h37.1 175 13 id)
            have mM36_14 : (M36.1 175 14).toInt = (M32.1 175 14).toInt := tl_slot (h37.1 175 14 id)
            have mM36_15 : (M36.1 175 15).toInt = (M32.1 175 15).toInt := tl_slot (h37.1 175 15 id)
            have bM36 : M36.2.2 0 = some 180 := (h37.2.2 0 (fun h9 => by first | exact (h9 : False).elim | (simp at h9; done) | omega)).trans bM32
            refine li_bipush 43 dX12_sum_35 (by decide) ?_
            have J45 : ∀ (x39 : Int32) (M40 : li_M), li_fs (fun i k => (i = 175 ∧ k = 14) ∨ (i = 175 ∧ k = 15)) M0 M40 → li_J M40 → (M0.1 175 14).toInt ≤ (M40.1 175 14).toInt ∧ (M5.1 175 14).toInt = (M40.1 175 14).toInt ∧ (M40.1 175 12).toInt = (M0.1 175 12).toInt ∧ (M40.1 175 13).toInt = (M0.1 175 13).toInt ∧ (M40.1 175 15).toInt = -1 ∧ (M40.1 175 14).toInt ≤ e ∧ li_rk hB e 1 (p1.toInt) ((M0.1 175 14).toInt) 2 (p1.toInt) ((M40.1 175 14).toInt) ∧ rp_add (rd_ch hB e ((M40.1 175 14).toInt)) → M40.2.2 0 = some 180 → li_T l Z YX12_sum d 45 [(2, .int x4), (0, .ref (Z.2.2 175)), (1, .int p1)] [.int x39] M40 (fun r M' => (∃ x : Int32, r = some (.int x) ∧ (∃ ok q : Int, rpr hB e 1 (p1.toInt) ((M0.1 175 14).toInt) ok q ∧ (M'.1 175 14).toInt = q ∧ (M0.1 175 14).toInt ≤ q ∧ q ≤ e ∧ ((ok = 1 ∧ (M'.1 175 15).toInt = -1) ∨ (ok = 0 ∧ (M'.1 175 15).toInt = q)))) ∧ li_fs (fun i k => (i = 175 ∧ k = 14) ∨ (i = 175 ∧ k = 15)) M0 M' ∧ li_J M') := by
              try clear bM36
              try clear mM36_15
              try clear mM36_14
              try clear mM36_13
              try clear mM36_12
              try clear rM36_15
              try clear rM36_14
              try clear rM36_13
              try clear rM36_12
              try clear kM36
              try clear gx35
              try clear qx35
              try clear h37
              try clear jM36
              try clear cCq
              try clear tc34
              try clear fin
              try clear c34
              try clear h23x
              try clear bM32
              try clear mM32_15
              try clear mM32_14
              try clear mM32_13
              try clear mM32_12
              try clear rM32_15
              try clear rM32_14
              try clear rM32_13
              try clear rM32_12
              try clear kM32
              try clear gx31
              try clear qx31
              try clear h33
              try clear jM32
              try clear ch23
              try clear tc13
              try clear c17
              try clear bM15
              try clear mM15_15
              try clear mM15_14
              try clear mM15_13
              try clear mM15_12
              try clear rM15_15
              try clear rM15_14
              try clear rM15_13
              try clear rM15_12
              try clear kM15
              try clear gx14
              try clear qx14
              try clear h16
              try clear jM15
              try clear c13
              try clear h14x
              try clear bM11
              try clear mM11_15
              try clear mM11_14
              try clear mM11_13
              try clear mM11_12
              try clear rM11_15
              try clear rM11_14
              try clear rM11_13
              try clear rM11_12
              try clear kM11
              try clear gx10
              try clear qx10
              try clear h12
              try clear jM11
              try clear ch14
              try clear rkq
              try clear hA1
              try clear c
              try clear bM7
              try clear mM7_15
              try clear mM7_14
              try clear mM7_13
              try clear mM7_12
              try clear rM7_15
              try clear rM7_14
              try clear rM7_13
              try clear rM7_12
              try clear kM7
              try clear qx6
              try clear h8
              try clear jM7
              try clear i0
              try clear i1
              try clear i2
              try clear i3
              try clear i4
              try clear mM5_13
              try clear mM5_12
              try clear rM5_15
              try clear rM5_14
              try clear rM5_13
              try clear rM5_12
              try clear okA
              try clear qA
              try clear ra
              try clear ea1
              try clear ea2
              try clear ea3
              try clear ea4
              try clear bM2
              try clear mM2_13
              try clear mM2_12
              try clear rM2_15
              try clear rM2_14
              try clear rM2_13
              try clear rM2_12
              try clear gx1
              try clear qx1
              try clear h3
              try clear jM2
              try clear rM0_15
              try clear rM0_14
              try clear rM0_13
              try clear rM0_12
              try clear hi
              intro x39 M40 hf hJ hi bM40
              have gx39 := tl_rg x39
              have rM40_12 := J_sl12 (M := M40) hJ
              have rM40_13 := J_sl13 (M := M40) hJ
              have rM40_14 := J_sl14 (M := M40) hJ
              have rM40_15 := J_sl15 (M := M40) hJ
              have mM40_12 : (M40.1 175 12).toInt = (M0.1 175 12).toInt := tl_slot (hf.1 175 12 (show ¬ ((175 = 175 ∧ 12 = 14) ∨ (175 = 175 ∧ 12 = 15)) by decide))
              have mM40_13 : (M40.1 175 13).toInt = (M0.1 175 13).toInt := tl_slot (hf.1 175 13 (show ¬ ((175 = 175 ∧ 13 = 14) ∨ (175 = 175 ∧ 13 = 15)) by decide))
              obtain ⟨k0, k1, k2, k3, k4, k6, k9, kC⟩ := hi
              have lt45 := rd_lt (rp_add_nn kC)
              refine li_istore_n [(3, .int x39), (2, .int x4), (0, .ref (Z.2.2 175)), (1, .int p1)] dX12_sum_45 (by decide) rfl ?_
              refine li_aload_n 2 dX12_sum_46 rfl ?_
              refine li_dup dX12_sum_47 rfl ?_
              refine li_geti (k := 14) (N := 52) (T := TX12) (C0 := RX12) dX12_sum_48 (by decide) sh_175 rfl rfl (by decide) li_in12 w_1418 ?_
              refine li_top (fun x41 ex41 => ?_)
              have gx41 : 0 ≤ x41.toInt ∧ x41.toInt ≤ 81 := by rw [ex41]; exact J_sl14 hJ
              have mx41 : x41.toInt = (M40.1 175 14).toInt := tl_slot ex41
              refine li_iconst 1 dX12_sum_51 (by decide) ?_
              refine li_iadd dX12_sum_52 ?_
              refine li_top (fun x42 ex42 => ?_)
              have z1 : (1 : Int32).toInt = 1 := rfl
              try (have tx42 : x42.toInt = (x41 : Int32).toInt + (1 : Int32).toInt := tl_add ex42 ⟨by omega, by omega⟩)
              refine li_puti (k := 14) (N := 52) (T := TX12) (C0 := RX12) dX12_sum_53 (by decide) sh_175 rfl rfl (by decide) li_in12 tyX12_ok nmX12 rfl rfl rfl rfl w_1418 ?_
              refine li_nm (fun M43 eM43 => ?_)
              have hf := li_fs_ui hf (Or.inl ⟨rfl, rfl⟩) eM43
              have hJ := J_pt14 hJ (show 0 ≤ (x42 : Int32).toInt ∧ (x42 : Int32).toInt ≤ 81 from ⟨(by omega), (by omega)⟩) eM43
              have rM43_12 := J_sl12 (M := M43) hJ
              have rM43_13 := J_sl13 (M := M43) hJ
              have rM43_14 := J_sl14 (M := M43) hJ
              have rM43_15 := J_sl15 (M := M43) hJ
              have mM43_12 : (M43.1 175 12).toInt = (M40.1 175 12).toInt := by rw [eM43, li_ui_at, if_pos rfl, if_neg (by decide)]
              have mM43_13 : (M43.1 175 13).toInt = (M40.1 175 13).toInt := by rw [eM43, li_ui_at, if_pos rfl, if_neg (by decide)]
              have mM43_14 : (M43.1 175 14).toInt = x42.toInt := by rw [eM43, li_ui_at, if_pos rfl, if_pos rfl]
              have mM43_15 : (M43.1 175 15).toInt = (M40.1 175 15).toInt := by rw [eM43, li_ui_at, if_pos rfl, if_neg (by decide)]
              have bM43 : M43.2.2 0 = some 180 := by rw [eM43]; exact bM40
              refine li_aload_n 2 dX12_sum_56 rfl ?_
              refine li_iload_n 3 dX12_sum_57 rfl ?_
              refine li_callV (n := 1) (As := [.int p1]) dX12_sum_58 (PR p1 M43 hJ bM43 ((congrArg li_by (funext fun i => hf.1 180 i ((fun i => (show ¬ ((180 = 175 ∧ i = 14) ∨ (180 = 175 ∧ i = 15)) by first | (simp; done) | omega)) i))).trans hhB) (by rw [show (M43.1 175 12).toInt = (M0.1 175 12).toInt from Int.le_antisymm (by omega) (by omega), show (M43.1 175 13).toInt = (M0.1 175 13).toInt from Int.le_antisymm (by omega) (by omega)]; exact he) (by omega) (by omega) (Int.le_antisymm (by omega) (by omega)) ⟨by omega, by omega⟩) (by omega) (Nat.le_of_ble_eq_true rfl) w_1633 w_1635 w_54 w_112 w_1636 (by decide +kernel) rfl (by decide) sh_175 rfl rfl (Nat.le_of_ble_eq_true rfl) (fun r M45 h46 => ?_)
              obtain ⟨⟨x44, rfl, qx44⟩, h46, jM45⟩ := h46
              have gx44 := tl_rg x44
              have hf := li_fs_trans hf h46 (fun i k => fun h => Or.elim h (fun h => Or.inl h) (fun h => Or.inr h))
              have hJ := jM45
              have rM45_12 := J_sl12 (M := M45) hJ
              have rM45_13 := J_sl13 (M := M45) hJ
              have rM45_14 := J_sl14 (M := M45) hJ
              have rM45_15 := J_sl15 (M := M45) hJ
              have mM45_12 : (M45.1 175 12).toInt = (M43.1 175 12).toInt := tl_slot (h46.1 175 12 (show ¬ ((175 = 175 ∧ 12 = 14) ∨ (175 = 175 ∧ 12 = 15)) by decide))
              have mM45_13 : (M45.1 175 13).toInt = (M43.1 175 13).toInt := tl_slot (h46.1 175 13 (show ¬ ((175 = 175 ∧ 13 = 14) ∨ (175 = 175 ∧ 13 = 15)) by decide))
              have bM45 : M45.2.2 0 = some 180 := (h46.2.2 0 (fun h9 => by first | exact (h9 : False).elim | (simp at h9; done) | omega)).trans bM43
              obtain ⟨okB, qB, rb, eb1, eb2, eb3, eb4⟩ := qx44
              refine li_istore [(4, .int x44), (3, .int x39), (2, .int x4), (0, .ref (Z.2.2 175)), (1, .int p1)] dX12_sum_61 (by decide) rfl ?_
              refine li_iload_n 1 dX12_sum_63 rfl ?_
              have J78 : ∀ (x48 : Int32) (M49 : li_M), li_fs (fun i k => (i = 175 ∧ k = 14) ∨ (i = 175 ∧ k = 15)) M0 M49 → li_J M49 → (M0.1 175 14).toInt ≤ (M49.1 175 14).toInt ∧ (M49.1 175 14).toInt ≤ e ∧ (M49.1 175 12).toInt = (M0.1 175 12).toInt ∧ (M49.1 175 13).toInt = (M0.1 175 13).toInt ∧ (M5.1 175 14).toInt + 1 ≤ (M49.1 175 14).toInt ∧ li_hd (((M49.1 175 15).toInt = -1 ∧ li_rk hB e 1 (p1.toInt) ((M0.1 175 14).toInt) 2 (p1.toInt) ((M49.1 175 14).toInt)) ∨ (¬ (M49.1 175 15).toInt = -1 ∧ (M49.1 175 15).toInt = (M49.1 175 14).toInt ∧ rpr hB e 1 (p1.toInt) ((M0.1 175 14).toInt) 0 ((M49.1 175 14).toInt))) → M49.2.2 0 = some 180 → li_T l Z YX12_sum d 78 [(4, .int x44), (3, .int x39), (2, .int x4), (0, .ref (Z.2.2 175)), (1, .int p1)] [.int x48] M49 (fun r M' => (∃ x : Int32, r = some (.int x) ∧ (∃ ok q : Int, rpr hB e 1 (p1.toInt) ((M0.1 175 14).toInt) ok q ∧ (M'.1 175 14).toInt = q ∧ (M0.1 175 14).toInt ≤ q ∧ q ≤ e ∧ ((ok = 1 ∧ (M'.1 175 15).toInt = -1) ∨ (ok = 0 ∧ (M'.1 175 15).toInt = q)))) ∧ li_fs (fun i k => (i = 175 ∧ k = 14) ∨ (i = 175 ∧ k = 15)) M0 M' ∧ li_J M') := by
                try clear okB
                try clear qB
                try clear rb
                try clear eb1
                try clear eb2
                try clear eb3
                try clear eb4
                try clear bM45
                try clear mM45_13
                try clear mM45_12
                try clear rM45_15
                try clear rM45_14
                try clear rM45_13
                try clear rM45_12
                try clear qx44
                try clear h46
                try clear jM45
                try clear bM43
                try clear mM43_15
                try clear mM43_14
                try clear mM43_13
                try clear mM43_12
                try clear rM43_15
                try clear rM43_14
                try clear rM43_13
                try clear rM43_12
                try clear eM43
                try clear tx42
                try clear ex42
                try clear mx41
                try clear gx41
                try clear ex41
                try clear lt45
                try clear k0
                try clear k1
                try clear k2
                try clear k3
                try clear k4
                try clear k6
                try clear k9
                try clear kC
                try clear mM40_13
                try clear mM40_12
                try clear rM40_15
                try clear rM40_14
                try clear rM40_13
                try clear rM40_12
                try clear bM36
                try clear mM36_15
                try clear mM36_14
                try clear mM36_13
                try clear mM36_12
                try clear rM36_15
                try clear rM36_14
                try clear rM36_13
                try clear rM36_12
                try clear kM36
                try clear gx35
                try clear qx35
                try clear h37
                try clear jM36
                try clear cCq
                try clear tc34
                try clear fin
                try clear c34
                try clear h23x
                try clear bM32
                try clear mM32_15
                try clear mM32_14
                try clear mM32_13
                try clear mM32_12
                try clear rM32_15
                try clear rM32_14
                try clear rM32_13
                try clear rM32_12
                try clear kM32
                try clear gx31
                try clear qx31
                try clear h33
                try clear jM32
                try clear ch23
                try clear tc13
                try clear c17
                try clear bM15
                try clear mM15_15
                try clear mM15_14
                try clear mM15_13
                try clear mM15_12
                try clear rM15_15
                try clear rM15_14
                try clear rM15_13
                try clear rM15_12
                try clear kM15
                try clear gx14
                try clear qx14
                try clear h16
                try clear jM15
                try clear c13
                try clear h14x
                try clear bM11
                try clear mM11_15
                try clear mM11_14
                try clear mM11_13
                try clear mM11_12
                try clear rM11_15
                try clear rM11_14
                try clear rM11_13
                try clear rM11_12
                try clear kM11
                try clear gx10
                try clear qx10
                try clear h12
                try clear jM11
                try clear ch14
                try clear rkq
                try clear hA1
                try clear c
                try clear bM7
                try clear mM7_15
                try clear mM7_14
                try clear mM7_13
                try clear mM7_12
                try clear rM7_15
                try clear rM7_14
                try clear rM7_13
                try clear rM7_12
                try clear kM7
                try clear qx6
                try clear h8
                try clear jM7
                try clear i0
                try clear i1
                try clear i2
                try clear i3
                try clear i4
                try clear mM5_13
                try clear mM5_12
                try clear rM5_15
                try clear rM5_14
                try clear rM5_13
                try clear rM5_12
                try clear okA
                try clear qA
                try clear ra
                try clear ea1
                try clear ea2
                try clear ea3
                try clear ea4
                try clear bM2
                try clear mM2_13
                try clear mM2_12
                try clear rM2_15
                try clear rM2_14
                try clear rM2_13
                try clear rM2_12
                try clear gx1
                try clear qx1
                try clear h3
                try clear jM2
                try clear rM0_15
                try clear rM0_14
                try clear rM0_13
                try clear rM0_12
                try clear hi
                try clear hi
                intro x48 M49 hf hJ hi bM49
                have gx48 := tl_rg x48
                have rM49_12 := J_sl12 (M := M49) hJ
                have rM49_13 := J_sl13 (M := M49) hJ
                have rM49_14 := J_sl14 (M := M49) hJ
                have rM49_15 := J_sl15 (M := M49) hJ
                have mM49_12 : (M49.1 175 12).toInt = (M0.1 175 12).toInt := tl_slot (hf.1 175 12 (show ¬ ((175 = 175 ∧ 12 = 14) ∨ (175 = 175 ∧ 12 = 15)) by decide))
                have mM49_13 : (M49.1 175 13).toInt = (M0.1 175 13).toInt := tl_slot (hf.1 175 13 (show ¬ ((175 = 175 ∧ 13 = 14) ∨ (175 = 175 ∧ 13 = 15)) by decide))
                obtain ⟨k0, k1, k2, k3, k4, k5⟩ := hi
                refine li_istore_n [(2, .int x48), (4, .int x44), (3, .int x39), (0, .ref (Z.2.2 175)), (1, .int p1)] dX12_sum_78 (by decide) rfl ?_
                refine li_goto 6 dX12_sum_79 (by decide) ?_
                refine li_pick [0, 3, 4] [(2, .int x48), (0, .ref (Z.2.2 175)), (1, .int p1)] rfl ?_
                exact ih6 x48 M49 (by omega) hf hJ ⟨(by omega), (by omega), (Int.le_antisymm (by omega) (by omega)), (Int.le_antisymm (by omega) (by omega)), (by first | (exact Or.elim k5 (fun c => Or.inl ⟨c.1, c.2⟩) (fun c => Or.inr c)) | (rcases ea4 with c | c; exact Or.inl ⟨c.2, rk_to (rk_2 (rp_to ra rfl rfl c.1.symm rfl)) (Int.le_antisymm (by omega) (by omega))⟩; exact Or.inr ⟨by omega, Int.le_antisymm (by omega) (by omega), rk_1f (rp_to ra rfl rfl c.1.symm (Int.le_antisymm (by omega) (by omega)))⟩))⟩ bM49
              refine li_if_eq 74 dX12_sum_64 (by decide) (fun c47 => ?_) (fun c47 => ?_)
              · have tc47 : x39.toInt = 0 := tl_eq c47
                refine li_iload_n 2 dX12_sum_74 rfl ?_
                refine li_iload 0 dX12_sum_75 rfl ?_
                refine li_isub dX12_sum_77 ?_
                refine li_top (fun x50 ex50 => ?_)
                try (have tx50 : x50.toInt = (x4 : Int32).toInt - (x44 : Int32).toInt := tl_sub ex50 ⟨by omega, by omega⟩)
                refine li_pick [0, 1, 2, 3, 4] [(4, .int x44), (3, .int x39), (2, .int x4), (0, .ref (Z.2.2 175)), (1, .int p1)] rfl ?_
                exact J78 x50 M45 hf hJ ⟨(by omega), (by omega), (Int.le_antisymm (by omega) (by omega)), (Int.le_antisymm (by omega) (by omega)), (by omega), (by first | (rcases eb4 with c | c; exact Or.inl ⟨c.2, rk_to (rk_2s k9 kC (rp_to rb rfl (Int.le_antisymm (by omega) (by omega)) c.1.symm rfl)) (Int.le_antisymm (by omega) (by omega))⟩; exact Or.inr ⟨by omega, Int.le_antisymm (by omega) (by omega), rp_to (rk_2f k9 kC (rp_to rb rfl (Int.le_antisymm (by omega) (by omega)) c.1.symm rfl)) rfl rfl rfl (Int.le_antisymm (by omega) (by omega))⟩))⟩ bM45
              · have tc47 : ¬ x39.toInt = 0 := tl_ne c47
                refine li_iload_n 2 dX12_sum_67 rfl ?_
                refine li_iload 0 dX12_sum_68 rfl ?_
                refine li_iadd dX12_sum_70 ?_
                refine li_top (fun x51 ex51 => ?_)
                try (have tx51 : x51.toInt = (x4 : Int32).toInt + (x44 : Int32).toInt := tl_add ex51 ⟨by omega, by omega⟩)
                refine li_goto 78 dX12_sum_71 (by decide) ?_
                refine li_pick [0, 1, 2, 3, 4] [(4, .int x44), (3, .int x39), (2, .int x4), (0, .ref (Z.2.2 175)), (1, .int p1)] rfl ?_
                exact J78 x51 M45 hf hJ ⟨(by omega), (by omega), (Int.le_antisymm (by omega) (by omega)), (Int.le_antisymm (by omega) (by omega)), (by omega), (by first | (rcases eb4 with c | c; exact Or.inl ⟨c.2, rk_to (rk_2s k9 kC (rp_to rb rfl (Int.le_antisymm (by omega) (by omega)) c.1.symm rfl)) (Int.le_antisymm (by omega) (by omega))⟩; exact Or.inr ⟨by omega, Int.le_antisymm (by omega) (by omega), rp_to (rk_2f k9 kC (rp_to rb rfl (Int.le_antisymm (by omega) (by omega)) c.1.symm rfl)) rfl rfl rfl (Int.le_antisymm (by omega) (by omega))⟩))⟩ bM45
            refine li_icmp_ne 44 dX12_sum_37 (by decide) (fun c38 => ?_) (fun c38 => ?_)
            · have tc38 : ¬ x35.toInt = 43 := tl_ne c38
              refine li_iconst 0 dX12_sum_44 (by decide) ?_
              refine li_pick [0, 1, 2] [(2, .int x4), (0, .ref (Z.2.2 175)), (1, .int p1)] rfl ?_
              have z0 : (0 : Int32).toInt = 0 := rfl
              exact J45 0 M36 hf hJ ⟨(by omega), (Int.le_antisymm (by omega) (by omega)), (Int.le_antisymm (by omega) (by omega)), (Int.le_antisymm (by omega) (by omega)), (Int.le_antisymm (by omega) (by omega)), (by omega), (rk_to rkq (Int.le_antisymm (by omega) (by omega))), (by exact rp_mv2 cCq (Int.le_antisymm (by omega) (by omega)))⟩ bM36
            · have tc38 : x35.toInt = 43 := tl_eq c38
              refine li_iconst 1 dX12_sum_40 (by decide) ?_
              refine li_goto 45 dX12_sum_41 (by decide) ?_
              refine li_pick [0, 1, 2] [(2, .int x4), (0, .ref (Z.2.2 175)), (1, .int p1)] rfl ?_
              have z1 : (1 : Int32).toInt = 1 := rfl
              exact J45 1 M36 hf hJ ⟨(by omega), (Int.le_antisymm (by omega) (by omega)), (Int.le_antisymm (by omega) (by omega)), (Int.le_antisymm (by omega) (by omega)), (Int.le_antisymm (by omega) (by omega)), (by omega), (rk_to rkq (Int.le_antisymm (by omega) (by omega))), (by exact rp_mv2 cCq (Int.le_antisymm (by omega) (by omega)))⟩ bM36
      · skip
        refine li_if_eq 82 dX12_sum_10 (by decide) (fun c => ?_) (fun c => absurd rfl c)
        have fin : ∃ ok q : Int, rpr hB e 1 (p1.toInt) ((M0.1 175 14).toInt) ok q ∧ (M7.1 175 14).toInt = q ∧ (M0.1 175 14).toInt ≤ q ∧ q ≤ e ∧ ((ok = 1 ∧ (M7.1 175 15).toInt = -1) ∨ (ok = 0 ∧ (M7.1 175 15).toInt = q)) := by
          first | (have nCq : ¬ rp_add (rd_ch hB e A1) := by unfold rp_add; omega) | skip
          first | exact ⟨1, A1, rk_2e rkq nCq, Int.le_antisymm (by omega) (by omega), by omega, by omega, Or.inl ⟨rfl, Int.le_antisymm (by omega) (by omega)⟩⟩ | (rcases i4 with c | c; exact absurd c.1 (by omega); exact ⟨0, _, rp_to c.2.2 rfl (Int.le_antisymm (by omega) (by omega)) rfl rfl, rfl, by omega, by omega, Or.inr ⟨rfl, Int.le_antisymm (by omega) (by omega)⟩⟩)
        refine li_iload_n 0 dX12_sum_82 rfl ?_
        exact li_iret dX12_sum_83 rfl rfl ⟨⟨_, rfl, (by exact fin)⟩, hf, hJ⟩
  exact L6 _ x1 M2 (Nat.lt_succ_self _) hf hJ ⟨(by omega), (by omega), (Int.le_antisymm (by omega) (by omega)), (Int.le_antisymm (by omega) (by omega)), (by first | (exact Or.elim k5 (fun c => Or.inl ⟨c.1, c.2⟩) (fun c => Or.inr c)) | (rcases ea4 with c | c; exact Or.inl ⟨c.2, rk_to (rk_2 (rp_to ra rfl rfl c.1.symm rfl)) (Int.le_antisymm (by omega) (by omega))⟩; exact Or.inr ⟨by omega, Int.le_antisymm (by omega) (by omega), rk_1f (rp_to ra rfl rfl c.1.symm (Int.le_antisymm (by omega) (by omega)))⟩))⟩ bM2
set_option maxRecDepth 100000 in
set_option maxHeartbeats 4000000 in
theorem k14_X12_held {l : Launch} {Z : li_Z} (d : Nat) (hd : 3 ≤ d) (p1 : Int32) (dE : Nat) (hE : dE + 1 ≤ d) (M0 : li_M) (hJ : li_J M0) (bM0 : M0.2.2 0 = some 180) (hB : Nat → Int32) (hhB : li_by (M0.1 180) = hB) (e : Int) (he : min (M0.1 175 12).toInt (M0.1 175 13).toInt = e) (hat : (M0.1 175 14).toInt ≤ e) (hw : (M0.1 175 15).toInt = -1) (h4 : 0 ≤ p1.toInt ∧ p1.toInt ≤ 4) (SM : ∀ (q9 : Int32) (M : li_M), li_J M → M.2.2 0 = some 180 → li_by (M.1 180) = hB → min (M.1 175 12).toInt (M.1 175 13).toInt = e → (M0.1 175 14).toInt ≤ (M.1 175 14).toInt → (M.1 175 14).toInt ≤ e → (M.1 175 15).toInt = -1 → 0 ≤ q9.toInt ∧ q9.toInt ≤ 4 → li_Met l Z YX12_sum dE [.ref (Z.2.2 175), .int q9] M (fun r M' => (∃ x : Int32, r = some (.int x) ∧ (∃ ok q : Int, rpr hB e 1 (q9.toInt) ((M.1 175 14).toInt) ok q ∧ (M'.1 175 14).toInt = q ∧ (M.1 175 14).toInt ≤ q ∧ q ≤ e ∧ ((ok = 1 ∧ (M'.1 175 15).toInt = -1) ∨ (ok = 0 ∧ (M'.1 175 15).toInt = q)))) ∧ li_fs (fun i k => (i = 175 ∧ k = 14) ∨ (i = 175 ∧ k = 15)) M M' ∧ li_J M')) : li_Met l Z YX12_held d [.ref (Z.2.2 175), .int p1] M0 (fun r M' => (∃ x : Int32, r = some (.int x) ∧ (∃ ok q : Int, rpr hB e 0 (p1.toInt) ((M0.1 175 14).toInt) ok q ∧ (M'.1 175 14).toInt = q ∧ (M0.1 175 14).toInt ≤ q ∧ q ≤ e ∧ ((ok = 1 ∧ (M'.1 175 15).toInt = -1) ∨ (ok = 0 ∧ (M'.1 175 15).toInt = q)))) ∧ li_fs (fun i k => (i = 175 ∧ k = 14) ∨ (i = 175 ∧ k = 15)) M0 M' ∧ li_J M') := by
  refine li_enter (by decide +kernel) (Nat.le_of_ble_eq_true rfl) ?_
  show li_T l Z YX12_held d 0 [(0, .ref (Z.2.2 175)), (1, .int p1)] [] M0 _
  have hf : li_fs (fun i k => (i = 175 ∧ k = 14) ∨ (i = 175 ∧ k = 15)) M0 M0 := li_fs_refl
  have gp1 := tl_rg p1
  have rM0_12 := J_sl12 (M := M0) hJ
  have rM0_13 := J_sl13 (M := M0) hJ
  have rM0_14 := J_sl14 (M := M0) hJ
  have rM0_15 := J_sl15 (M := M0) hJ
  refine li_aload_n 0 dX12_held_0 rfl ?_
  refine li_iload_n 1 dX12_held_1 rfl ?_
  refine li_callV (n := 1) (As := [.int p1]) dX12_held_2 (SM p1 M0 hJ bM0 ((congrArg li_by (funext fun i => hf.1 180 i ((fun i => (show ¬ ((180 = 175 ∧ i = 14) ∨ (180 = 175 ∧ i = 15)) by first | (simp; done) | omega)) i))).trans hhB) (by rw [show (M0.1 175 12).toInt = (M0.1 175 12).toInt from Int.le_antisymm (by omega) (by omega), show (M0.1 175 13).toInt = (M0.1 175 13).toInt from Int.le_antisymm (by omega) (by omega)]; exact he) (by omega) (by omega) (Int.le_antisymm (by omega) (by omega)) ⟨by omega, by omega⟩) (by omega) (Nat.le_of_ble_eq_true rfl) w_1629 w_1631 w_53 w_112 w_1632 (by decide +kernel) rfl (by decide) sh_175 rfl rfl (Nat.le_of_ble_eq_true rfl) (fun r M2 h3 => ?_)
  obtain ⟨⟨x1, rfl, qx1⟩, h3, jM2⟩ := h3
  have gx1 := tl_rg x1
  have hf := li_fs_trans hf h3 (fun i k => fun h => Or.elim h (fun h => Or.inl h) (fun h => Or.inr h))
  have hJ := jM2
  have rM2_12 := J_sl12 (M := M2) hJ
  have rM2_13 := J_sl13 (M := M2) hJ
  have rM2_14 := J_sl14 (M := M2) hJ
  have rM2_15 := J_sl15 (M := M2) hJ
  have mM2_12 : (M2.1 175 12).toInt = (M0.1 175 12).toInt := tl_slot (h3.1 175 12 (show ¬ ((175 = 175 ∧ 12 = 14) ∨ (175 = 175 ∧ 12 = 15)) by decide))
  have mM2_13 : (M2.1 175 13).toInt = (M0.1 175 13).toInt := tl_slot (h3.1 175 13 (show ¬ ((175 = 175 ∧ 13 = 14) ∨ (175 = 175 ∧ 13 = 15)) by decide))
  have bM2 : M2.2.2 0 = some 180 := (h3.2.2 0 (fun h9 => by first | exact (h9 : False).elim | (simp at h9; done) | omega)).trans bM0
  obtain ⟨okA, qA, ra, ea1, ea2, ea3, ea4⟩ := qx1
  refine li_istore_n [(2, .int x1), (0, .ref (Z.2.2 175)), (1, .int p1)] dX12_held_5 (by decide) rfl ?_
  refine li_aload_n 1 dX12_held_6 rfl ?_
  refine li_bipush 60 dX12_held_7 (by decide) ?_
  have cp60 : (li_hr M2).toInt = rd_ch hB e (qA) := (hr_pt bM2 (by omega) rfl (by rw [show (M2.1 175 12).toInt = (M0.1 175 12).toInt from Int.le_antisymm (by omega) (by omega), show (M2.1 175 13).toInt = (M0.1 175 13).toInt from Int.le_antisymm (by omega) (by omega)]; exact he) (Int.le_antisymm (by omega) (by omega))).trans (congrArg (fun z => rd_ch z e (qA)) ((congrArg li_by (funext fun i => hf.1 180 i ((fun i => (show ¬ ((180 = 175 ∧ i = 14) ∨ (180 = 175 ∧ i = 15)) by first | (simp; done) | omega)) i))).trans hhB))
  have z60 : (60 : Int32).toInt = 60 := rfl
  refine li_callV (n := 1) (As := [.int 60]) dX12_held_9 (k_X12_passes (d - 1) (by omega) 60 M2 hJ (by omega)) (by omega) (Nat.le_of_ble_eq_true rfl) w_1605 w_1607 w_49 w_112 w_1608 (by decide +kernel) rfl (by decide) sh_175 rfl rfl (Nat.le_of_ble_eq_true rfl) (fun r M5 h6 => ?_)
  obtain ⟨qx4, h6, jM5⟩ := h6
  have hf := li_fs_trans hf h6 (fun i k => fun h => Or.inl h)
  have hJ := jM5
  have rM5_12 := J_sl12 (M := M5) hJ
  have rM5_13 := J_sl13 (M := M5) hJ
  have rM5_14 := J_sl14 (M := M5) hJ
  have rM5_15 := J_sl15 (M := M5) hJ
  have mM5_12 : (M5.1 175 12).toInt = (M2.1 175 12).toInt := tl_slot (h6.1 175 12 (show ¬ ((175 = 175 ∧ 12 = 14)) by decide))
  have mM5_13 : (M5.1 175 13).toInt = (M2.1 175 13).toInt := tl_slot (h6.1 175 13 (show ¬ ((175 = 175 ∧ 13 = 14)) by decide))
  have mM5_15 : (M5.1 175 15).toInt = (M2.1 175 15).toInt := tl_slot (h6.1 175 15 (show ¬ ((175 = 175 ∧ 15 = 14)) by decide))
  have bM5 : M5.2.2 0 = some 180 := (h6.2.2 0 (fun h9 => by first | exact (h9 : False).elim | (simp at h9; done) | omega)).trans bM2
  rcases qx4 with ⟨rfl, qx4⟩ | ⟨rfl, qx4⟩
  · skip
    refine li_if_eq 30 dX12_held_12 (by decide) (fun c => absurd c (by decide)) (fun c => ?_)
    have cC : rp_cmp (rd_ch hB e qA) := by unfold rp_cmp; omega
    have lt := rd_lt (rp_cmp_nn cC)
    refine li_iload_n 0 dX12_held_15 rfl ?_
    refine li_aload_n 1 dX12_held_16 rfl ?_
    refine li_iload_n 2 dX12_held_17 rfl ?_
    refine li_callV (n := 1) (As := [.int p1]) dX12_held_18 (SM p1 M5 hJ bM5 ((congrArg li_by (funext fun i => hf.1 180 i ((fun i => (show ¬ ((180 = 175 ∧ i = 14) ∨ (180 = 175 ∧ i = 15)) by first | (simp; done) | omega)) i))).trans hhB) (by rw [show (M5.1 175 12).toInt = (M0.1 175 12).toInt from Int.le_antisymm (by omega) (by omega), show (M5.1 175 13).toInt = (M0.1 175 13).toInt from Int.le_antisymm (by omega) (by omega)]; exact he) (by omega) (by omega) (Int.le_antisymm (by omega) (by omega)) ⟨by omega, by omega⟩) (by omega) (Nat.le_of_ble_eq_true rfl) w_1629 w_1631 w_53 w_112 w_1632 (by decide +kernel) rfl (by decide) sh_175 rfl rfl (Nat.le_of_ble_eq_true rfl) (fun r M9 h10 => ?_)
    obtain ⟨⟨x8, rfl, qx8⟩, h10, jM9⟩ := h10
    have gx8 := tl_rg x8
    have hf := li_fs_trans hf h10 (fun i k => fun h => Or.elim h (fun h => Or.inl h) (fun h => Or.inr h))
    have hJ := jM9
    have rM9_12 := J_sl12 (M := M9) hJ
    have rM9_13 := J_sl13 (M := M9) hJ
    have rM9_14 := J_sl14 (M := M9) hJ
    have rM9_15 := J_sl15 (M := M9) hJ
    have mM9_12 : (M9.1 175 12).toInt = (M5.1 175 12).toInt := tl_slot (h10.1 175 12 (show ¬ ((175 = 175 ∧ 12 = 14) ∨ (175 = 175 ∧ 12 = 15)) by decide))
    have mM9_13 : (M9.1 175 13).toInt = (M5.1 175 13).toInt := tl_slot (h10.1 175 13 (show ¬ ((175 = 175 ∧ 13 = 14) ∨ (175 = 175 ∧ 13 = 15)) by decide))
    have bM9 : M9.2.2 0 = some 180 := (h10.2.2 0 (fun h9 => by first | exact (h9 : False).elim | (simp at h9; done) | omega)).trans bM5
    obtain ⟨okB, qB, rb, eb1, eb2, eb3, eb4⟩ := qx8
    have fin : ∃ ok q : Int, rpr hB e 0 (p1.toInt) ((M0.1 175 14).toInt) ok q ∧ (M9.1 175 14).toInt = q ∧ (M0.1 175 14).toInt ≤ q ∧ q ≤ e ∧ ((ok = 1 ∧ (M9.1 175 15).toInt = -1) ∨ (ok = 0 ∧ (M9.1 175 15).toInt = q)) := ⟨okB, qB, rp_in0 (Or.inr (Or.inr ⟨qA, rp_to ra rfl rfl (Int.le_antisymm (by omega) (by omega)) rfl, cC, rp_to rb rfl (Int.le_antisymm (by omega) (by omega)) rfl rfl⟩)), eb1, by omega, by omega, eb4⟩
    refine li_icmp_ge 28 dX12_held_21 (by decide) (fun c11 => ?_) (fun c11 => ?_)
    · have tc11 : x8.toInt ≤ x1.toInt := tl_le c11
      refine li_iconst 0 dX12_held_28 (by decide) ?_
      have z0 : (0 : Int32).toInt = 0 := rfl
      exact li_iret dX12_held_29 rfl rfl ⟨⟨_, rfl, (by exact fin)⟩, hf, hJ⟩
    · have tc11 : x1.toInt < x8.toInt := tl_nle c11
      refine li_iconst 1 dX12_held_24 (by decide) ?_
      refine li_goto 29 dX12_held_25 (by decide) ?_
      have z1 : (1 : Int32).toInt = 1 := rfl
      exact li_iret dX12_held_29 rfl rfl ⟨⟨_, rfl, (by exact fin)⟩, hf, hJ⟩
  · skip
    refine li_if_eq 30 dX12_held_12 (by decide) (fun c => ?_) (fun c => absurd rfl c)
    have no60 : (M5.1 175 15).toInt = -1 → ¬ rd_ch hB e qA = 60 := fun h9 h8 => qx4.1 (Int.le_antisymm (by omega) (by omega)) (cp60.trans h8)
    refine li_aload_n 1 dX12_held_30 rfl ?_
    refine li_bipush 62 dX12_held_31 (by decide) ?_
    have cp62 : (li_hr M5).toInt = rd_ch hB e (qA) := (hr_pt bM5 (by omega) rfl (by rw [show (M5.1 175 12).toInt = (M0.1 175 12).toInt from Int.le_antisymm (by omega) (by omega), show (M5.1 175 13).toInt = (M0.1 175 13).toInt from Int.le_antisymm (by omega) (by omega)]; exact he) (Int.le_antisymm (by omega) (by omega))).trans (congrArg (fun z => rd_ch z e (qA)) ((congrArg li_by (funext fun i => hf.1 180 i ((fun i => (show ¬ ((180 = 175 ∧ i = 14) ∨ (180 = 175 ∧ i = 15)) by first | (simp; done) | omega)) i))).trans hhB))
    have z62 : (62 : Int32).toInt = 62 := rfl
    refine li_callV (n := 1) (As := [.int 62]) dX12_held_33 (k_X12_passes (d - 1) (by omega) 62 M5 hJ (by omega)) (by omega) (Nat.le_of_ble_eq_true rfl) w_1605 w_1607 w_49 w_112 w_1608 (by decide +kernel) rfl (by decide) sh_175 rfl rfl (Nat.le_of_ble_eq_true rfl) (fun r M14 h15 => ?_)
    obtain ⟨qx13, h15, jM14⟩ := h15
    have hf := li_fs_trans hf h15 (fun i k => fun h => Or.inl h)
    have hJ := jM14
    have rM14_12 := J_sl12 (M := M14) hJ
    have rM14_13 := J_sl13 (M := M14) hJ
    have rM14_14 := J_sl14 (M := M14) hJ
    have rM14_15 := J_sl15 (M := M14) hJ
    have mM14_12 : (M14.1 175 12).toInt = (M5.1 175 12).toInt := tl_slot (h15.1 175 12 (show ¬ ((175 = 175 ∧ 12 = 14)) by decide))
    have mM14_13 : (M14.1 175 13).toInt = (M5.1 175 13).toInt := tl_slot (h15.1 175 13 (show ¬ ((175 = 175 ∧ 13 = 14)) by decide))
    have mM14_15 : (M14.1 175 15).toInt = (M5.1 175 15).toInt := tl_slot (h15.1 175 15 (show ¬ ((175 = 175 ∧ 15 = 14)) by decide))
    have bM14 : M14.2.2 0 = some 180 := (h15.2.2 0 (fun h9 => by first | exact (h9 : False).elim | (simp at h9; done) | omega)).trans bM5
    rcases qx13 with ⟨rfl, qx13⟩ | ⟨rfl, qx13⟩
    · skip
      refine li_if_eq 54 dX12_held_36 (by decide) (fun c => absurd c (by decide)) (fun c => ?_)
      have cC : rp_cmp (rd_ch hB e qA) := by unfold rp_cmp; omega
      have lt := rd_lt (rp_cmp_nn cC)
      refine li_iload_n 0 dX12_held_39 rfl ?_
      refine li_aload_n 1 dX12_held_40 rfl ?_
      refine li_iload_n 2 dX12_held_41 rfl ?_
      refine li_callV (n := 1) (As := [.int p1]) dX12_held_42 (SM p1 M14 hJ bM14 ((congrArg li_by (funext fun i => hf.1 180 i ((fun i => (show ¬ ((180 = 175 ∧ i = 14) ∨ (180 = 175 ∧ i = 15)) by first | (simp; done) | omega)) i))).trans hhB) (by rw [show (M14.1 175 12).toInt = (M0.1 175 12).toInt from Int.le_antisymm (by omega) (by omega), show (M14.1 175 13).toInt = (M0.1 175 13).toInt from Int.le_antisymm (by omega) (by omega)]; exact he) (by omega) (by omega) (Int.le_antisymm (by omega) (by omega)) ⟨by omega, by omega⟩) (by omega) (Nat.le_of_ble_eq_true rfl) w_1629 w_1631 w_53 w_112 w_1632 (by decide +kernel) rfl (by decide) sh_175 rfl rfl (Nat.le_of_ble_eq_true rfl) (fun r M18 h19 => ?_)
      obtain ⟨⟨x17, rfl, qx17⟩, h19, jM18⟩ := h19
      have gx17 := tl_rg x17
      have hf := li_fs_trans hf h19 (fun i k => fun h => Or.elim h (fun h => Or.inl h) (fun h => Or.inr h))
      have hJ := jM18
      have rM18_12 := J_sl12 (M := M18) hJ
      have rM18_13 := J_sl13 (M := M18) hJ
      have rM18_14 := J_sl14 (M := M18) hJ
      have rM18_15 := J_sl15 (M := M18) hJ
      have mM18_12 : (M18.1 175 12).toInt = (M14.1 175 12).toInt := tl_slot (h19.1 175 12 (show ¬ ((175 = 175 ∧ 12 = 14) ∨ (175 = 175 ∧ 12 = 15)) by decide))
      have mM18_13 : (M18.1 175 13).toInt = (M14.1 175 13).toInt := tl_slot (h19.1 175 13 (show ¬ ((175 = 175 ∧ 13 = 14) ∨ (175 = 175 ∧ 13 = 15)) by decide))
      have bM18 : M18.2.2 0 = some 180 := (h19.2.2 0 (fun h9 => by first | exact (h9 : False).elim | (simp at h9; done) | omega)).trans bM14
      obtain ⟨okB, qB, rb, eb1, eb2, eb3, eb4⟩ := qx17
      have fin : ∃ ok q : Int, rpr hB e 0 (p1.toInt) ((M0.1 175 14).toInt) ok q ∧ (M18.1 175 14).toInt = q ∧ (M0.1 175 14).toInt ≤ q ∧ q ≤ e ∧ ((ok = 1 ∧ (M18.1 175 15).toInt = -1) ∨ (ok = 0 ∧ (M18.1 175 15).toInt = q)) := ⟨okB, qB, rp_in0 (Or.inr (Or.inr ⟨qA, rp_to ra rfl rfl (Int.le_antisymm (by omega) (by omega)) rfl, cC, rp_to rb rfl (Int.le_antisymm (by omega) (by omega)) rfl rfl⟩)), eb1, by omega, by omega, eb4⟩
      refine li_icmp_le 52 dX12_held_45 (by decide) (fun c20 => ?_) (fun c20 => ?_)
      · have tc20 : x1.toInt ≤ x17.toInt := tl_le c20
        refine li_iconst 0 dX12_held_52 (by decide) ?_
        have z0 : (0 : Int32).toInt = 0 := rfl
        exact li_iret dX12_held_53 rfl rfl ⟨⟨_, rfl, (by exact fin)⟩, hf, hJ⟩
      · have tc20 : x17.toInt < x1.toInt := tl_nle c20
        refine li_iconst 1 dX12_held_48 (by decide) ?_
        refine li_goto 53 dX12_held_49 (by decide) ?_
        have z1 : (1 : Int32).toInt = 1 := rfl
        exact li_iret dX12_held_53 rfl rfl ⟨⟨_, rfl, (by exact fin)⟩, hf, hJ⟩
    · skip
      refine li_if_eq 54 dX12_held_36 (by decide) (fun c => ?_) (fun c => absurd rfl c)
      have no62 : (M14.1 175 15).toInt = -1 → ¬ rd_ch hB e qA = 62 := fun h9 h8 => qx13.1 (Int.le_antisymm (by omega) (by omega)) (cp62.trans h8)
      refine li_aload_n 1 dX12_held_54 rfl ?_
      refine li_bipush 61 dX12_held_55 (by decide) ?_
      have cp61 : (li_hr M14).toInt = rd_ch hB e (qA) := (hr_pt bM14 (by omega) rfl (by rw [show (M14.1 175 12).toInt = (M0.1 175 12).toInt from Int.le_antisymm (by omega) (by omega), show (M14.1 175 13).toInt = (M0.1 175 13).toInt from Int.le_antisymm (by omega) (by omega)]; exact he) (Int.le_antisymm (by omega) (by omega))).trans (congrArg (fun z => rd_ch z e (qA)) ((congrArg li_by (funext fun i => hf.1 180 i ((fun i => (show ¬ ((180 = 175 ∧ i = 14) ∨ (180 = 175 ∧ i = 15)) by first | (simp; done) | omega)) i))).trans hhB))
      have z61 : (61 : Int32).toInt = 61 := rfl
      refine li_callV (n := 1) (As := [.int 61]) dX12_held_57 (k_X12_passes (d - 1) (by omega) 61 M14 hJ (by omega)) (by omega) (Nat.le_of_ble_eq_true rfl) w_1605 w_1607 w_49 w_112 w_1608 (by decide +kernel) rfl (by decide) sh_175 rfl rfl (Nat.le_of_ble_eq_true rfl) (fun r M23 h24 => ?_)
      obtain ⟨qx22, h24, jM23⟩ := h24
      have hf := li_fs_trans hf h24 (fun i k => fun h => Or.inl h)
      have hJ := jM23
      have rM23_12 := J_sl12 (M := M23) hJ
      have rM23_13 := J_sl13 (M := M23) hJ
      have rM23_14 := J_sl14 (M := M23) hJ
      have rM23_15 := J_sl15 (M := M23) hJ
      have mM23_12 : (M23.1 175 12).toInt = (M14.1 175 12).toInt := tl_slot (h24.1 175 12 (show ¬ ((175 = 175 ∧ 12 = 14)) by decide))
      have mM23_13 : (M23.1 175 13).toInt = (M14.1 175 13).toInt := tl_slot (h24.1 175 13 (show ¬ ((175 = 175 ∧ 13 = 14)) by decide))
      have mM23_15 : (M23.1 175 15).toInt = (M14.1 175 15).toInt := tl_slot (h24.1 175 15 (show ¬ ((175 = 175 ∧ 15 = 14)) by decide))
      have bM23 : M23.2.2 0 = some 180 := (h24.2.2 0 (fun h9 => by first | exact (h9 : False).elim | (simp at h9; done) | omega)).trans bM14
      rcases qx22 with ⟨rfl, qx22⟩ | ⟨rfl, qx22⟩
      · skip
        refine li_if_eq 78 dX12_held_60 (by decide) (fun c => absurd c (by decide)) (fun c => ?_)
        have cC : rp_cmp (rd_ch hB e qA) := by unfold rp_cmp; omega
        have lt := rd_lt (rp_cmp_nn cC)
        refine li_iload_n 0 dX12_held_63 rfl ?_
        refine li_aload_n 1 dX12_held_64 rfl ?_
        refine li_iload_n 2 dX12_held_65 rfl ?_
        refine li_callV (n := 1) (As := [.int p1]) dX12_held_66 (SM p1 M23 hJ bM23 ((congrArg li_by (funext fun i => hf.1 180 i ((fun i => (show ¬ ((180 = 175 ∧ i = 14) ∨ (180 = 175 ∧ i = 15)) by first | (simp; done) | omega)) i))).trans hhB) (by rw [show (M23.1 175 12).toInt = (M0.1 175 12).toInt from Int.le_antisymm (by omega) (by omega), show (M23.1 175 13).toInt = (M0.1 175 13).toInt from Int.le_antisymm (by omega) (by omega)]; exact he) (by omega) (by omega) (Int.le_antisymm (by omega) (by omega)) ⟨by omega, by omega⟩) (by omega) (Nat.le_of_ble_eq_true rfl) w_1629 w_1631 w_53 w_112 w_1632 (by decide +kernel) rfl (by decide) sh_175 rfl rfl (Nat.le_of_ble_eq_true rfl) (fun r M27 h28 => ?_)
        obtain ⟨⟨x26, rfl, qx26⟩, h28, jM27⟩ := h28
        have gx26 := tl_rg x26
        have hf := li_fs_trans hf h28 (fun i k => fun h => Or.elim h (fun h => Or.inl h) (fun h => Or.inr h))
        have hJ := jM27
        have rM27_12 := J_sl12 (M := M27) hJ
        have rM27_13 := J_sl13 (M := M27) hJ
        have rM27_14 := J_sl14 (M := M27) hJ
        have rM27_15 := J_sl15 (M := M27) hJ
        have mM27_12 : (M27.1 175 12).toInt = (M23.1 175 12).toInt := tl_slot (h28.1 175 12 (show ¬ ((175 = 175 ∧ 12 = 14) ∨ (175 = 175 ∧ 12 = 15)) by decide))
        have mM27_13 : (M27.1 175 13).toInt = (M23.1 175 13).toInt := tl_slot (h28.1 175 13 (show ¬ ((175 = 175 ∧ 13 = 14) ∨ (175 = 175 ∧ 13 = 15)) by decide))
        have bM27 : M27.2.2 0 = some 180 := (h28.2.2 0 (fun h9 => by first | exact (h9 : False).elim | (simp at h9; done) | omega)).trans bM23
        obtain ⟨okB, qB, rb, eb1, eb2, eb3, eb4⟩ := qx26
        have fin : ∃ ok q : Int, rpr hB e 0 (p1.toInt) ((M0.1 175 14).toInt) ok q ∧ (M27.1 175 14).toInt = q ∧ (M0.1 175 14).toInt ≤ q ∧ q ≤ e ∧ ((ok = 1 ∧ (M27.1 175 15).toInt = -1) ∨ (ok = 0 ∧ (M27.1 175 15).toInt = q)) := ⟨okB, qB, rp_in0 (Or.inr (Or.inr ⟨qA, rp_to ra rfl rfl (Int.le_antisymm (by omega) (by omega)) rfl, cC, rp_to rb rfl (Int.le_antisymm (by omega) (by omega)) rfl rfl⟩)), eb1, by omega, by omega, eb4⟩
        refine li_icmp_ne 76 dX12_held_69 (by decide) (fun c29 => ?_) (fun c29 => ?_)
        · have tc29 : ¬ x1.toInt = x26.toInt := tl_ne c29
          refine li_iconst 0 dX12_held_76 (by decide) ?_
          have z0 : (0 : Int32).toInt = 0 := rfl
          exact li_iret dX12_held_77 rfl rfl ⟨⟨_, rfl, (by exact fin)⟩, hf, hJ⟩
        · have tc29 : x1.toInt = x26.toInt := tl_eq c29
          refine li_iconst 1 dX12_held_72 (by decide) ?_
          refine li_goto 77 dX12_held_73 (by decide) ?_
          have z1 : (1 : Int32).toInt = 1 := rfl
          exact li_iret dX12_held_77 rfl rfl ⟨⟨_, rfl, (by exact fin)⟩, hf, hJ⟩
      · skip
        refine li_if_eq 78 dX12_held_60 (by decide) (fun c => ?_) (fun c => absurd rfl c)
        have no61 : (M23.1 175 15).toInt = -1 → ¬ rd_ch hB e qA = 61 := fun h9 h8 => qx22.1 (Int.le_antisymm (by omega) (by omega)) (cp61.trans h8)
        have fin : ∃ ok q : Int, rpr hB e 0 (p1.toInt) ((M0.1 175 14).toInt) ok q ∧ (M23.1 175 14).toInt = q ∧ (M0.1 175 14).toInt ≤ q ∧ q ≤ e ∧ ((ok = 1 ∧ (M23.1 175 15).toInt = -1) ∨ (ok = 0 ∧ (M23.1 175 15).toInt = q)) := by
          rcases ea4 with c | c
          · exact ⟨1, qA, rp_in0 (Or.inr (Or.inl ⟨rp_to ra rfl rfl c.1.symm rfl, (fun h9 => by rcases h9 with h9 | h9 | h9; exact no60 (Int.le_antisymm (by omega) (by omega)) h9; exact no62 (Int.le_antisymm (by omega) (by omega)) h9; exact no61 (Int.le_antisymm (by omega) (by omega)) h9), rfl⟩)), Int.le_antisymm (by omega) (by omega), by omega, by omega, Or.inl ⟨rfl, Int.le_antisymm (by omega) (by omega)⟩⟩
          · exact ⟨0, qA, rp_in0 (Or.inl ⟨rp_to ra rfl rfl c.1.symm rfl, rfl⟩), Int.le_antisymm (by omega) (by omega), by omega, by omega, Or.inr ⟨rfl, Int.le_antisymm (by omega) (by omega)⟩⟩
        refine li_iload_n 0 dX12_held_78 rfl ?_
        exact li_iret dX12_held_79 rfl rfl ⟨⟨_, rfl, (by exact fin)⟩, hf, hJ⟩
theorem kk14_parse {l : Launch} {Z : li_Z} {hB : Nat → Int32} {e : Int} : ∀ n : Nat, (∀ (q9 : Int32) (M : li_M) (d : Nat), li_J M → M.2.2 0 = some 180 → li_by (M.1 180) = hB → min (M.1 175 12).toInt (M.1 175 13).toInt = e → (81 - (M.1 175 14).toInt).toNat ≤ n → (M.1 175 14).toInt ≤ e → (M.1 175 15).toInt = -1 → 0 ≤ q9.toInt ∧ q9.toInt ≤ 4 → 4 * n + 14 ≤ d → li_Met l Z YX12_part d [.ref (Z.2.2 175), .int q9] M (fun r M' => (∃ x : Int32, r = some (.int x) ∧ (∃ ok q : Int, rpr hB e 5 (q9.toInt) ((M.1 175 14).toInt) ok q ∧ (M'.1 175 14).toInt = q ∧ (M.1 175 14).toInt ≤ q ∧ q ≤ e ∧ ((ok = 1 ∧ (M'.1 175 15).toInt = -1) ∨ (ok = 0 ∧ (M'.1 175 15).toInt = q)))) ∧ li_fs (fun i k => (i = 175 ∧ k = 14) ∨ (i = 175 ∧ k = 15)) M M' ∧ li_J M')) ∧ (∀ (q9 : Int32) (M : li_M) (d : Nat), li_J M → M.2.2 0 = some 180 → li_by (M.1 180) = hB → min (M.1 175 12).toInt (M.1 175 13).toInt = e → (81 - (M.1 175 14).toInt).toNat ≤ n → (M.1 175 14).toInt ≤ e → (M.1 175 15).toInt = -1 → 0 ≤ q9.toInt ∧ q9.toInt ≤ 4 → 4 * n + 15 ≤ d → li_Met l Z YX12_product d [.ref (Z.2.2 175), .int q9] M (fun r M' => (∃ x : Int32, r = some (.int x) ∧ (∃ ok q : Int, rpr hB e 3 (q9.toInt) ((M.1 175 14).toInt) ok q ∧ (M'.1 175 14).toInt = q ∧ (M.1 175 14).toInt ≤ q ∧ q ≤ e ∧ ((ok = 1 ∧ (M'.1 175 15).toInt = -1) ∨ (ok = 0 ∧ (M'.1 175 15).toInt = q)))) ∧ li_fs (fun i k => (i = 175 ∧ k = 14) ∨ (i = 175 ∧ k = 15)) M M' ∧ li_J M')) ∧ (∀ (q9 : Int32) (M : li_M) (d : Nat), li_J M → M.2.2 0 = some 180 → li_by (M.1 180) = hB → min (M.1 175 12).toInt (M.1 175 13).toInt = e → (81 - (M.1 175 14).toInt).toNat ≤ n → (M.1 175 14).toInt ≤ e → (M.1 175 15).toInt = -1 → 0 ≤ q9.toInt ∧ q9.toInt ≤ 4 → 4 * n + 16 ≤ d → li_Met l Z YX12_sum d [.ref (Z.2.2 175), .int q9] M (fun r M' => (∃ x : Int32, r = some (.int x) ∧ (∃ ok q : Int, rpr hB e 1 (q9.toInt) ((M.1 175 14).toInt) ok q ∧ (M'.1 175 14).toInt = q ∧ (M.1 175 14).toInt ≤ q ∧ q ≤ e ∧ ((ok = 1 ∧ (M'.1 175 15).toInt = -1) ∨ (ok = 0 ∧ (M'.1 175 15).toInt = q)))) ∧ li_fs (fun i k => (i = 175 ∧ k = 14) ∨ (i = 175 ∧ k = 15)) M M' ∧ li_J M')) ∧ (∀ (q9 : Int32) (M : li_M) (d : Nat), li_J M → M.2.2 0 = some 180 → li_by (M.1 180) = hB → min (M.1 175 12).toInt (M.1 175 13).toInt = e → (81 - (M.1 175 14).toInt).toNat ≤ n → (M.1 175 14).toInt ≤ e → (M.1 175 15).toInt = -1 → 0 ≤ q9.toInt ∧ q9.toInt ≤ 4 → 4 * n + 17 ≤ d → li_Met l Z YX12_held d [.ref (Z.2.2 175), .int q9] M (fun r M' => (∃ x : Int32, r = some (.int x) ∧ (∃ ok q : Int, rpr hB e 0 (q9.toInt) ((M.1 175 14).toInt) ok q ∧ (M'.1 175 14).toInt = q ∧ (M.1 175 14).toInt ≤ q ∧ q ≤ e ∧ ((ok = 1 ∧ (M'.1 175 15).toInt = -1) ∨ (ok = 0 ∧ (M'.1 175 15).toInt = q)))) ∧ li_fs (fun i k => (i = 175 ∧ k = 14) ∨ (i = 175 ∧ k = 15)) M M' ∧ li_J M')) := by
  have up : ∀ n : Nat, (∀ (q9 : Int32) (M : li_M) (d : Nat), li_J M → M.2.2 0 = some 180 → li_by (M.1 180) = hB → min (M.1 175 12).toInt (M.1 175 13).toInt = e → (81 - (M.1 175 14).toInt).toNat ≤ n → (M.1 175 14).toInt ≤ e → (M.1 175 15).toInt = -1 → 0 ≤ q9.toInt ∧ q9.toInt ≤ 4 → 4 * n + 14 ≤ d → li_Met l Z YX12_part d [.ref (Z.2.2 175), .int q9] M (fun r M' => (∃ x : Int32, r = some (.int x) ∧ (∃ ok q : Int, rpr hB e 5 (q9.toInt) ((M.1 175 14).toInt) ok q ∧ (M'.1 175 14).toInt = q ∧ (M.1 175 14).toInt ≤ q ∧ q ≤ e ∧ ((ok = 1 ∧ (M'.1 175 15).toInt = -1) ∨ (ok = 0 ∧ (M'.1 175 15).toInt = q)))) ∧ li_fs (fun i k => (i = 175 ∧ k = 14) ∨ (i = 175 ∧ k = 15)) M M' ∧ li_J M')) → (∀ (q9 : Int32) (M : li_M) (d : Nat), li_J M → M.2.2 0 = some 180 → li_by (M.1 180) = hB → min (M.1 175 12).toInt (M.1 175 13).toInt = e → (81 - (M.1 175 14).toInt).toNat ≤ n → (M.1 175 14).toInt ≤ e → (M.1 175 15).toInt = -1 → 0 ≤ q9.toInt ∧ q9.toInt ≤ 4 → 4 * n + 14 ≤ d → li_Met l Z YX12_part d [.ref (Z.2.2 175), .int q9] M (fun r M' => (∃ x : Int32, r = some (.int x) ∧ (∃ ok q : Int, rpr hB e 5 (q9.toInt) ((M.1 175 14).toInt) ok q ∧ (M'.1 175 14).toInt = q ∧ (M.1 175 14).toInt ≤ q ∧ q ≤ e ∧ ((ok = 1 ∧ (M'.1 175 15).toInt = -1) ∨ (ok = 0 ∧ (M'.1 175 15).toInt = q)))) ∧ li_fs (fun i k => (i = 175 ∧ k = 14) ∨ (i = 175 ∧ k = 15)) M M' ∧ li_J M')) ∧ (∀ (q9 : Int32) (M : li_M) (d : Nat), li_J M → M.2.2 0 = some 180 → li_by (M.1 180) = hB → min (M.1 175 12).toInt (M.1 175 13).toInt = e → (81 - (M.1 175 14).toInt).toNat ≤ n → (M.1 175 14).toInt ≤ e → (M.1 175 15).toInt = -1 → 0 ≤ q9.toInt ∧ q9.toInt ≤ 4 → 4 * n + 15 ≤ d → li_Met l Z YX12_product d [.ref (Z.2.2 175), .int q9] M (fun r M' => (∃ x : Int32, r = some (.int x) ∧ (∃ ok q : Int, rpr hB e 3 (q9.toInt) ((M.1 175 14).toInt) ok q ∧ (M'.1 175 14).toInt = q ∧ (M.1 175 14).toInt ≤ q ∧ q ≤ e ∧ ((ok = 1 ∧ (M'.1 175 15).toInt = -1) ∨ (ok = 0 ∧ (M'.1 175 15).toInt = q)))) ∧ li_fs (fun i k => (i = 175 ∧ k = 14) ∨ (i = 175 ∧ k = 15)) M M' ∧ li_J M')) ∧ (∀ (q9 : Int32) (M : li_M) (d : Nat), li_J M → M.2.2 0 = some 180 → li_by (M.1 180) = hB → min (M.1 175 12).toInt (M.1 175 13).toInt = e → (81 - (M.1 175 14).toInt).toNat ≤ n → (M.1 175 14).toInt ≤ e → (M.1 175 15).toInt = -1 → 0 ≤ q9.toInt ∧ q9.toInt ≤ 4 → 4 * n + 16 ≤ d → li_Met l Z YX12_sum d [.ref (Z.2.2 175), .int q9] M (fun r M' => (∃ x : Int32, r = some (.int x) ∧ (∃ ok q : Int, rpr hB e 1 (q9.toInt) ((M.1 175 14).toInt) ok q ∧ (M'.1 175 14).toInt = q ∧ (M.1 175 14).toInt ≤ q ∧ q ≤ e ∧ ((ok = 1 ∧ (M'.1 175 15).toInt = -1) ∨ (ok = 0 ∧ (M'.1 175 15).toInt = q)))) ∧ li_fs (fun i k => (i = 175 ∧ k = 14) ∨ (i = 175 ∧ k = 15)) M M' ∧ li_J M')) ∧ (∀ (q9 : Int32) (M : li_M) (d : Nat), li_J M → M.2.2 0 = some 180 → li_by (M.1 180) = hB → min (M.1 175 12).toInt (M.1 175 13).toInt = e → (81 - (M.1 175 14).toInt).toNat ≤ n → (M.1 175 14).toInt ≤ e → (M.1 175 15).toInt = -1 → 0 ≤ q9.toInt ∧ q9.toInt ≤ 4 → 4 * n + 17 ≤ d → li_Met l Z YX12_held d [.ref (Z.2.2 175), .int q9] M (fun r M' => (∃ x : Int32, r = some (.int x) ∧ (∃ ok q : Int, rpr hB e 0 (q9.toInt) ((M.1 175 14).toInt) ok q ∧ (M'.1 175 14).toInt = q ∧ (M.1 175 14).toInt ≤ q ∧ q ≤ e ∧ ((ok = 1 ∧ (M'.1 175 15).toInt = -1) ∨ (ok = 0 ∧ (M'.1 175 15).toInt = q)))) ∧ li_fs (fun i k => (i = 175 ∧ k = 14) ∨ (i = 175 ∧ k = 15)) M M' ∧ li_J M')) := by
    intro n hp
    have hpr : (∀ (q9 : Int32) (M : li_M) (d : Nat), li_J M → M.2.2 0 = some 180 → li_by (M.1 180) = hB → min (M.1 175 12).toInt (M.1 175 13).toInt = e → (81 - (M.1 175 14).toInt).toNat ≤ n → (M.1 175 14).toInt ≤ e → (M.1 175 15).toInt = -1 → 0 ≤ q9.toInt ∧ q9.toInt ≤ 4 → 4 * n + 15 ≤ d → li_Met l Z YX12_product d [.ref (Z.2.2 175), .int q9] M (fun r M' => (∃ x : Int32, r = some (.int x) ∧ (∃ ok q : Int, rpr hB e 3 (q9.toInt) ((M.1 175 14).toInt) ok q ∧ (M'.1 175 14).toInt = q ∧ (M.1 175 14).toInt ≤ q ∧ q ≤ e ∧ ((ok = 1 ∧ (M'.1 175 15).toInt = -1) ∨ (ok = 0 ∧ (M'.1 175 15).toInt = q)))) ∧ li_fs (fun i k => (i = 175 ∧ k = 14) ∨ (i = 175 ∧ k = 15)) M M' ∧ li_J M')) := fun q M d hJ b hb em hn ha hw h4 hd => k14_X12_product d (by omega) q (4 * n + 14) (by omega) M hJ b hB hb e em ha hw h4 (fun q2 M2 j2 b2 hb2 em2 h2 ha2 hw2 h42 => hp q2 M2 _ j2 b2 hb2 em2 (by omega) ha2 hw2 h42 (by omega))
    have hsm : (∀ (q9 : Int32) (M : li_M) (d : Nat), li_J M → M.2.2 0 = some 180 → li_by (M.1 180) = hB → min (M.1 175 12).toInt (M.1 175 13).toInt = e → (81 - (M.1 175 14).toInt).toNat ≤ n → (M.1 175 14).toInt ≤ e → (M.1 175 15).toInt = -1 → 0 ≤ q9.toInt ∧ q9.toInt ≤ 4 → 4 * n + 16 ≤ d → li_Met l Z YX12_sum d [.ref (Z.2.2 175), .int q9] M (fun r M' => (∃ x : Int32, r = some (.int x) ∧ (∃ ok q : Int, rpr hB e 1 (q9.toInt) ((M.1 175 14).toInt) ok q ∧ (M'.1 175 14).toInt = q ∧ (M.1 175 14).toInt ≤ q ∧ q ≤ e ∧ ((ok = 1 ∧ (M'.1 175 15).toInt = -1) ∨ (ok = 0 ∧ (M'.1 175 15).toInt = q)))) ∧ li_fs (fun i k => (i = 175 ∧ k = 14) ∨ (i = 175 ∧ k = 15)) M M' ∧ li_J M')) := fun q M d hJ b hb em hn ha hw h4 hd => k14_X12_sum d (by omega) q (4 * n + 15) (by omega) M hJ b hB hb e em ha hw h4 (fun q2 M2 j2 b2 hb2 em2 h2 ha2 hw2 h42 => hpr q2 M2 _ j2 b2 hb2 em2 (by omega) ha2 hw2 h42 (by omega))
    exact ⟨hp, hpr, hsm, fun q M d hJ b hb em hn ha hw h4 hd => k14_X12_held d (by omega) q (4 * n + 16) (by omega) M hJ b hB hb e em ha hw h4 (fun q2 M2 j2 b2 hb2 em2 h2 ha2 hw2 h42 => hsm q2 M2 _ j2 b2 hb2 em2 (by omega) ha2 hw2 h42 (by omega))⟩
  intro n
  induction n with
  | zero => exact up 0 (fun q M d hJ b hb em hn ha hw h4 hd => k14_X12_part d (by omega) q 13 (by omega) M hJ b hB hb e em ha hw h4 (fun q2 M2 j2 b2 hb2 em2 h2 ha2 hw2 h42 => absurd (J_sl14 j2) (by omega)) (fun q2 M2 j2 b2 hb2 em2 h2 ha2 hw2 h42 => absurd (J_sl14 j2) (by omega)))
  | succ n ih => exact up (n + 1) (fun q M d hJ b hb em hn ha hw h4 hd => k14_X12_part d (by omega) q (4 * n + 17) (by omega) M hJ b hB hb e em ha hw h4 (fun q2 M2 j2 b2 hb2 em2 h2 ha2 hw2 h42 => ih.1 q2 M2 _ j2 b2 hb2 em2 (by omega) ha2 hw2 h42 (by omega)) (fun q2 M2 j2 b2 hb2 em2 h2 ha2 hw2 h42 => ih.2.2.2 q2 M2 _ j2 b2 hb2 em2 (by omega) ha2 hw2 h42 (by omega)))
