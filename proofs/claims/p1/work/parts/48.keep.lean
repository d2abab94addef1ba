set_option maxRecDepth 100000 in
set_option maxHeartbeats 4000000 in
theorem k2_X3_keepUnder {l : Launch} {Z : li_Z} (d : Nat) (hd : 2 ≤ d) (p1 : Int32) (M0 : li_M) : li_Met l Z YX3_keepUnder d [.ref (Z.2.2 21), .int p1, .ref (Z.2.2 13)] M0 (fun r M' => (∃ x : Int32, r = some (.int x) ∧ (x = 0 ∨ x = 1) ∧ ((x.toInt = 1 ∧ 0 ≤ p1.toInt ∧ p1.toInt ≤ 1) ∨ (x.toInt = 0 ∧ (p1.toInt < 0 ∨ 1 < p1.toInt)))) ∧ li_fr (fun i => i = 21 ∨ (128 ≤ i ∧ i < 144)) M0 M') := by
  refine li_enter (by decide +kernel) (Nat.le_of_ble_eq_true rfl) ?_
  show li_T l Z YX3_keepUnder d 0 [(0, .ref (Z.2.2 21)), (1, .int p1), (2, .ref (Z.2.2 13))] [] M0 _
  have hf : li_fr (fun i => i = 21 ∨ (128 ≤ i ∧ i < 144)) M0 M0 := li_fr_refl
  have gp1 := tl_rg p1
  refine li_iload_n 1 dX3_keepUnder_0 rfl ?_
  refine li_if_lt 22 dX3_keepUnder_1 (by decide) (fun c1 => ?_) (fun c1 => ?_)
  · have tc1 : p1.toInt < 0 := tl_lt c1
    have z0 : (0 : Int32).toInt = 0 := rfl
    refine li_iconst 0 dX3_keepUnder_22 (by decide) ?_
    have z0 : (0 : Int32).toInt = 0 := rfl
    exact li_iret dX3_keepUnder_23 rfl (li_nz (Or.inl rfl)) ⟨⟨_, rfl, Or.inl rfl, (by first | omega | (intro _; omega) | (intro h; exact absurd h (by decide)))⟩, hf⟩
  · have tc1 : 0 ≤ p1.toInt := tl_nlt c1
    have z0 : (0 : Int32).toInt = 0 := rfl
    refine li_iload_n 1 dX3_keepUnder_4 rfl ?_
    refine li_aload_n 0 dX3_keepUnder_5 rfl ?_
    refine li_getr (k := 1) (N := 6) (T := TX3) (C0 := RX3) dX3_keepUnder_6 (by decide) sh_21 rfl rfl (by decide) (by decide) li_in3 w_290 ?_
    refine li_alen 2 dX3_keepUnder_9 (by decide) sh_23 (Or.inr (by decide)) rfl ?_
    refine li_icmp_ge 22 dX3_keepUnder_10 (by decide) (fun c2 => ?_) (fun c2 => ?_)
    · have tc2 : 2 ≤ p1.toInt := tl_le c2
      have z2 : (2 : Int32).toInt = 2 := rfl
      refine li_iconst 0 dX3_keepUnder_22 (by decide) ?_
      have z0 : (0 : Int32).toInt = 0 := rfl
      exact li_iret dX3_keepUnder_23 rfl (li_nz (Or.inl rfl)) ⟨⟨_, rfl, Or.inl rfl, (by first | omega | (intro _; omega) | (intro h; exact absurd h (by decide)))⟩, hf⟩
    · have tc2 : p1.toInt < 2 := tl_nle c2
      have z2 : (2 : Int32).toInt = 2 := rfl
      refine li_aload_n 0 dX3_keepUnder_13 rfl ?_
      refine li_getr (k := 1) (N := 6) (T := TX3) (C0 := RX3) dX3_keepUnder_14 (by decide) sh_21 rfl rfl (by decide) (by decide) li_in3 w_290 ?_
      refine li_iload_n 1 dX3_keepUnder_17 rfl ?_
      have vn3 : vp_in p1 2 := tl_in (by omega)
      have n3 : (p1 : Int32).toNatClampNeg < 2 := Nat.not_le.mp fun q => vn3 (Or.inr q)
      refine li_aald (b := 128) dX3_keepUnder_18 (by decide) sh_23 vn3 ?_
      refine li_ifnonnull 24 dX3_keepUnder_19 (by decide) ?_
      refine li_aload_n 0 dX3_keepUnder_24 rfl ?_
      refine li_getr (k := 1) (N := 6) (T := TX3) (C0 := RX3) dX3_keepUnder_25 (by decide) sh_21 rfl rfl (by decide) (by decide) li_in3 w_290 ?_
      refine li_iload_n 1 dX3_keepUnder_28 rfl ?_
      have vn4 : vp_in p1 2 := tl_in (by omega)
      have n4 : (p1 : Int32).toNatClampNeg < 2 := Nat.not_le.mp fun q => vn4 (Or.inr q)
      refine li_aald (b := 128) dX3_keepUnder_29 (by decide) sh_23 vn4 ?_
      refine li_aload_n 2 dX3_keepUnder_30 rfl ?_
      refine li_callV (n := 1) (As := [.ref (Z.2.2 13)]) dX3_keepUnder_31 (k_X4_copyFrom (d - 1) (by omega) (lg_kept n4) lgb_13 M0) (by omega) (Nat.le_of_ble_eq_true rfl) w_847 w_848 w_849 w_105 w_850 (by decide +kernel) rfl (snL0 (lg_kept n4)) (shL0 (lg_kept n4)) rfl rfl (Nat.le_of_ble_eq_true rfl) (fun r M6 h7 => ?_)
      obtain ⟨rfl, h7⟩ := h7
      have hf := li_fr_trans hf h7 (fun i (h : i = (128 + 8 * (p1 : Int32).toNatClampNeg) ∨ i = ((128 + 8 * (p1 : Int32).toNatClampNeg)) + 1 ∨ i = ((128 + 8 * (p1 : Int32).toNatClampNeg)) + 2 ∨ i = ((128 + 8 * (p1 : Int32).toNatClampNeg)) + 3 ∨ i = ((128 + 8 * (p1 : Int32).toNatClampNeg)) + 4 ∨ i = ((128 + 8 * (p1 : Int32).toNatClampNeg)) + 5 ∨ i = ((128 + 8 * (p1 : Int32).toNatClampNeg)) + 6 ∨ i = ((128 + 8 * (p1 : Int32).toNatClampNeg)) + 7) => (show i = 21 ∨ (128 ≤ i ∧ i < 144) by omega))
      refine li_aload_n 0 dX3_keepUnder_34 rfl ?_
      refine li_dup dX3_keepUnder_35 rfl ?_
      refine li_geti (k := 3) (N := 6) (T := TX3) (C0 := RX3) dX3_keepUnder_36 (by decide) sh_21 rfl rfl (by decide) li_in3 w_292 ?_
      refine li_top (fun x8 ex8 => ?_)
      have gx8 := tl_rg x8
      refine li_iconst 1 dX3_keepUnder_39 (by decide) ?_
      refine li_iload_n 1 dX3_keepUnder_40 rfl ?_
      refine li_ishl dX3_keepUnder_41 ?_
      refine li_top (fun x9 ex9 => ?_)
      refine li_ior dX3_keepUnder_42 ?_
      refine li_top (fun x10 ex10 => ?_)
      refine li_puti (k := 3) (N := 6) (T := TX3) (C0 := RX3) dX3_keepUnder_43 (by decide) sh_21 rfl rfl (by decide) li_in3 tyX3_ok nmX3 rfl rfl rfl rfl w_292 ?_
      refine li_nm (fun M11 eM11 => ?_)
      have hf := li_fr_ui hf (show 21 = 21 ∨ (128 ≤ 21 ∧ 21 < 144) by omega) eM11
      have k12 : M11.1 21 3 = x10 := by rw [eM11, li_ui_at, if_pos rfl, if_pos rfl]
      refine li_iconst 1 dX3_keepUnder_46 (by decide) ?_
      have z1 : (1 : Int32).toInt = 1 := rfl
      exact li_iret dX3_keepUnder_47 rfl (li_nz (Or.inr rfl)) ⟨⟨_, rfl, Or.inr rfl, (by first | omega | (intro _; omega) | (intro h; exact absurd h (by decide)))⟩, hf⟩
set_option maxRecDepth 100000 in
set_option maxHeartbeats 4000000 in
theorem k2_X11_keep {l : Launch} {Z : li_Z} (d : Nat) (hd : 3 ≤ d) (p1 : Int32) (M0 : li_M) : li_Met l Z YX11_keep d [.ref (Z.2.2 0), .int p1] M0 (fun r M' => (∃ x : Int32, r = some (.int x) ∧ (x = 0 ∨ x = 1) ∧ ((x.toInt = 1 ∧ 0 ≤ p1.toInt ∧ p1.toInt ≤ 1) ∨ (x.toInt = 0 ∧ (p1.toInt < 0 ∨ 1 < p1.toInt)))) ∧ li_fr (fun i => i = 21 ∨ (128 ≤ i ∧ i < 144)) M0 M') := by
  refine li_enter (by decide +kernel) (Nat.le_of_ble_eq_true rfl) ?_
  show li_T l Z YX11_keep d 0 [(0, .ref (Z.2.2 0)), (1, .int p1)] [] M0 _
  have hf : li_fr (fun i => i = 21 ∨ (128 ≤ i ∧ i < 144)) M0 M0 := li_fr_refl
  have gp1 := tl_rg p1
  refine li_aload_n 0 dX11_keep_0 rfl ?_
  refine li_getr (k := 4) (N := 13) (T := TX11) (C0 := RX11) dX11_keep_1 (by decide) sh_0 rfl rfl (by decide) (by decide) li_in11 w_477 ?_
  refine li_iload_n 1 dX11_keep_4 rfl ?_
  refine li_aload_n 0 dX11_keep_5 rfl ?_
  refine li_getr (k := 3) (N := 13) (T := TX11) (C0 := RX11) dX11_keep_6 (by decide) sh_0 rfl rfl (by decide) (by decide) li_in11 w_476 ?_
  refine li_callV (n := 2) (As := [.int p1, .ref (Z.2.2 13)]) dX11_keep_9 (k2_X3_keepUnder (d - 1) (by omega) p1 M0) (by omega) (Nat.le_of_ble_eq_true rfl) w_1278 w_1279 w_1280 w_106 w_1281 (by decide +kernel) rfl (by decide) sh_21 rfl rfl (Nat.le_of_ble_eq_true rfl) (fun r M2 h3 => ?_)
  obtain ⟨⟨x1, rfl, bx1, qx1⟩, h3⟩ := h3
  have ux1 := tl_b bx1
  have hf := li_fr_trans hf h3 (fun i (h : i = 21 ∨ (128 ≤ i ∧ i < 144)) => (show i = 21 ∨ (128 ≤ i ∧ i < 144) by omega))
  exact li_iret dX11_keep_12 rfl (li_nz (bx1)) ⟨⟨_, rfl, bx1, (by first | omega | (intro _; omega) | (intro h; exact absurd h (by decide)))⟩, hf⟩
