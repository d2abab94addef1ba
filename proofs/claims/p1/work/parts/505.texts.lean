set_option maxRecDepth 100000 in
set_option maxHeartbeats 4000000 in
theorem k2_X7_addFour {l : Launch} {Z : li_Z} (d : Nat) (hd : 2 ≤ d) (p1 : Int32) (M0 : li_M) (h1 : 0 ≤ (M0.1 1 1).toInt ∧ (M0.1 1 1).toInt ≤ 80) : li_Met l Z YX7_addFour d [.ref (Z.2.2 1), .int p1] M0 (fun r M' => (∃ x : Int32, r = some (.int x) ∧ (x = 0 ∨ x = 1) ∧ ((x.toInt = 0 ∧ 80 < (M0.1 1 1).toInt + 4 ∧ (M'.1 1 1).toInt = (M0.1 1 1).toInt) ∨ (x.toInt = 1 ∧ (M0.1 1 1).toInt + 4 ≤ 80 ∧ (M'.1 1 1).toInt = (M0.1 1 1).toInt + 4))) ∧ li_fr (fun i => i = 1 ∨ i = 2) M0 M') := by
  refine li_enter (by decide +kernel) (Nat.le_of_ble_eq_true rfl) ?_
  show li_T l Z YX7_addFour d 0 [(0, .ref (Z.2.2 1)), (1, .int p1)] [] M0 _
  have hf : li_fr (fun i => i = 1 ∨ i = 2) M0 M0 := li_fr_refl
  have gp1 := tl_rg p1
  refine li_aload_n 0 dX7_addFour_0 rfl ?_
  refine li_geti (k := 1) (N := 3) (T := TX7) (C0 := RX7) dX7_addFour_1 (by decide) sh_1 rfl rfl (by decide) li_in7 w_139 ?_
  refine li_top (fun x1 ex1 => ?_)
  have gx1 := tl_rg x1
  have vx1 : x1.toInt = (M0.1 1 1).toInt := tl_eq ex1
  refine li_iconst 4 dX7_addFour_4 (by decide) ?_
  refine li_iadd dX7_addFour_5 ?_
  refine li_top (fun x2 ex2 => ?_)
  have tx2 : (-2147483648 ≤ x1.toInt + 4 ∧ x1.toInt + 4 ≤ 2147483647) → x2.toInt = x1.toInt + 4 := tl_add ex2
  refine li_bipush 80 dX7_addFour_6 (by decide) ?_
  refine li_icmp_le 13 dX7_addFour_8 (by decide) (fun c3 => ?_) (fun c3 => ?_)
  · have tc3 : x2.toInt ≤ 80 := tl_le c3
    have z80 : (80 : Int32).toInt = 80 := rfl
    refine li_bipush 24 dX7_addFour_13 (by decide) ?_
    refine li_istore_n [(2, .int 24), (0, .ref (Z.2.2 1)), (1, .int p1)] dX7_addFour_15 (by decide) rfl ?_
    have L16 : ∀ (n : Nat) (x4 : Int32) (M5 : li_M), ((x4 : Int32).toInt + 8).toNat < n → li_fr (fun i => i = 1 ∨ i = 2) M0 M5 → 8 * (M5.1 1 1).toInt = 8 * (M0.1 1 1).toInt + 24 - (x4 : Int32).toInt ∧ -8 ≤ (x4 : Int32).toInt ∧ (x4 : Int32).toInt ≤ 24 ∧ (M0.1 1 1).toInt + 4 ≤ 80 → li_T l Z YX7_addFour d 16 [(2, .int x4), (0, .ref (Z.2.2 1)), (1, .int p1)] [] M5 (fun r M' => (∃ x : Int32, r = some (.int x) ∧ (x = 0 ∨ x = 1) ∧ ((x.toInt = 0 ∧ 80 < (M0.1 1 1).toInt + 4 ∧ (M'.1 1 1).toInt = (M0.1 1 1).toInt) ∨ (x.toInt = 1 ∧ (M0.1 1 1).toInt + 4 ≤ 80 ∧ (M'.1 1 1).toInt = (M0.1 1 1).toInt + 4))) ∧ li_fr (fun i => i = 1 ∨ i = 2) M0 M') := by
      intro n
      induction n with
      | zero => intro x4 M5 hn; exact absurd hn (Nat.not_lt_zero _)
      | succ n ih16 =>
        intro x4 M5 hn hf hi
        have gx4 := tl_rg x4
        refine li_iload_n 0 dX7_addFour_16 rfl ?_
        refine li_if_lt 54 dX7_addFour_17 (by decide) (fun c6 => ?_) (fun c6 => ?_)
        · have tc6 : x4.toInt < 0 := tl_lt c6
          have z0 : (0 : Int32).toInt = 0 := rfl
          refine li_iconst 1 dX7_addFour_54 (by decide) ?_
          have z1 : (1 : Int32).toInt = 1 := rfl
          exact li_iret dX7_addFour_55 rfl (li_nz (Or.inr rfl)) ⟨⟨_, rfl, Or.inr rfl, (by first | omega | (intro _; omega) | (intro h; exact absurd h (by decide)))⟩, hf⟩
        · have tc6 : 0 ≤ x4.toInt := tl_nlt c6
          have z0 : (0 : Int32).toInt = 0 := rfl
          refine li_aload_n 1 dX7_addFour_20 rfl ?_
          refine li_getr (k := 0) (N := 3) (T := TX7) (C0 := RX7) dX7_addFour_21 (by decide) sh_1 rfl rfl (by decide) (by decide) li_in7 w_138 ?_
          refine li_aload_n 1 dX7_addFour_24 rfl ?_
          refine li_geti (k := 1) (N := 3) (T := TX7) (C0 := RX7) dX7_addFour_25 (by decide) sh_1 rfl rfl (by decide) li_in7 w_139 ?_
          refine li_top (fun x7 ex7 => ?_)
          have gx7 := tl_rg x7
          have vx7 : x7.toInt = (M5.1 1 1).toInt := tl_eq ex7
          refine li_iload_n 2 dX7_addFour_28 rfl ?_
          refine li_iload_n 0 dX7_addFour_29 rfl ?_
          refine li_iushr dX7_addFour_30 ?_
          refine li_top (fun x8 ex8 => ?_)
          refine li_sipush 255 dX7_addFour_31 (by decide) ?_
          refine li_iand dX7_addFour_34 ?_
          refine li_top (fun x9 ex9 => ?_)
          have tx9 := tl_and255 ex9
          refine li_callN (n := 3) (As := [.ref (Z.2.2 2), .int x7, .int x9]) dX7_addFour_35 (k_X11_put (d - 1) (by omega) (by decide) sh_2 (by decide) x7 x9 M5) (by omega) (Nat.le_of_ble_eq_true rfl) nw_7 w_522 w_101 w_523 (by decide +kernel) rfl rfl (Nat.le_of_ble_eq_true rfl) (fun r M11 h12 => ?_)
          obtain ⟨rfl, h12⟩ := h12
          have hf := li_fr_trans hf h12 (fun i (h : i = 2) => (show i = 1 ∨ i = 2 by omega))
          have mM11_1_1 : (M11.1 1 1).toInt = (M5.1 1 1).toInt := by rw [h12.1 1 (show ¬ (1 = 2) by omega)]
          refine li_aload_n 1 dX7_addFour_38 rfl ?_
          refine li_dup dX7_addFour_39 rfl ?_
          refine li_geti (k := 1) (N := 3) (T := TX7) (C0 := RX7) dX7_addFour_40 (by decide) sh_1 rfl rfl (by decide) li_in7 w_139 ?_
          refine li_top (fun x13 ex13 => ?_)
          have gx13 := tl_rg x13
          have vx13 : x13.toInt = (M11.1 1 1).toInt := tl_eq ex13
          refine li_iconst 1 dX7_addFour_43 (by decide) ?_
          refine li_iadd dX7_addFour_44 ?_
          refine li_top (fun x14 ex14 => ?_)
          have tx14 : (-2147483648 ≤ x13.toInt + 1 ∧ x13.toInt + 1 ≤ 2147483647) → x14.toInt = x13.toInt + 1 := tl_add ex14
          refine li_puti (k := 1) (N := 3) (T := TX7) (C0 := RX7) dX7_addFour_45 (by decide) sh_1 rfl rfl (by decide) li_in7 tyX7_ok nmX7 rfl rfl rfl rfl w_139 ?_
          refine li_nm (fun M15 eM15 => ?_)
          have hf := li_fr_ui hf (show 1 = 1 ∨ 1 = 2 by omega) eM15
          have mM15_1_1 : (M15.1 1 1).toInt = x14.toInt := by rw [eM15, li_ui_at, if_pos rfl, if_pos rfl]
          have k16 : M15.1 1 1 = x14 := by rw [eM15, li_ui_at, if_pos rfl, if_pos rfl]
          obtain ⟨x17, ex17⟩ : ∃ y : Int32, y = x4 + (-8) := ⟨_, rfl⟩
          have tx17 : (-2147483648 ≤ x4.toInt + (-8) ∧ x4.toInt + (-8) ≤ 2147483647) → x17.toInt = x4.toInt + (-8) := tl_add ex17
          refine li_iinc 0 [(2, .int x17), (0, .ref (Z.2.2 1)), (1, .int p1)] x17 dX7_addFour_48 rfl (by rw [ex17]; rfl) (by decide) rfl ?_
          refine li_goto 16 dX7_addFour_51 (by decide) ?_
          refine li_pick [0, 1, 2] [(2, .int x17), (0, .ref (Z.2.2 1)), (1, .int p1)] rfl ?_
          exact ih16 x17 M15 (by omega) hf (by omega)
    have z24 : (24 : Int32).toInt = 24 := rfl
    exact L16 _ 24 M0 (Nat.lt_succ_self _) hf (by omega)
  · have tc3 : 80 < x2.toInt := tl_nle c3
    have z80 : (80 : Int32).toInt = 80 := rfl
    refine li_iconst 0 dX7_addFour_11 (by decide) ?_
    have z0 : (0 : Int32).toInt = 0 := rfl
    exact li_iret dX7_addFour_12 rfl (li_nz (Or.inl rfl)) ⟨⟨_, rfl, Or.inl rfl, (by first | omega | (intro _; omega) | (intro h; exact absurd h (by decide)))⟩, hf⟩
set_option maxRecDepth 100000 in
set_option maxHeartbeats 4000000 in
theorem k2_X7_cutTo {l : Launch} {Z : li_Z} (d : Nat) (hd : 1 ≤ d) (p1 : Int32) (M0 : li_M) : li_Met l Z YX7_cutTo d [.ref (Z.2.2 1), .int p1] M0 (fun r M' => (∃ x : Int32, r = some (.int x) ∧ (x = 0 ∨ x = 1) ∧ ((x.toInt = 1 ∧ 0 ≤ p1.toInt ∧ p1.toInt ≤ (M0.1 1 1).toInt ∧ (M'.1 1 1).toInt = p1.toInt) ∨ (x.toInt = 0 ∧ (p1.toInt < 0 ∨ (M0.1 1 1).toInt < p1.toInt) ∧ (M'.1 1 1).toInt = (M0.1 1 1).toInt))) ∧ li_fr (fun i => i = 1) M0 M') := by
  refine li_enter (by decide +kernel) (Nat.le_of_ble_eq_true rfl) ?_
  show li_T l Z YX7_cutTo d 0 [(0, .ref (Z.2.2 1)), (1, .int p1)] [] M0 _
  have hf : li_fr (fun i => i = 1) M0 M0 := li_fr_refl
  have gp1 := tl_rg p1
  refine li_iload_n 1 dX7_cutTo_0 rfl ?_
  refine li_if_lt 12 dX7_cutTo_1 (by decide) (fun c1 => ?_) (fun c1 => ?_)
  · have tc1 : p1.toInt < 0 := tl_lt c1
    have z0 : (0 : Int32).toInt = 0 := rfl
    refine li_iconst 0 dX7_cutTo_12 (by decide) ?_
    have z0 : (0 : Int32).toInt = 0 := rfl
    exact li_iret dX7_cutTo_13 rfl (li_nz (Or.inl rfl)) ⟨⟨_, rfl, Or.inl rfl, (by first | omega | (intro _; omega) | (intro h; exact absurd h (by decide)))⟩, hf⟩
  · have tc1 : 0 ≤ p1.toInt := tl_nlt c1
    have z0 : (0 : Int32).toInt = 0 := rfl
    refine li_iload_n 1 dX7_cutTo_4 rfl ?_
    refine li_aload_n 0 dX7_cutTo_5 rfl ?_
    refine li_geti (k := 1) (N := 3) (T := TX7) (C0 := RX7) dX7_cutTo_6 (by decide) sh_1 rfl rfl (by decide) li_in7 w_139 ?_
    refine li_top (fun x2 ex2 => ?_)
    have gx2 := tl_rg x2
    have vx2 : x2.toInt = (M0.1 1 1).toInt := tl_eq ex2
    refine li_icmp_le 14 dX7_cutTo_9 (by decide) (fun c3 => ?_) (fun c3 => ?_)
    · have tc3 : p1.toInt ≤ x2.toInt := tl_le c3
      refine li_aload_n 0 dX7_cutTo_14 rfl ?_
      refine li_iload_n 1 dX7_cutTo_15 rfl ?_
      refine li_puti (k := 1) (N := 3) (T := TX7) (C0 := RX7) dX7_cutTo_16 (by decide) sh_1 rfl rfl (by decide) li_in7 tyX7_ok nmX7 rfl rfl rfl rfl w_139 ?_
      refine li_nm (fun M4 eM4 => ?_)
      have hf := li_fr_ui hf (show 1 = 1 by omega) eM4
      have mM4_1_1 : (M4.1 1 1).toInt = p1.toInt := by rw [eM4, li_ui_at, if_pos rfl, if_pos rfl]
      have k5 : M4.1 1 1 = p1 := by rw [eM4, li_ui_at, if_pos rfl, if_pos rfl]
      refine li_iconst 1 dX7_cutTo_19 (by decide) ?_
      have z1 : (1 : Int32).toInt = 1 := rfl
      exact li_iret dX7_cutTo_20 rfl (li_nz (Or.inr rfl)) ⟨⟨_, rfl, Or.inr rfl, (by first | omega | (intro _; omega) | (intro h; exact absurd h (by decide)))⟩, hf⟩
    · have tc3 : x2.toInt < p1.toInt := tl_nle c3
      refine li_iconst 0 dX7_cutTo_12 (by decide) ?_
      have z0 : (0 : Int32).toInt = 0 := rfl
      exact li_iret dX7_cutTo_13 rfl (li_nz (Or.inl rfl)) ⟨⟨_, rfl, Or.inl rfl, (by first | omega | (intro _; omega) | (intro h; exact absurd h (by decide)))⟩, hf⟩
set_option maxRecDepth 100000 in
set_option maxHeartbeats 4000000 in
theorem k3_X11_sign {l : Launch} {Z : li_Z} (d : Nat) (hd : 3 ≤ d) (p1 : Int32) (M0 : li_M) (h1 : 0 ≤ (M0.1 1 1).toInt ∧ (M0.1 1 1).toInt ≤ 80) : li_Met l Z YX11_sign d [.ref (Z.2.2 0), .int p1] M0 (fun r M' => (∃ x : Int32, r = some (.int x) ∧ ((x.toInt = -1 ∧ 80 < (M0.1 1 1).toInt + 4 ∧ (M'.1 1 1).toInt = (M0.1 1 1).toInt) ∨ (x.toInt = (M0.1 1 1).toInt + 4 ∧ (M0.1 1 1).toInt + 4 ≤ 80 ∧ (M'.1 1 1).toInt = (M0.1 1 1).toInt + 4))) ∧ li_fr (fun i => i = 1 ∨ i = 2) M0 M') := by
  refine li_enter (by decide +kernel) (Nat.le_of_ble_eq_true rfl) ?_
  show li_T l Z YX11_sign d 0 [(0, .ref (Z.2.2 0)), (1, .int p1)] [] M0 _
  have hf : li_fr (fun i => i = 1 ∨ i = 2) M0 M0 := li_fr_refl
  have gp1 := tl_rg p1
  refine li_aload_n 0 dX11_sign_0 rfl ?_
  refine li_getr (k := 0) (N := 13) (T := TX11) (C0 := RX11) dX11_sign_1 (by decide) sh_0 rfl rfl (by decide) (by decide) li_in11 w_473 ?_
  refine li_iload_n 1 dX11_sign_4 rfl ?_
  refine li_callV (n := 1) (As := [.int p1]) dX11_sign_5 (k2_X7_addFour (d - 1) (by omega) p1 M0 (by omega)) (by omega) (Nat.le_of_ble_eq_true rfl) w_517 w_518 w_519 w_102 w_520 (by decide +kernel) rfl (by decide) sh_1 rfl rfl (Nat.le_of_ble_eq_true rfl) (fun r M2 h3 => ?_)
  obtain ⟨⟨x1, rfl, bx1, qx1⟩, h3⟩ := h3
  have ux1 := tl_b bx1
  have hf := li_fr_trans hf h3 (fun i (h : i = 1 ∨ i = 2) => (show i = 1 ∨ i = 2 by omega))
  refine li_if_eq 21 dX11_sign_8 (by decide) (fun c4 => ?_) (fun c4 => ?_)
  · have tc4 : x1.toInt = 0 := tl_eq c4
    refine li_iconst (-1) dX11_sign_21 (by decide) ?_
    have zm1 : ((-1) : Int32).toInt = -1 := rfl
    exact li_iret dX11_sign_22 rfl rfl ⟨⟨_, rfl, (by first | omega | (intro _; omega) | (intro h; exact absurd h (by decide)))⟩, hf⟩
  · have tc4 : ¬ x1.toInt = 0 := tl_ne c4
    refine li_aload_n 0 dX11_sign_11 rfl ?_
    refine li_getr (k := 0) (N := 13) (T := TX11) (C0 := RX11) dX11_sign_12 (by decide) sh_0 rfl rfl (by decide) (by decide) li_in11 w_473 ?_
    refine li_geti (k := 1) (N := 3) (T := TX7) (C0 := RX7) dX11_sign_15 (by decide) sh_1 rfl rfl (by decide) li_in7 w_140 ?_
    refine li_top (fun x5 ex5 => ?_)
    have gx5 := tl_rg x5
    have vx5 : x5.toInt = (M2.1 1 1).toInt := tl_eq ex5
    refine li_goto 22 dX11_sign_18 (by decide) ?_
    exact li_iret dX11_sign_22 rfl rfl ⟨⟨_, rfl, (by first | omega | (intro _; omega) | (intro h; exact absurd h (by decide)))⟩, hf⟩
set_option maxRecDepth 100000 in
set_option maxHeartbeats 4000000 in
theorem k3_X11_end {l : Launch} {Z : li_Z} (d : Nat) (hd : 2 ≤ d) (p1 : Int32) (M0 : li_M) : li_Met l Z YX11_end d [.ref (Z.2.2 0), .int p1] M0 (fun r M' => (∃ x : Int32, r = some (.int x) ∧ (x = 0 ∨ x = 1) ∧ ((x.toInt = 1 ∧ 0 ≤ p1.toInt ∧ p1.toInt ≤ (M0.1 1 1).toInt ∧ (M'.1 1 1).toInt = p1.toInt) ∨ (x.toInt = 0 ∧ (p1.toInt < 0 ∨ (M0.1 1 1).toInt < p1.toInt) ∧ (M'.1 1 1).toInt = (M0.1 1 1).toInt))) ∧ li_fr (fun i => i = 1) M0 M') := by
  refine li_enter (by decide +kernel) (Nat.le_of_ble_eq_true rfl) ?_
  show li_T l Z YX11_end d 0 [(0, .ref (Z.2.2 0)), (1, .int p1)] [] M0 _
  have hf : li_fr (fun i => i = 1) M0 M0 := li_fr_refl
  have gp1 := tl_rg p1
  refine li_aload_n 0 dX11_end_0 rfl ?_
  refine li_getr (k := 0) (N := 13) (T := TX11) (C0 := RX11) dX11_end_1 (by decide) sh_0 rfl rfl (by decide) (by decide) li_in11 w_473 ?_
  refine li_iload_n 1 dX11_end_4 rfl ?_
  refine li_callV (n := 1) (As := [.int p1]) dX11_end_5 (k2_X7_cutTo (d - 1) (by omega) p1 M0) (by omega) (Nat.le_of_ble_eq_true rfl) w_528 w_529 w_530 w_102 w_531 (by decide +kernel) rfl (by decide) sh_1 rfl rfl (Nat.le_of_ble_eq_true rfl) (fun r M2 h3 => ?_)
  obtain ⟨⟨x1, rfl, bx1, qx1⟩, h3⟩ := h3
  have ux1 := tl_b bx1
  have hf := li_fr_trans hf h3 (fun i (h : i = 1) => (show i = 1 by omega))
  exact li_iret dX11_end_8 rfl (li_nz (bx1)) ⟨⟨_, rfl, bx1, (by first | omega | (intro _; omega) | (intro h; exact absurd h (by decide)))⟩, hf⟩
