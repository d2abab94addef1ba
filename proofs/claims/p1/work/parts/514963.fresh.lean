set_option maxRecDepth 100000 in
set_option maxHeartbeats 4000000 in
theorem k15_X4_beginYear {l : Launch} {Z : li_Z} (d : Nat) (hdZq : 2 ≤ d) (M0 : li_M) : li_Met l Z YX4_beginYear d [.ref (Z.2.2 13), .ref (Z.2.2 5)] M0 (fun r M' => r = none ∧ li_fr (fun i => i = 13 ∨ i = 14 ∨ i = 15) M0 M' ∧ (M'.1 13 0).toInt = (M0.1 13 0).toInt ∧ (M'.1 13 2).toInt = (M0.1 13 2).toInt) := by
  refine li_enter (by decide +kernel) (Nat.le_of_ble_eq_true rfl) ?_
  show li_T l Z YX4_beginYear d 0 [(0, .ref (Z.2.2 13)), (1, .ref (Z.2.2 5))] [] M0 _
  have hf : li_fr (fun i => i = 13 ∨ i = 14 ∨ i = 15) M0 M0 := li_fr_refl
  refine li_aload_n 0 dX4_beginYear_0 rfl ?_
  refine li_iconst 0 dX4_beginYear_1 (by decide) ?_
  refine li_puti (k := 1) (N := 11) (T := TX4) (C0 := RX4) dX4_beginYear_2 (by decide) sh_13 rfl rfl (by decide) li_in4 tyX4_ok nmX4 rfl rfl rfl rfl w_232 ?_
  refine li_nm (fun M1Zq eM1 => ?_)
  have hf := li_fr_ui hf (show 13 = 13 ∨ 13 = 14 ∨ 13 = 15 by omega) eM1
  have mM1_5_0 : (M1Zq.1 5 0).toInt = (M0.1 5 0).toInt := by rw [eM1, li_ui_at, if_neg (by decide)]
  have mM1_5_1 : (M1Zq.1 5 1).toInt = (M0.1 5 1).toInt := by rw [eM1, li_ui_at, if_neg (by decide)]
  have mM1_13_0 : (M1Zq.1 13 0).toInt = (M0.1 13 0).toInt := by rw [eM1, li_ui_at, if_pos rfl, if_neg (by decide)]
  have mM1_13_2 : (M1Zq.1 13 2).toInt = (M0.1 13 2).toInt := by rw [eM1, li_ui_at, if_pos rfl, if_neg (by decide)]
  have k2Zq : M1Zq.1 13 1 = 0 := by rw [eM1, li_ui_at, if_pos rfl, if_pos rfl]
  refine li_iconst 0 dX4_beginYear_5 (by decide) ?_
  refine li_istore_n [(2, .int 0), (0, .ref (Z.2.2 13)), (1, .ref (Z.2.2 5))] dX4_beginYear_6 (by decide) rfl ?_
  have L7 : ∀ (n : Nat) (x3 : Int32) (M4Zq : li_M), (7 - (x3 : Int32).toInt).toNat < n → li_fr (fun i => i = 13 ∨ i = 14 ∨ i = 15) M0 M4Zq → 0 ≤ (x3 : Int32).toInt ∧ (M4Zq.1 13 0).toInt = (M0.1 13 0).toInt ∧ (M4Zq.1 13 2).toInt = (M0.1 13 2).toInt → li_T l Z YX4_beginYear d 7 [(2, .int x3), (0, .ref (Z.2.2 13)), (1, .ref (Z.2.2 5))] [] M4Zq (fun r M' => r = none ∧ li_fr (fun i => i = 13 ∨ i = 14 ∨ i = 15) M0 M' ∧ (M'.1 13 0).toInt = (M0.1 13 0).toInt ∧ (M'.1 13 2).toInt = (M0.1 13 2).toInt) := by
    intro n
    induction n with
    | zero => intro x3 M4Zq hn; exact absurd hn (Nat.not_lt_zero _)
    | succ n ih7 =>
      intro x3 M4Zq hn hf hiZq
      have gx3 := tl_rg x3
      refine li_iload_n 0 dX4_beginYear_7 rfl ?_
      refine li_bipush 6 dX4_beginYear_8 (by decide) ?_
      refine li_icmp_ge 56 dX4_beginYear_10 (by decide) (fun c5Zq => ?_) (fun c5Zq => ?_)
      · have tc5 : 6 ≤ x3.toInt := tl_le c5Zq
        exact li_vret dX4_beginYear_56 rfl ⟨rfl, hf, (by omega)⟩
      · have tc5 : x3.toInt < 6 := tl_nle c5Zq
        refine li_aload_n 1 dX4_beginYear_13 rfl ?_
        refine li_getr (k := 4) (N := 11) (T := TX4) (C0 := RX4) dX4_beginYear_14 (by decide) sh_13 rfl rfl (by decide) (by decide) li_in4 w_239 ?_
        refine li_iload_n 0 dX4_beginYear_17 rfl ?_
        refine li_iload_n 0 dX4_beginYear_18 rfl ?_
        refine li_aload_n 2 dX4_beginYear_19 rfl ?_
        refine li_geti (k := 0) (N := 9) (T := TX8) (C0 := RX8) dX4_beginYear_20 (by decide) sh_5 rfl rfl (by decide) li_in8 w_176 ?_
        refine li_top (fun x6 ex6 => ?_)
        have gx6 := tl_rg x6
        have vx6 : x6.toInt = (M4Zq.1 5 0).toInt := tl_eq ex6
        have J38 : ∀ (x8 : Int32) (M9Zq : li_M), li_fr (fun i => i = 13 ∨ i = 14 ∨ i = 15) M0 M9Zq → (M9Zq.1 13 0).toInt = (M0.1 13 0).toInt ∧ (M9Zq.1 13 2).toInt = (M0.1 13 2).toInt → li_T l Z YX4_beginYear d 38 [(2, .int x3), (0, .ref (Z.2.2 13)), (1, .ref (Z.2.2 5))] [.int x8, .int x3, .ref (Z.2.2 14)] M9Zq (fun r M' => r = none ∧ li_fr (fun i => i = 13 ∨ i = 14 ∨ i = 15) M0 M' ∧ (M'.1 13 0).toInt = (M0.1 13 0).toInt ∧ (M'.1 13 2).toInt = (M0.1 13 2).toInt) := by
          intro x8 M9Zq hf hiZq
          have gx8 := tl_rg x8
          refine li_callN (n := 3) (As := [.ref (Z.2.2 14), .int x3, .int x8]) dX4_beginYear_38 (k_X11_put (d - 1) (by omega) (by decide) sh_14 (by decide) x3 x8 M9Zq) (by omega) (Nat.le_of_ble_eq_true rfl) nw_14 w_522 w_101 w_523 (by decide +kernel) rfl rfl (Nat.le_of_ble_eq_true rfl) (fun r M11 h12 => ?_)
          obtain ⟨rfl, h12⟩ := h12
          have hf := li_fr_trans hf h12 (fun i (hZq : i = 14) => (show i = 13 ∨ i = 14 ∨ i = 15 by omega))
          have mM11_5_0 : (M11.1 5 0).toInt = (M9Zq.1 5 0).toInt := by rw [h12.1 5 (show ¬ (5 = 14) by omega)]
          have mM11_5_1 : (M11.1 5 1).toInt = (M9Zq.1 5 1).toInt := by rw [h12.1 5 (show ¬ (5 = 14) by omega)]
          have mM11_13_0 : (M11.1 13 0).toInt = (M9Zq.1 13 0).toInt := by rw [h12.1 13 (show ¬ (13 = 14) by omega)]
          have mM11_13_2 : (M11.1 13 2).toInt = (M9Zq.1 13 2).toInt := by rw [h12.1 13 (show ¬ (13 = 14) by omega)]
          refine li_aload_n 1 dX4_beginYear_41 rfl ?_
          refine li_getr (k := 5) (N := 11) (T := TX4) (C0 := RX4) dX4_beginYear_42 (by decide) sh_13 rfl rfl (by decide) (by decide) li_in4 w_244 ?_
          refine li_iload_n 0 dX4_beginYear_45 rfl ?_
          refine li_iconst 0 dX4_beginYear_46 (by decide) ?_
          refine li_callN (n := 3) (As := [.ref (Z.2.2 15), .int x3, .int 0]) dX4_beginYear_47 (k_X11_put (d - 1) (by omega) (by decide) sh_15 (by decide) x3 0 M11) (by omega) (Nat.le_of_ble_eq_true rfl) nw_14 w_522 w_101 w_523 (by decide +kernel) rfl rfl (Nat.le_of_ble_eq_true rfl) (fun r M14 h15 => ?_)
          obtain ⟨rfl, h15⟩ := h15
          have hf := li_fr_trans hf h15 (fun i (hZq : i = 15) => (show i = 13 ∨ i = 14 ∨ i = 15 by omega))
          have mM14_5_0 : (M14.1 5 0).toInt = (M11.1 5 0).toInt := by rw [h15.1 5 (show ¬ (5 = 15) by omega)]
          have mM14_5_1 : (M14.1 5 1).toInt = (M11.1 5 1).toInt := by rw [h15.1 5 (show ¬ (5 = 15) by omega)]
          have mM14_13_0 : (M14.1 13 0).toInt = (M11.1 13 0).toInt := by rw [h15.1 13 (show ¬ (13 = 15) by omega)]
          have mM14_13_2 : (M14.1 13 2).toInt = (M11.1 13 2).toInt := by rw [h15.1 13 (show ¬ (13 = 15) by omega)]
          obtain ⟨x16, ex16⟩ : ∃ y : Int32, y = x3 + 1 := ⟨_, rfl⟩
          have tx16 : (-2147483648 ≤ x3.toInt + 1 ∧ x3.toInt + 1 ≤ 2147483647) → x16.toInt = x3.toInt + 1 := tl_add ex16
          refine li_iinc 0 [(2, .int x16), (0, .ref (Z.2.2 13)), (1, .ref (Z.2.2 5))] x16 dX4_beginYear_50 rfl (by rw [ex16]; rfl) (by decide) rfl ?_
          refine li_goto 7 dX4_beginYear_53 (by decide) ?_
          refine li_pick [0, 1, 2] [(2, .int x16), (0, .ref (Z.2.2 13)), (1, .ref (Z.2.2 5))] rfl ?_
          exact ih7 x16 M14 (by omega) hf (by omega)
        refine li_icmp_ge 37 dX4_beginYear_23 (by decide) (fun c7Zq => ?_) (fun c7Zq => ?_)
        · have tc7 : x6.toInt ≤ x3.toInt := tl_le c7Zq
          refine li_iconst 0 dX4_beginYear_37 (by decide) ?_
          refine li_pick [0, 1, 2] [(2, .int x3), (0, .ref (Z.2.2 13)), (1, .ref (Z.2.2 5))] rfl ?_
          have z0 : (0 : Int32).toInt = 0 := rfl
          exact J38 0 M4Zq hf (by omega)
        · have tc7 : x3.toInt < x6.toInt := tl_nle c7Zq
          refine li_aload_n 2 dX4_beginYear_26 rfl ?_
          refine li_getr (k := 3) (N := 9) (T := TX8) (C0 := RX8) dX4_beginYear_27 (by decide) sh_5 rfl rfl (by decide) (by decide) li_in8 w_186 ?_
          refine li_iload_n 0 dX4_beginYear_30 rfl ?_
          refine li_callN (n := 2) (As := [.ref (Z.2.2 7), .int x3]) dX4_beginYear_31 (k_X11_at (d - 1) (by omega) (by decide) sh_7 (by decide) x3 M4Zq) (by omega) (Nat.le_of_ble_eq_true rfl) nw_13 w_569 w_101 w_570 (by decide +kernel) rfl rfl (Nat.le_of_ble_eq_true rfl) (fun r M18 h19 => ?_)
          obtain ⟨⟨x17, rfl⟩, h19⟩ := h19
          have gx17 := tl_rg x17
          have hf := li_fr_trans hf h19 (fun i hZq => False.elim hZq)
          have mM18_5_0 : (M18.1 5 0).toInt = (M4Zq.1 5 0).toInt := by rw [h19.1 5 id]
          have mM18_5_1 : (M18.1 5 1).toInt = (M4Zq.1 5 1).toInt := by rw [h19.1 5 id]
          have mM18_13_0 : (M18.1 13 0).toInt = (M4Zq.1 13 0).toInt := by rw [h19.1 13 id]
          have mM18_13_2 : (M18.1 13 2).toInt = (M4Zq.1 13 2).toInt := by rw [h19.1 13 id]
          refine li_goto 38 dX4_beginYear_34 (by decide) ?_
          refine li_pick [0, 1, 2] [(2, .int x3), (0, .ref (Z.2.2 13)), (1, .ref (Z.2.2 5))] rfl ?_
          exact J38 x17 M18 hf (by omega)
  have z0 : (0 : Int32).toInt = 0 := rfl
  exact L7 _ 0 M1Zq (Nat.lt_succ_self _) hf (by omega)
set_option maxRecDepth 100000 in
set_option maxHeartbeats 4000000 in
theorem k15_X4_passDay {l : Launch} {Z : li_Z} (d : Nat) (hdZq : 3 ≤ d) (M0 : li_M) (z132 : (M0.1 13 2).toInt = 0) (zd : 0 ≤ (M0.1 13 0).toInt ∧ (M0.1 13 0).toInt ≤ 100000) : li_Met l Z YX4_passDay d [.ref (Z.2.2 13), .ref (Z.2.2 5)] M0 (fun r M' => r = none ∧ li_fr (fun i => i = 13 ∨ i = 14 ∨ i = 15) M0 M' ∧ (M'.1 13 0).toInt = (M0.1 13 0).toInt + 1 ∧ (M'.1 13 2).toInt = 0) := by
  refine li_enter (by decide +kernel) (Nat.le_of_ble_eq_true rfl) ?_
  show li_T l Z YX4_passDay d 0 [(0, .ref (Z.2.2 13)), (1, .ref (Z.2.2 5))] [] M0 _
  have hf : li_fr (fun i => i = 13 ∨ i = 14 ∨ i = 15) M0 M0 := li_fr_refl
  refine li_aload_n 0 dX4_passDay_0 rfl ?_
  refine li_dup dX4_passDay_1 rfl ?_
  refine li_geti (k := 0) (N := 11) (T := TX4) (C0 := RX4) dX4_passDay_2 (by decide) sh_13 rfl rfl (by decide) li_in4 w_229 ?_
  refine li_top (fun x1Zq ex1 => ?_)
  have gx1 := tl_rg x1Zq
  have vx1 : x1Zq.toInt = (M0.1 13 0).toInt := tl_eq ex1
  refine li_iconst 1 dX4_passDay_5 (by decide) ?_
  refine li_iadd dX4_passDay_6 ?_
  refine li_top (fun x2Zq ex2Zq => ?_)
  have tx2 : (-2147483648 ≤ x1Zq.toInt + 1 ∧ x1Zq.toInt + 1 ≤ 2147483647) → x2Zq.toInt = x1Zq.toInt + 1 := tl_add ex2Zq
  refine li_puti (k := 0) (N := 11) (T := TX4) (C0 := RX4) dX4_passDay_7 (by decide) sh_13 rfl rfl (by decide) li_in4 tyX4_ok nmX4 rfl rfl rfl rfl w_229 ?_
  refine li_nm (fun M3Zq eM3 => ?_)
  have hf := li_fr_ui hf (show 13 = 13 ∨ 13 = 14 ∨ 13 = 15 by omega) eM3
  have mM3_5_0 : (M3Zq.1 5 0).toInt = (M0.1 5 0).toInt := by rw [eM3, li_ui_at, if_neg (by decide)]
  have mM3_5_1 : (M3Zq.1 5 1).toInt = (M0.1 5 1).toInt := by rw [eM3, li_ui_at, if_neg (by decide)]
  have mM3_13_0 : (M3Zq.1 13 0).toInt = x2Zq.toInt := by rw [eM3, li_ui_at, if_pos rfl, if_pos rfl]
  have mM3_13_2 : (M3Zq.1 13 2).toInt = (M0.1 13 2).toInt := by rw [eM3, li_ui_at, if_pos rfl, if_neg (by decide)]
  have k4Zq : M3Zq.1 13 0 = x2Zq := by rw [eM3, li_ui_at, if_pos rfl, if_pos rfl]
  refine li_aload_n 0 dX4_passDay_10 rfl ?_
  refine li_geti (k := 0) (N := 11) (T := TX4) (C0 := RX4) dX4_passDay_11 (by decide) sh_13 rfl rfl (by decide) li_in4 w_229 ?_
  refine li_top (fun x5Zq ex5 => ?_)
  have gx5 := tl_rg x5Zq
  have vx5 : x5Zq.toInt = (M3Zq.1 13 0).toInt := tl_eq ex5
  have tvx5 : x5Zq.toInt = x2Zq.toInt := tl_eq (ex5.trans k4Zq)
  refine li_bipush 30 dX4_passDay_14 (by decide) ?_
  refine li_irem dX4_passDay_16 (by decide) ?_
  refine li_top (fun x6 ex6 => ?_)
  have J24 : ∀  (M8Zq : li_M), li_fr (fun i => i = 13 ∨ i = 14 ∨ i = 15) M0 M8Zq → (M8Zq.1 13 2).toInt = 0 ∧ (M8Zq.1 13 0).toInt = (M0.1 13 0).toInt + 1 → li_T l Z YX4_passDay d 24 [(0, .ref (Z.2.2 13)), (1, .ref (Z.2.2 5))] [] M8Zq (fun r M' => r = none ∧ li_fr (fun i => i = 13 ∨ i = 14 ∨ i = 15) M0 M' ∧ (M'.1 13 0).toInt = (M0.1 13 0).toInt + 1 ∧ (M'.1 13 2).toInt = 0) := by
    intro  M8Zq hf hiZq
    refine li_iconst 0 dX4_passDay_24 (by decide) ?_
    refine li_istore_n [(2, .int 0), (0, .ref (Z.2.2 13)), (1, .ref (Z.2.2 5))] dX4_passDay_25 (by decide) rfl ?_
    have L26 : ∀ (n : Nat) (x9 : Int32) (M10 : li_M), ((x9 : Int32).toInt).toNat < n → li_fr (fun i => i = 13 ∨ i = 14 ∨ i = 15) M0 M10 → 0 ≤ (x9 : Int32).toInt ∧ (M10.1 13 2).toInt = 0 ∧ (M10.1 13 0).toInt = (M0.1 13 0).toInt + 1 → li_T l Z YX4_passDay d 26 [(2, .int x9), (0, .ref (Z.2.2 13)), (1, .ref (Z.2.2 5))] [] M10 (fun r M' => r = none ∧ li_fr (fun i => i = 13 ∨ i = 14 ∨ i = 15) M0 M' ∧ (M'.1 13 0).toInt = (M0.1 13 0).toInt + 1 ∧ (M'.1 13 2).toInt = 0) := by
      intro n
      induction n with
      | zero => intro x9 M10 hn; exact absurd hn (Nat.not_lt_zero _)
      | succ n ih26 =>
        intro x9 M10 hn hf hiZq
        have gx9 := tl_rg x9
        refine li_iload_n 0 dX4_passDay_26 rfl ?_
        refine li_aload_n 1 dX4_passDay_27 rfl ?_
        refine li_geti (k := 2) (N := 11) (T := TX4) (C0 := RX4) dX4_passDay_28 (by decide) sh_13 rfl rfl (by decide) li_in4 w_235 ?_
        refine li_top (fun x11 ex11 => ?_)
        have gx11 := tl_rg x11
        have vx11 : x11.toInt = (M10.1 13 2).toInt := tl_eq ex11
        refine li_icmp_ge 68 dX4_passDay_31 (by decide) (fun c12Zq => ?_) (fun c12Zq => ?_)
        · have tc12 : x11.toInt ≤ x9.toInt := tl_le c12Zq
          refine li_aload_n 1 dX4_passDay_68 rfl ?_
          refine li_geti (k := 0) (N := 11) (T := TX4) (C0 := RX4) dX4_passDay_69 (by decide) sh_13 rfl rfl (by decide) li_in4 w_229 ?_
          refine li_top (fun x13 ex13 => ?_)
          have gx13 := tl_rg x13
          have vx13 : x13.toInt = (M10.1 13 0).toInt := tl_eq ex13
          refine li_bipush 100 dX4_passDay_72 (by decide) ?_
          refine li_irem dX4_passDay_74 (by decide) ?_
          refine li_top (fun x14 ex14 => ?_)
          refine li_if_ne 83 dX4_passDay_75 (by decide) (fun c15Zq => ?_) (fun c15Zq => ?_)
          · have tc15 : ¬ x14.toInt = 0 := tl_ne c15Zq
            exact li_vret dX4_passDay_83 rfl ⟨rfl, hf, (by omega)⟩
          · have tc15 : x14.toInt = 0 := tl_eq c15Zq
            refine li_aload_n 1 dX4_passDay_78 rfl ?_
            refine li_aload_n 2 dX4_passDay_79 rfl ?_
            refine li_callV (n := 1) (As := [.ref (Z.2.2 5)]) dX4_passDay_80 (k15_X4_beginYear (d - 1) (by omega)  M10) (by omega) (Nat.le_of_ble_eq_true rfl) w_947 w_949 w_21 w_105 w_950 (by decide +kernel) rfl (by decide) sh_13 rfl rfl (Nat.le_of_ble_eq_true rfl) (fun r M17 h18 => ?_)
            obtain ⟨rfl, h18, nM17⟩ := h18
            have hf := li_fr_trans hf h18 (fun i (hZq : i = 13 ∨ i = 14 ∨ i = 15) => (show i = 13 ∨ i = 14 ∨ i = 15 by omega))
            have mM17_5_0 : (M17.1 5 0).toInt = (M10.1 5 0).toInt := by rw [h18.1 5 (show ¬ (5 = 13 ∨ 5 = 14 ∨ 5 = 15) by omega)]
            have mM17_5_1 : (M17.1 5 1).toInt = (M10.1 5 1).toInt := by rw [h18.1 5 (show ¬ (5 = 13 ∨ 5 = 14 ∨ 5 = 15) by omega)]
            exact li_vret dX4_passDay_83 rfl ⟨rfl, hf, (by omega)⟩
        · have tc12 : x9.toInt < x11.toInt := tl_nle c12Zq
          exfalso; omega
    have z0 : (0 : Int32).toInt = 0 := rfl
    exact L26 _ 0 M8Zq (Nat.lt_succ_self _) hf (by omega)
  refine li_if_ne 24 dX4_passDay_17 (by decide) (fun c7Zq => ?_) (fun c7Zq => ?_)
  · have tc7 : ¬ x6.toInt = 0 := tl_ne c7Zq
    refine li_pick [0, 1] [(0, .ref (Z.2.2 13)), (1, .ref (Z.2.2 5))] rfl ?_
    exact J24  M3Zq hf (by omega)
  · have tc7 : x6.toInt = 0 := tl_eq c7Zq
    refine li_aload_n 0 dX4_passDay_20 rfl ?_
    refine li_callV (n := 0) (As := []) dX4_passDay_21 (k15_X4_addTenths (d - 1) (by omega)  M3Zq (by first | omega | decide)) (by omega) (Nat.le_of_ble_eq_true rfl) w_929 w_931 w_19 w_105 w_932 (by decide +kernel) rfl (by decide) sh_13 rfl rfl (Nat.le_of_ble_eq_true rfl) (fun r M20 h21 => ?_)
    obtain ⟨rfl, h21⟩ := h21
    have hf := li_fr_trans hf h21 (fun i hZq => False.elim hZq)
    have mM20_5_0 : (M20.1 5 0).toInt = (M3Zq.1 5 0).toInt := by rw [h21.1 5 id]
    have mM20_5_1 : (M20.1 5 1).toInt = (M3Zq.1 5 1).toInt := by rw [h21.1 5 id]
    have mM20_13_0 : (M20.1 13 0).toInt = (M3Zq.1 13 0).toInt := by rw [h21.1 13 id]
    have mM20_13_2 : (M20.1 13 2).toInt = (M3Zq.1 13 2).toInt := by rw [h21.1 13 id]
    refine li_pick [0, 1] [(0, .ref (Z.2.2 13)), (1, .ref (Z.2.2 5))] rfl ?_
    exact J24  M20 hf (by omega)
set_option maxRecDepth 100000 in
set_option maxHeartbeats 4000000 in
theorem k15_X11_passDays {l : Launch} {Z : li_Z} (d : Nat) (hdZq : 4 ≤ d) (p1Zq : Int32) (M0 : li_M) (z132 : (M0.1 13 2).toInt = 0) (zd : 0 ≤ (M0.1 13 0).toInt ∧ (M0.1 13 0).toInt ≤ 1000) (h1 : p1Zq.toInt ≤ 99) : li_Met l Z YX11_passDays d [.ref (Z.2.2 0), .int p1Zq] M0 (fun r M' => r = none ∧ li_fr (fun i => i = 13 ∨ i = 14 ∨ i = 15) M0 M' ∧ (0 ≤ p1Zq.toInt → (M'.1 13 0).toInt = (M0.1 13 0).toInt + p1Zq.toInt)) := by
  refine li_enter (by decide +kernel) (Nat.le_of_ble_eq_true rfl) ?_
  show li_T l Z YX11_passDays d 0 [(0, .ref (Z.2.2 0)), (1, .int p1Zq)] [] M0 _
  have hf : li_fr (fun i => i = 13 ∨ i = 14 ∨ i = 15) M0 M0 := li_fr_refl
  have gp1 := tl_rg p1Zq
  refine li_iconst 0 dX11_passDays_0 (by decide) ?_
  refine li_istore_n [(2, .int 0), (0, .ref (Z.2.2 0)), (1, .int p1Zq)] dX11_passDays_1 (by decide) rfl ?_
  have L2Zq : ∀ (n : Nat) (x1Zq : Int32) (M2Zq : li_M), (100 - (x1Zq : Int32).toInt).toNat < n → li_fr (fun i => i = 13 ∨ i = 14 ∨ i = 15) M0 M2Zq → 0 ≤ (x1Zq : Int32).toInt ∧ (M2Zq.1 13 2).toInt = 0 ∧ (M2Zq.1 13 0).toInt = (M0.1 13 0).toInt + (x1Zq : Int32).toInt ∧ ((x1Zq : Int32).toInt ≤ p1Zq.toInt ∨ (x1Zq : Int32).toInt = 0) ∧ (x1Zq : Int32).toInt ≤ 100 → li_T l Z YX11_passDays d 2 [(2, .int x1Zq), (0, .ref (Z.2.2 0)), (1, .int p1Zq)] [] M2Zq (fun r M' => r = none ∧ li_fr (fun i => i = 13 ∨ i = 14 ∨ i = 15) M0 M' ∧ (0 ≤ p1Zq.toInt → (M'.1 13 0).toInt = (M0.1 13 0).toInt + p1Zq.toInt)) := by
    intro n
    induction n with
    | zero => intro x1Zq M2Zq hn; exact absurd hn (Nat.not_lt_zero _)
    | succ n ih2 =>
      intro x1Zq M2Zq hn hf hiZq
      have gx1 := tl_rg x1Zq
      refine li_iload_n 0 dX11_passDays_2 rfl ?_
      refine li_iload_n 2 dX11_passDays_3 rfl ?_
      refine li_icmp_ge 24 dX11_passDays_4 (by decide) (fun c3 => ?_) (fun c3 => ?_)
      · have tc3 : p1Zq.toInt ≤ x1Zq.toInt := tl_le c3
        exact li_vret dX11_passDays_24 rfl ⟨rfl, hf, (by omega)⟩
      · have tc3 : x1Zq.toInt < p1Zq.toInt := tl_nle c3
        refine li_aload_n 1 dX11_passDays_7 rfl ?_
        refine li_getr (k := 3) (N := 13) (T := TX11) (C0 := RX11) dX11_passDays_8 (by decide) sh_0 rfl rfl (by decide) (by decide) li_in11 w_476 ?_
        refine li_aload_n 1 dX11_passDays_11 rfl ?_
        refine li_getr (k := 2) (N := 13) (T := TX11) (C0 := RX11) dX11_passDays_12 (by decide) sh_0 rfl rfl (by decide) (by decide) li_in11 w_475 ?_
        refine li_callV (n := 1) (As := [.ref (Z.2.2 5)]) dX11_passDays_15 (k15_X4_passDay (d - 1) (by omega)  M2Zq (by first | omega | decide) (by first | omega | decide)) (by omega) (Nat.le_of_ble_eq_true rfl) w_925 w_926 w_927 w_105 w_928 (by decide +kernel) rfl (by decide) sh_13 rfl rfl (Nat.le_of_ble_eq_true rfl) (fun r M5Zq h6 => ?_)
        obtain ⟨rfl, h6, nM5⟩ := h6
        have hf := li_fr_trans hf h6 (fun i (hZq : i = 13 ∨ i = 14 ∨ i = 15) => (show i = 13 ∨ i = 14 ∨ i = 15 by omega))
        have mM5_5_0 : (M5Zq.1 5 0).toInt = (M2Zq.1 5 0).toInt := by rw [h6.1 5 (show ¬ (5 = 13 ∨ 5 = 14 ∨ 5 = 15) by omega)]
        have mM5_5_1 : (M5Zq.1 5 1).toInt = (M2Zq.1 5 1).toInt := by rw [h6.1 5 (show ¬ (5 = 13 ∨ 5 = 14 ∨ 5 = 15) by omega)]
        obtain ⟨x7, ex7⟩ : ∃ y : Int32, y = x1Zq + 1 := ⟨_, rfl⟩
        have tx7 : (-2147483648 ≤ x1Zq.toInt + 1 ∧ x1Zq.toInt + 1 ≤ 2147483647) → x7.toInt = x1Zq.toInt + 1 := tl_add ex7
        refine li_iinc 0 [(2, .int x7), (0, .ref (Z.2.2 0)), (1, .int p1Zq)] x7 dX11_passDays_18 rfl (by rw [ex7]; rfl) (by decide) rfl ?_
        refine li_goto 2 dX11_passDays_21 (by decide) ?_
        refine li_pick [0, 1, 2] [(2, .int x7), (0, .ref (Z.2.2 0)), (1, .int p1Zq)] rfl ?_
        exact ih2 x7 M5Zq (by omega) hf (by omega)
  have z0 : (0 : Int32).toInt = 0 := rfl
  exact L2Zq _ 0 M0 (Nat.lt_succ_self _) hf (by omega)
set_option maxRecDepth 100000 in
set_option maxHeartbeats 4000000 in
theorem k15_X11_days {l : Launch} {Z : li_Z} (d : Nat) (hdZq : 5 ≤ d) (p1Zq : Int32) (M0 : li_M) (z130 : (M0.1 13 0).toInt = 0) (z132 : (M0.1 13 2).toInt = 0) : li_Met l Z YX11_days d [.ref (Z.2.2 0), .int p1Zq] M0 (fun r M' => (∃ x : Int32, r = some (.int x) ∧ ((0 ≤ p1Zq.toInt ∧ p1Zq.toInt ≤ 99 ∧ x.toInt = p1Zq.toInt) ∨ (¬ (0 ≤ p1Zq.toInt ∧ p1Zq.toInt ≤ 99) ∧ x.toInt = -1))) ∧ li_fr (fun i => i = 13 ∨ i = 14 ∨ i = 15 ∨ i = 21 ∨ i = 24 ∨ i = 25 ∨ i = 26 ∨ i = 27 ∨ i = 28 ∨ i = 29 ∨ i = 3 ∨ i = 30 ∨ i = 31 ∨ i = 4 ∨ (32 ≤ i ∧ i < 128)) M0 M') := by
  refine li_enter (by decide +kernel) (Nat.le_of_ble_eq_true rfl) ?_
  show li_T l Z YX11_days d 0 [(0, .ref (Z.2.2 0)), (1, .int p1Zq)] [] M0 _
  have hf : li_fr (fun i => i = 13 ∨ i = 14 ∨ i = 15 ∨ i = 21 ∨ i = 24 ∨ i = 25 ∨ i = 26 ∨ i = 27 ∨ i = 28 ∨ i = 29 ∨ i = 3 ∨ i = 30 ∨ i = 31 ∨ i = 4 ∨ (32 ≤ i ∧ i < 128)) M0 M0 := li_fr_refl
  have gp1 := tl_rg p1Zq
  refine li_iload_n 1 dX11_days_0 rfl ?_
  refine li_iconst 0 dX11_days_1 (by decide) ?_
  refine li_bipush 99 dX11_days_2 (by decide) ?_
  refine li_callS (n := 3) (As := [.int p1Zq, .int 0, .int 99]) dX11_days_4 (k4_X11_within2 (d - 1) (by omega) p1Zq 0 99 M0) (by omega) (Nat.le_of_ble_eq_true rfl) w_762 w_639 w_101 w_640 (by decide +kernel) rfl rfl (Nat.le_of_ble_eq_true rfl) (fun r M2Zq h3 => ?_)
  have z0 : (0 : Int32).toInt = 0 := rfl
  have z99 : (99 : Int32).toInt = 99 := rfl
  obtain ⟨⟨x1Zq, rfl, bx1, qx1⟩, h3⟩ := h3
  have ux1 := tl_b bx1
  have hf := li_fr_trans hf h3 (fun i hZq => False.elim hZq)
  have mM2_5_0 : (M2Zq.1 5 0).toInt = (M0.1 5 0).toInt := by rw [h3.1 5 id]
  have mM2_5_1 : (M2Zq.1 5 1).toInt = (M0.1 5 1).toInt := by rw [h3.1 5 id]
  have mM2_13_0 : (M2Zq.1 13 0).toInt = (M0.1 13 0).toInt := by rw [h3.1 13 id]
  have mM2_13_2 : (M2Zq.1 13 2).toInt = (M0.1 13 2).toInt := by rw [h3.1 13 id]
  refine li_if_ne 12 dX11_days_7 (by decide) (fun c4 => ?_) (fun c4 => ?_)
  · have tc4 : ¬ x1Zq.toInt = 0 := tl_ne c4
    refine li_aload_n 0 dX11_days_12 rfl ?_
    refine li_getr (k := 4) (N := 13) (T := TX11) (C0 := RX11) dX11_days_13 (by decide) sh_0 rfl rfl (by decide) (by decide) li_in11 w_477 ?_
    refine li_aload_n 0 dX11_days_16 rfl ?_
    refine li_getr (k := 3) (N := 13) (T := TX11) (C0 := RX11) dX11_days_17 (by decide) sh_0 rfl rfl (by decide) (by decide) li_in11 w_476 ?_
    refine li_callV (n := 1) (As := [.ref (Z.2.2 13)]) dX11_days_20 (k_X3_note (d - 1) (by omega)  M2Zq) (by omega) (Nat.le_of_ble_eq_true rfl) w_843 w_844 w_845 w_106 w_846 (by decide +kernel) rfl (by decide) sh_21 rfl rfl (Nat.le_of_ble_eq_true rfl) (fun r M6Zq h7 => ?_)
    obtain ⟨rfl, h7⟩ := h7
    have hf := li_fr_trans hf h7 (fun i (hZq : i = 24 ∨ i = 25 ∨ i = 26 ∨ i = 27 ∨ i = 28 ∨ i = 29 ∨ i = 30 ∨ i = 31) => (show i = 13 ∨ i = 14 ∨ i = 15 ∨ i = 21 ∨ i = 24 ∨ i = 25 ∨ i = 26 ∨ i = 27 ∨ i = 28 ∨ i = 29 ∨ i = 3 ∨ i = 30 ∨ i = 31 ∨ i = 4 ∨ (32 ≤ i ∧ i < 128) by omega))
    have mM6_5_0 : (M6Zq.1 5 0).toInt = (M2Zq.1 5 0).toInt := by rw [h7.1 5 (show ¬ (5 = 24 ∨ 5 = 25 ∨ 5 = 26 ∨ 5 = 27 ∨ 5 = 28 ∨ 5 = 29 ∨ 5 = 30 ∨ 5 = 31) by omega)]
    have mM6_5_1 : (M6Zq.1 5 1).toInt = (M2Zq.1 5 1).toInt := by rw [h7.1 5 (show ¬ (5 = 24 ∨ 5 = 25 ∨ 5 = 26 ∨ 5 = 27 ∨ 5 = 28 ∨ 5 = 29 ∨ 5 = 30 ∨ 5 = 31) by omega)]
    have mM6_13_0 : (M6Zq.1 13 0).toInt = (M2Zq.1 13 0).toInt := by rw [h7.1 13 (show ¬ (13 = 24 ∨ 13 = 25 ∨ 13 = 26 ∨ 13 = 27 ∨ 13 = 28 ∨ 13 = 29 ∨ 13 = 30 ∨ 13 = 31) by omega)]
    have mM6_13_2 : (M6Zq.1 13 2).toInt = (M2Zq.1 13 2).toInt := by rw [h7.1 13 (show ¬ (13 = 24 ∨ 13 = 25 ∨ 13 = 26 ∨ 13 = 27 ∨ 13 = 28 ∨ 13 = 29 ∨ 13 = 30 ∨ 13 = 31) by omega)]
    refine li_aload_n 0 dX11_days_23 rfl ?_
    refine li_getr (k := 3) (N := 13) (T := TX11) (C0 := RX11) dX11_days_24 (by decide) sh_0 rfl rfl (by decide) (by decide) li_in11 w_476 ?_
    refine li_callV (n := 0) (As := []) dX11_days_27 (k_X4_endedLoans (d - 1) (by omega)  M6Zq) (by omega) (Nat.le_of_ble_eq_true rfl) w_909 w_910 w_911 w_105 w_912 (by decide +kernel) rfl (by decide) sh_13 rfl rfl (Nat.le_of_ble_eq_true rfl) (fun r M9Zq h10 => ?_)
    obtain ⟨⟨x8, rfl⟩, h10⟩ := h10
    have gx8 := tl_rg x8
    have hf := li_fr_trans hf h10 (fun i hZq => False.elim hZq)
    have mM9_5_0 : (M9Zq.1 5 0).toInt = (M6Zq.1 5 0).toInt := by rw [h10.1 5 id]
    have mM9_5_1 : (M9Zq.1 5 1).toInt = (M6Zq.1 5 1).toInt := by rw [h10.1 5 id]
    have mM9_13_0 : (M9Zq.1 13 0).toInt = (M6Zq.1 13 0).toInt := by rw [h10.1 13 id]
    have mM9_13_2 : (M9Zq.1 13 2).toInt = (M6Zq.1 13 2).toInt := by rw [h10.1 13 id]
    refine li_istore_n [(2, .int x8), (0, .ref (Z.2.2 0)), (1, .int p1Zq)] dX11_days_30 (by decide) rfl ?_
    refine li_aload_n 1 dX11_days_31 rfl ?_
    refine li_getr (k := 3) (N := 13) (T := TX11) (C0 := RX11) dX11_days_32 (by decide) sh_0 rfl rfl (by decide) (by decide) li_in11 w_476 ?_
    refine li_callV (n := 0) (As := []) dX11_days_35 (k_X4_allLosses (d - 1) (by omega)  M9Zq) (by omega) (Nat.le_of_ble_eq_true rfl) w_914 w_915 w_916 w_105 w_917 (by decide +kernel) rfl (by decide) sh_13 rfl rfl (Nat.le_of_ble_eq_true rfl) (fun r M12 h13 => ?_)
    obtain ⟨⟨x11, rfl⟩, h13⟩ := h13
    have hf := li_fr_trans hf h13 (fun i hZq => False.elim hZq)
    have mM12_5_0 : (M12.1 5 0).toInt = (M9Zq.1 5 0).toInt := by rw [h13.1 5 id]
    have mM12_5_1 : (M12.1 5 1).toInt = (M9Zq.1 5 1).toInt := by rw [h13.1 5 id]
    have mM12_13_0 : (M12.1 13 0).toInt = (M9Zq.1 13 0).toInt := by rw [h13.1 13 id]
    have mM12_13_2 : (M12.1 13 2).toInt = (M9Zq.1 13 2).toInt := by rw [h13.1 13 id]
    refine li_lstore_n [(3, .long x11), (2, .int x8), (0, .ref (Z.2.2 0)), (1, .int p1Zq)] dX11_days_38 (by decide) rfl ?_
    refine li_aload_n 2 dX11_days_39 rfl ?_
    refine li_iload_n 3 dX11_days_40 rfl ?_
    refine li_callV (n := 1) (As := [.int p1Zq]) dX11_days_41 (k15_X11_passDays (d - 1) (by omega) p1Zq M12 (by first | omega | decide) (by first | omega | decide) (by first | omega | decide)) (by omega) (Nat.le_of_ble_eq_true rfl) w_921 w_923 w_18 w_101 w_924 (by decide +kernel) rfl (by decide) sh_0 rfl rfl (Nat.le_of_ble_eq_true rfl) (fun r M15 h16Zq => ?_)
    obtain ⟨rfl, h16Zq, nM15⟩ := h16Zq
    have hf := li_fr_trans hf h16Zq (fun i (hZq : i = 13 ∨ i = 14 ∨ i = 15) => (show i = 13 ∨ i = 14 ∨ i = 15 ∨ i = 21 ∨ i = 24 ∨ i = 25 ∨ i = 26 ∨ i = 27 ∨ i = 28 ∨ i = 29 ∨ i = 3 ∨ i = 30 ∨ i = 31 ∨ i = 4 ∨ (32 ≤ i ∧ i < 128) by omega))
    have mM15_5_0 : (M15.1 5 0).toInt = (M12.1 5 0).toInt := by rw [h16Zq.1 5 (show ¬ (5 = 13 ∨ 5 = 14 ∨ 5 = 15) by omega)]
    have mM15_5_1 : (M15.1 5 1).toInt = (M12.1 5 1).toInt := by rw [h16Zq.1 5 (show ¬ (5 = 13 ∨ 5 = 14 ∨ 5 = 15) by omega)]
    refine li_aload_n 2 dX11_days_44 rfl ?_
    refine li_getr (k := 1) (N := 13) (T := TX11) (C0 := RX11) dX11_days_45 (by decide) sh_0 rfl rfl (by decide) (by decide) li_in11 w_474 ?_
    refine li_aload_n 2 dX11_days_48 rfl ?_
    refine li_getr (k := 3) (N := 13) (T := TX11) (C0 := RX11) dX11_days_49 (by decide) sh_0 rfl rfl (by decide) (by decide) li_in11 w_476 ?_
    refine li_callV (n := 0) (As := []) dX11_days_52 (k_X4_endedLoans (d - 1) (by omega)  M15) (by omega) (Nat.le_of_ble_eq_true rfl) w_909 w_910 w_911 w_105 w_912 (by decide +kernel) rfl (by decide) sh_13 rfl rfl (Nat.le_of_ble_eq_true rfl) (fun r M18 h19 => ?_)
    obtain ⟨⟨x17, rfl⟩, h19⟩ := h19
    have gx17 := tl_rg x17
    have hf := li_fr_trans hf h19 (fun i hZq => False.elim hZq)
    have mM18_5_0 : (M18.1 5 0).toInt = (M15.1 5 0).toInt := by rw [h19.1 5 id]
    have mM18_5_1 : (M18.1 5 1).toInt = (M15.1 5 1).toInt := by rw [h19.1 5 id]
    have mM18_13_0 : (M18.1 13 0).toInt = (M15.1 13 0).toInt := by rw [h19.1 13 id]
    have mM18_13_2 : (M18.1 13 2).toInt = (M15.1 13 2).toInt := by rw [h19.1 13 id]
    refine li_iload_n 1 dX11_days_55 rfl ?_
    refine li_isub dX11_days_56 ?_
    refine li_top (fun x20 ex20 => ?_)
    have tx20 : (-2147483648 ≤ x17.toInt - x8.toInt ∧ x17.toInt - x8.toInt ≤ 2147483647) → x20.toInt = x17.toInt - x8.toInt := tl_sub ex20
    refine li_aload_n 2 dX11_days_57 rfl ?_
    refine li_getr (k := 3) (N := 13) (T := TX11) (C0 := RX11) dX11_days_58 (by decide) sh_0 rfl rfl (by decide) (by decide) li_in11 w_476 ?_
    refine li_callV (n := 0) (As := []) dX11_days_61 (k_X4_allLosses (d - 1) (by omega)  M18) (by omega) (Nat.le_of_ble_eq_true rfl) w_914 w_915 w_916 w_105 w_917 (by decide +kernel) rfl (by decide) sh_13 rfl rfl (Nat.le_of_ble_eq_true rfl) (fun r M22 h23 => ?_)
    obtain ⟨⟨x21, rfl⟩, h23⟩ := h23
    have hf := li_fr_trans hf h23 (fun i hZq => False.elim hZq)
    have mM22_5_0 : (M22.1 5 0).toInt = (M18.1 5 0).toInt := by rw [h23.1 5 id]
    have mM22_5_1 : (M22.1 5 1).toInt = (M18.1 5 1).toInt := by rw [h23.1 5 id]
    have mM22_13_0 : (M22.1 13 0).toInt = (M18.1 13 0).toInt := by rw [h23.1 13 id]
    have mM22_13_2 : (M22.1 13 2).toInt = (M18.1 13 2).toInt := by rw [h23.1 13 id]
    refine li_lload_n 0 dX11_days_64 rfl ?_
    refine li_lsub dX11_days_65 ?_
    refine li_topL (fun x24 ex24 => ?_)
    refine li_l2i dX11_days_66 ?_
    refine li_top (fun x25 ex25 => ?_)
    refine li_callV (n := 2) (As := [.int x20, .int x25]) dX11_days_67 (k_X5_tellTwo (d - 1) (by omega) x20 x25 M22) (by omega) (Nat.le_of_ble_eq_true rfl) w_951 w_952 w_953 w_103 w_954 (by decide +kernel) rfl (by decide) sh_3 rfl rfl (Nat.le_of_ble_eq_true rfl) (fun r M27 h28 => ?_)
    obtain ⟨rfl, h28⟩ := h28
    have hf := li_fr_trans hf h28 (fun i (hZq : i = 3 ∨ i = 4) => (show i = 13 ∨ i = 14 ∨ i = 15 ∨ i = 21 ∨ i = 24 ∨ i = 25 ∨ i = 26 ∨ i = 27 ∨ i = 28 ∨ i = 29 ∨ i = 3 ∨ i = 30 ∨ i = 31 ∨ i = 4 ∨ (32 ≤ i ∧ i < 128) by omega))
    have mM27_5_0 : (M27.1 5 0).toInt = (M22.1 5 0).toInt := by rw [h28.1 5 (show ¬ (5 = 3 ∨ 5 = 4) by omega)]
    have mM27_5_1 : (M27.1 5 1).toInt = (M22.1 5 1).toInt := by rw [h28.1 5 (show ¬ (5 = 3 ∨ 5 = 4) by omega)]
    have mM27_13_0 : (M27.1 13 0).toInt = (M22.1 13 0).toInt := by rw [h28.1 13 (show ¬ (13 = 3 ∨ 13 = 4) by omega)]
    have mM27_13_2 : (M27.1 13 2).toInt = (M22.1 13 2).toInt := by rw [h28.1 13 (show ¬ (13 = 3 ∨ 13 = 4) by omega)]
    refine li_iload_n 3 dX11_days_70 rfl ?_
    refine li_if_le 81 dX11_days_71 (by decide) (fun c29Zq => ?_) (fun c29Zq => ?_)
    · have tc29 : p1Zq.toInt ≤ 0 := tl_le c29Zq
      refine li_aload_n 2 dX11_days_81 rfl ?_
      refine li_getr (k := 3) (N := 13) (T := TX11) (C0 := RX11) dX11_days_82 (by decide) sh_0 rfl rfl (by decide) (by decide) li_in11 w_476 ?_
      refine li_geti (k := 0) (N := 11) (T := TX4) (C0 := RX4) dX11_days_85 (by decide) sh_13 rfl rfl (by decide) li_in4 w_231 ?_
      refine li_top (fun x30 ex30 => ?_)
      have gx30 := tl_rg x30
      have vx30 : x30.toInt = (M27.1 13 0).toInt := tl_eq ex30
      exact li_iret dX11_days_88 rfl rfl ⟨⟨_, rfl, (by first | omega | (intro _; omega) | (intro hZq; exact absurd hZq (by decide)))⟩, hf⟩
    · have tc29 : 0 < p1Zq.toInt := tl_nle c29Zq
      refine li_aload_n 2 dX11_days_74 rfl ?_
      refine li_getr (k := 4) (N := 13) (T := TX11) (C0 := RX11) dX11_days_75 (by decide) sh_0 rfl rfl (by decide) (by decide) li_in11 w_477 ?_
      refine li_callV (n := 0) (As := []) dX11_days_78 (k_X3_hold (d - 1) (by omega)  M27) (by omega) (Nat.le_of_ble_eq_true rfl) w_871 w_872 w_873 w_106 w_874 (by decide +kernel) rfl (by decide) sh_21 rfl rfl (Nat.le_of_ble_eq_true rfl) (fun r M32 h33 => ?_)
      obtain ⟨rfl, h33⟩ := h33
      have hf := li_fr_trans hf h33 (fun i (hZq : i = 21 ∨ (32 ≤ i ∧ i < 128)) => (show i = 13 ∨ i = 14 ∨ i = 15 ∨ i = 21 ∨ i = 24 ∨ i = 25 ∨ i = 26 ∨ i = 27 ∨ i = 28 ∨ i = 29 ∨ i = 3 ∨ i = 30 ∨ i = 31 ∨ i = 4 ∨ (32 ≤ i ∧ i < 128) by omega))
      have mM32_5_0 : (M32.1 5 0).toInt = (M27.1 5 0).toInt := by rw [h33.1 5 (show ¬ (5 = 21 ∨ (32 ≤ 5 ∧ 5 < 128)) by omega)]
      have mM32_5_1 : (M32.1 5 1).toInt = (M27.1 5 1).toInt := by rw [h33.1 5 (show ¬ (5 = 21 ∨ (32 ≤ 5 ∧ 5 < 128)) by omega)]
      have mM32_13_0 : (M32.1 13 0).toInt = (M27.1 13 0).toInt := by rw [h33.1 13 (show ¬ (13 = 21 ∨ (32 ≤ 13 ∧ 13 < 128)) by omega)]
      have mM32_13_2 : (M32.1 13 2).toInt = (M27.1 13 2).toInt := by rw [h33.1 13 (show ¬ (13 = 21 ∨ (32 ≤ 13 ∧ 13 < 128)) by omega)]
      refine li_aload_n 2 dX11_days_81 rfl ?_
      refine li_getr (k := 3) (N := 13) (T := TX11) (C0 := RX11) dX11_days_82 (by decide) sh_0 rfl rfl (by decide) (by decide) li_in11 w_476 ?_
      refine li_geti (k := 0) (N := 11) (T := TX4) (C0 := RX4) dX11_days_85 (by decide) sh_13 rfl rfl (by decide) li_in4 w_231 ?_
      refine li_top (fun x34 ex34 => ?_)
      have gx34 := tl_rg x34
      have vx34 : x34.toInt = (M32.1 13 0).toInt := tl_eq ex34
      exact li_iret dX11_days_88 rfl rfl ⟨⟨_, rfl, (by first | omega | (intro _; omega) | (intro hZq; exact absurd hZq (by decide)))⟩, hf⟩
  · have tc4 : x1Zq.toInt = 0 := tl_eq c4
    refine li_iconst (-1) dX11_days_10 (by decide) ?_
    have zm1 : ((-1) : Int32).toInt = -1 := rfl
    exact li_iret dX11_days_11 rfl rfl ⟨⟨_, rfl, (by first | omega | (intro _; omega) | (intro hZq; exact absurd hZq (by decide)))⟩, hf⟩
set_option maxRecDepth 100000 in
set_option maxHeartbeats 4000000 in
theorem k15_X11_years {l : Launch} {Z : li_Z} (d : Nat) (hdZq : 7 ≤ d) (p1Zq : Int32) (p2Zq : Int32) (M0 : li_M) (z51 : (M0.1 5 1).toInt = 0) (z130 : (M0.1 13 0).toInt = 0) (z132 : (M0.1 13 2).toInt = 0) : li_Met l Z YX11_years d [.ref (Z.2.2 0), .int p1Zq, .int p2Zq] M0 (fun r M' => (∃ x : Int32, r = some (.int x) ∧ ((1 ≤ p2Zq.toInt ∧ p2Zq.toInt ≤ 60 ∧ x.toInt = 0) ∨ (¬ (1 ≤ p2Zq.toInt ∧ p2Zq.toInt ≤ 60) ∧ x.toInt = -1))) ∧ li_fr (fun i => i = 13 ∨ i = 14 ∨ i = 146 ∨ i = 147 ∨ i = 15 ∨ i = 16 ∨ i = 17 ∨ i = 18 ∨ i = 19 ∨ i = 20 ∨ i = 24 ∨ i = 25 ∨ i = 26 ∨ i = 27 ∨ i = 28 ∨ i = 29 ∨ i = 3 ∨ i = 30 ∨ i = 31 ∨ i = 4) M0 M') := by
  refine li_enter (by decide +kernel) (Nat.le_of_ble_eq_true rfl) ?_
  show li_T l Z YX11_years d 0 [(0, .ref (Z.2.2 0)), (1, .int p1Zq), (2, .int p2Zq)] [] M0 _
  have hf : li_fr (fun i => i = 13 ∨ i = 14 ∨ i = 146 ∨ i = 147 ∨ i = 15 ∨ i = 16 ∨ i = 17 ∨ i = 18 ∨ i = 19 ∨ i = 20 ∨ i = 24 ∨ i = 25 ∨ i = 26 ∨ i = 27 ∨ i = 28 ∨ i = 29 ∨ i = 3 ∨ i = 30 ∨ i = 31 ∨ i = 4) M0 M0 := li_fr_refl
  have gp1 := tl_rg p1Zq
  have gp2 := tl_rg p2Zq
  refine li_iload_n 2 dX11_years_0 rfl ?_
  refine li_iconst 1 dX11_years_1 (by decide) ?_
  refine li_bipush 60 dX11_years_2 (by decide) ?_
  refine li_callS (n := 3) (As := [.int p2Zq, .int 1, .int 60]) dX11_years_4 (k4_X11_within2 (d - 1) (by omega) p2Zq 1 60 M0) (by omega) (Nat.le_of_ble_eq_true rfl) w_762 w_639 w_101 w_640 (by decide +kernel) rfl rfl (Nat.le_of_ble_eq_true rfl) (fun r M2Zq h3 => ?_)
  have z1 : (1 : Int32).toInt = 1 := rfl
  have z60Zq : (60 : Int32).toInt = 60 := rfl
  obtain ⟨⟨x1Zq, rfl, bx1, qx1⟩, h3⟩ := h3
  have ux1 := tl_b bx1
  have hf := li_fr_trans hf h3 (fun i hZq => False.elim hZq)
  have mM2_5_0 : (M2Zq.1 5 0).toInt = (M0.1 5 0).toInt := by rw [h3.1 5 id]
  have mM2_5_1 : (M2Zq.1 5 1).toInt = (M0.1 5 1).toInt := by rw [h3.1 5 id]
  have mM2_13_0 : (M2Zq.1 13 0).toInt = (M0.1 13 0).toInt := by rw [h3.1 13 id]
  have mM2_13_2 : (M2Zq.1 13 2).toInt = (M0.1 13 2).toInt := by rw [h3.1 13 id]
  refine li_if_ne 12 dX11_years_7 (by decide) (fun c4 => ?_) (fun c4 => ?_)
  · have tc4 : ¬ x1Zq.toInt = 0 := tl_ne c4
    refine li_aload_n 0 dX11_years_12 rfl ?_
    refine li_getr (k := 4) (N := 13) (T := TX11) (C0 := RX11) dX11_years_13 (by decide) sh_0 rfl rfl (by decide) (by decide) li_in11 w_477 ?_
    refine li_aload_n 0 dX11_years_16 rfl ?_
    refine li_getr (k := 3) (N := 13) (T := TX11) (C0 := RX11) dX11_years_17 (by decide) sh_0 rfl rfl (by decide) (by decide) li_in11 w_476 ?_
    refine li_callV (n := 1) (As := [.ref (Z.2.2 13)]) dX11_years_20 (k_X3_note (d - 1) (by omega)  M2Zq) (by omega) (Nat.le_of_ble_eq_true rfl) w_843 w_844 w_845 w_106 w_846 (by decide +kernel) rfl (by decide) sh_21 rfl rfl (Nat.le_of_ble_eq_true rfl) (fun r M6Zq h7 => ?_)
    obtain ⟨rfl, h7⟩ := h7
    have hf := li_fr_trans hf h7 (fun i (hZq : i = 24 ∨ i = 25 ∨ i = 26 ∨ i = 27 ∨ i = 28 ∨ i = 29 ∨ i = 30 ∨ i = 31) => (show i = 13 ∨ i = 14 ∨ i = 146 ∨ i = 147 ∨ i = 15 ∨ i = 16 ∨ i = 17 ∨ i = 18 ∨ i = 19 ∨ i = 20 ∨ i = 24 ∨ i = 25 ∨ i = 26 ∨ i = 27 ∨ i = 28 ∨ i = 29 ∨ i = 3 ∨ i = 30 ∨ i = 31 ∨ i = 4 by omega))
    have mM6_5_0 : (M6Zq.1 5 0).toInt = (M2Zq.1 5 0).toInt := by rw [h7.1 5 (show ¬ (5 = 24 ∨ 5 = 25 ∨ 5 = 26 ∨ 5 = 27 ∨ 5 = 28 ∨ 5 = 29 ∨ 5 = 30 ∨ 5 = 31) by omega)]
    have mM6_5_1 : (M6Zq.1 5 1).toInt = (M2Zq.1 5 1).toInt := by rw [h7.1 5 (show ¬ (5 = 24 ∨ 5 = 25 ∨ 5 = 26 ∨ 5 = 27 ∨ 5 = 28 ∨ 5 = 29 ∨ 5 = 30 ∨ 5 = 31) by omega)]
    have mM6_13_0 : (M6Zq.1 13 0).toInt = (M2Zq.1 13 0).toInt := by rw [h7.1 13 (show ¬ (13 = 24 ∨ 13 = 25 ∨ 13 = 26 ∨ 13 = 27 ∨ 13 = 28 ∨ 13 = 29 ∨ 13 = 30 ∨ 13 = 31) by omega)]
    have mM6_13_2 : (M6Zq.1 13 2).toInt = (M2Zq.1 13 2).toInt := by rw [h7.1 13 (show ¬ (13 = 24 ∨ 13 = 25 ∨ 13 = 26 ∨ 13 = 27 ∨ 13 = 28 ∨ 13 = 29 ∨ 13 = 30 ∨ 13 = 31) by omega)]
    refine li_iload_n 1 dX11_years_23 rfl ?_
    refine li_istore_n [(3, .int p1Zq), (0, .ref (Z.2.2 0)), (1, .int p1Zq), (2, .int p2Zq)] dX11_years_24 (by decide) rfl ?_
    refine li_iconst 0 dX11_years_25 (by decide) ?_
    refine li_istore [(4, .int 0), (3, .int p1Zq), (0, .ref (Z.2.2 0)), (1, .int p1Zq), (2, .int p2Zq)] dX11_years_26 (by decide) rfl ?_
    refine li_iconst 0 dX11_years_28 (by decide) ?_
    refine li_istore [(5, .int 0), (4, .int 0), (3, .int p1Zq), (0, .ref (Z.2.2 0)), (1, .int p1Zq), (2, .int p2Zq)] dX11_years_29 (by decide) rfl ?_
    refine li_iconst 0 dX11_years_31 (by decide) ?_
    refine li_istore [(6, .int 0), (5, .int 0), (4, .int 0), (3, .int p1Zq), (0, .ref (Z.2.2 0)), (1, .int p1Zq), (2, .int p2Zq)] dX11_years_32 (by decide) rfl ?_
    refine li_iconst 0 dX11_years_34 (by decide) ?_
    refine li_istore [(7, .int 0), (6, .int 0), (5, .int 0), (4, .int 0), (3, .int p1Zq), (0, .ref (Z.2.2 0)), (1, .int p1Zq), (2, .int p2Zq)] dX11_years_35 (by decide) rfl ?_
    have L37 : ∀ (n : Nat) (x8 : Int32) (x9 : Int32) (x10 : Int32) (x11 : Int32) (x12 : Int32) (M13 : li_M), (p2Zq.toInt - (x8 : Int32).toInt).toNat < n → li_fr (fun i => i = 13 ∨ i = 14 ∨ i = 146 ∨ i = 147 ∨ i = 15 ∨ i = 16 ∨ i = 17 ∨ i = 18 ∨ i = 19 ∨ i = 20 ∨ i = 24 ∨ i = 25 ∨ i = 26 ∨ i = 27 ∨ i = 28 ∨ i = 29 ∨ i = 3 ∨ i = 30 ∨ i = 31 ∨ i = 4) M0 M13 → (x11 : Int32).toInt = 0 ∧ (M13.1 5 1).toInt = 0 ∧ (M13.1 13 2).toInt = 0 ∧ (M13.1 13 0).toInt = (x8 : Int32).toInt ∧ 0 ≤ (x8 : Int32).toInt ∧ (x8 : Int32).toInt ≤ 60 → li_T l Z YX11_years d 37 [(7, .int x8), (6, .int x9), (5, .int x10), (4, .int x11), (3, .int x12), (0, .ref (Z.2.2 0)), (1, .int p1Zq), (2, .int p2Zq)] [] M13 (fun r M' => (∃ x : Int32, r = some (.int x) ∧ ((1 ≤ p2Zq.toInt ∧ p2Zq.toInt ≤ 60 ∧ x.toInt = 0) ∨ (¬ (1 ≤ p2Zq.toInt ∧ p2Zq.toInt ≤ 60) ∧ x.toInt = -1))) ∧ li_fr (fun i => i = 13 ∨ i = 14 ∨ i = 146 ∨ i = 147 ∨ i = 15 ∨ i = 16 ∨ i = 17 ∨ i = 18 ∨ i = 19 ∨ i = 20 ∨ i = 24 ∨ i = 25 ∨ i = 26 ∨ i = 27 ∨ i = 28 ∨ i = 29 ∨ i = 3 ∨ i = 30 ∨ i = 31 ∨ i = 4) M0 M') := by
      intro n
      induction n with
      | zero => intro x8 x9 x10 x11 x12 M13 hn; exact absurd hn (Nat.not_lt_zero _)
      | succ n ih37 =>
        intro x8 x9 x10 x11 x12 M13 hn hf hiZq
        have gx8 := tl_rg x8
        have gx9 := tl_rg x9
        have gx10 := tl_rg x10
        have gx11 := tl_rg x11
        have gx12 := tl_rg x12
        refine li_iload 0 dX11_years_37 rfl ?_
        refine li_iload_n 7 dX11_years_39 rfl ?_
        refine li_icmp_ge 128 dX11_years_40 (by decide) (fun c14Zq => ?_) (fun c14Zq => ?_)
        · have tc14 : p2Zq.toInt ≤ x8.toInt := tl_le c14Zq
          refine li_aload_n 5 dX11_years_128 rfl ?_
          refine li_getr (k := 4) (N := 13) (T := TX11) (C0 := RX11) dX11_years_129 (by decide) sh_0 rfl rfl (by decide) (by decide) li_in11 w_477 ?_
          refine li_aload_n 5 dX11_years_132 rfl ?_
          refine li_getr (k := 3) (N := 13) (T := TX11) (C0 := RX11) dX11_years_133 (by decide) sh_0 rfl rfl (by decide) (by decide) li_in11 w_476 ?_
          refine li_callV (n := 1) (As := [.ref (Z.2.2 13)]) dX11_years_136 (k_X3_recall (d - 1) (by omega)  M13) (by omega) (Nat.le_of_ble_eq_true rfl) w_1270 w_1271 w_1272 w_106 w_1273 (by decide +kernel) rfl (by decide) sh_21 rfl rfl (Nat.le_of_ble_eq_true rfl) (fun r M16 h17 => ?_)
          obtain ⟨rfl, h17⟩ := h17
          have hf := li_fr_trans hf h17 (fun i (hZq : i = 13 ∨ i = 14 ∨ i = 15 ∨ i = 16 ∨ i = 17 ∨ i = 18 ∨ i = 19 ∨ i = 20) => (show i = 13 ∨ i = 14 ∨ i = 146 ∨ i = 147 ∨ i = 15 ∨ i = 16 ∨ i = 17 ∨ i = 18 ∨ i = 19 ∨ i = 20 ∨ i = 24 ∨ i = 25 ∨ i = 26 ∨ i = 27 ∨ i = 28 ∨ i = 29 ∨ i = 3 ∨ i = 30 ∨ i = 31 ∨ i = 4 by omega))
          have mM16_5_0 : (M16.1 5 0).toInt = (M13.1 5 0).toInt := by rw [h17.1 5 (show ¬ (5 = 13 ∨ 5 = 14 ∨ 5 = 15 ∨ 5 = 16 ∨ 5 = 17 ∨ 5 = 18 ∨ 5 = 19 ∨ 5 = 20) by omega)]
          have mM16_5_1 : (M16.1 5 1).toInt = (M13.1 5 1).toInt := by rw [h17.1 5 (show ¬ (5 = 13 ∨ 5 = 14 ∨ 5 = 15 ∨ 5 = 16 ∨ 5 = 17 ∨ 5 = 18 ∨ 5 = 19 ∨ 5 = 20) by omega)]
          refine li_aload_n 5 dX11_years_139 rfl ?_
          refine li_getr (k := 1) (N := 13) (T := TX11) (C0 := RX11) dX11_years_140 (by decide) sh_0 rfl rfl (by decide) (by decide) li_in11 w_474 ?_
          refine li_iload 2 dX11_years_143 rfl ?_
          refine li_iload 1 dX11_years_145 rfl ?_
          refine li_callV (n := 2) (As := [.int x10, .int x9]) dX11_years_147 (k_X5_tellTwo (d - 1) (by omega) x10 x9 M16) (by omega) (Nat.le_of_ble_eq_true rfl) w_951 w_952 w_953 w_103 w_954 (by decide +kernel) rfl (by decide) sh_3 rfl rfl (Nat.le_of_ble_eq_true rfl) (fun r M19 h20 => ?_)
          obtain ⟨rfl, h20⟩ := h20
          have hf := li_fr_trans hf h20 (fun i (hZq : i = 3 ∨ i = 4) => (show i = 13 ∨ i = 14 ∨ i = 146 ∨ i = 147 ∨ i = 15 ∨ i = 16 ∨ i = 17 ∨ i = 18 ∨ i = 19 ∨ i = 20 ∨ i = 24 ∨ i = 25 ∨ i = 26 ∨ i = 27 ∨ i = 28 ∨ i = 29 ∨ i = 3 ∨ i = 30 ∨ i = 31 ∨ i = 4 by omega))
          have mM19_5_0 : (M19.1 5 0).toInt = (M16.1 5 0).toInt := by rw [h20.1 5 (show ¬ (5 = 3 ∨ 5 = 4) by omega)]
          have mM19_5_1 : (M19.1 5 1).toInt = (M16.1 5 1).toInt := by rw [h20.1 5 (show ¬ (5 = 3 ∨ 5 = 4) by omega)]
          have mM19_13_0 : (M19.1 13 0).toInt = (M16.1 13 0).toInt := by rw [h20.1 13 (show ¬ (13 = 3 ∨ 13 = 4) by omega)]
          have mM19_13_2 : (M19.1 13 2).toInt = (M16.1 13 2).toInt := by rw [h20.1 13 (show ¬ (13 = 3 ∨ 13 = 4) by omega)]
          refine li_iload 3 dX11_years_150 rfl ?_
          exact li_iret dX11_years_152 rfl rfl ⟨⟨_, rfl, (by first | omega | (intro _; omega) | (intro hZq; exact absurd hZq (by decide)))⟩, hf⟩
        · have tc14 : x8.toInt < p2Zq.toInt := tl_nle c14Zq
          refine li_iload_n 4 dX11_years_43 rfl ?_
          refine li_ldcw 1103515245 dX11_years_44 w_1269 ?_
          refine li_imul dX11_years_47 ?_
          refine li_top (fun x21 ex21 => ?_)
          have tx21 : (-2147483648 ≤ x12.toInt * 1103515245 ∧ x12.toInt * 1103515245 ≤ 2147483647) → x21.toInt = x12.toInt * 1103515245 := tl_mul ex21
          refine li_sipush 12345 dX11_years_48 (by decide) ?_
          refine li_iadd dX11_years_51 ?_
          refine li_top (fun x22 ex22 => ?_)
          have tx22 : (-2147483648 ≤ x21.toInt + 12345 ∧ x21.toInt + 12345 ≤ 2147483647) → x22.toInt = x21.toInt + 12345 := tl_add ex22
          refine li_istore_n [(3, .int x22), (7, .int x8), (6, .int x9), (5, .int x10), (4, .int x11), (0, .ref (Z.2.2 0)), (1, .int p1Zq), (2, .int p2Zq)] dX11_years_52 (by decide) rfl ?_
          refine li_iload_n 0 dX11_years_53 rfl ?_
          refine li_bipush 16 dX11_years_54 (by decide) ?_
          refine li_iushr dX11_years_56 ?_
          refine li_top (fun x23 ex23 => ?_)
          refine li_bipush 10 dX11_years_57 (by decide) ?_
          refine li_irem dX11_years_59 (by decide) ?_
          refine li_top (fun x24 ex24 => ?_)
          refine li_istore [(8, .int x24), (3, .int x22), (7, .int x8), (6, .int x9), (5, .int x10), (4, .int x11), (0, .ref (Z.2.2 0)), (1, .int p1Zq), (2, .int p2Zq)] dX11_years_60 (by decide) rfl ?_
          refine li_aload_n 6 dX11_years_62 rfl ?_
          refine li_iload 0 dX11_years_63 rfl ?_
          refine li_aload_n 6 dX11_years_65 rfl ?_
          refine li_getr (k := 7) (N := 13) (T := TX11) (C0 := RX11) dX11_years_66 (by decide) sh_0 rfl rfl (by decide) (by decide) li_in11 w_480 ?_
          refine li_iload 0 dX11_years_69 rfl ?_
          refine li_callV (n := 1) (As := [.int x24]) dX11_years_71 (k_X0_leastWay (d - 1) (by omega) cob_148 x24 M13) (by omega) (Nat.le_of_ble_eq_true rfl) w_964 w_965 w_966 w_109 w_967 (by decide +kernel) rfl (by decide) sh_148 rfl rfl (Nat.le_of_ble_eq_true rfl) (fun r M26 h27 => ?_)
          obtain ⟨⟨x25, rfl⟩, h27⟩ := h27
          have gx25 := tl_rg x25
          have hf := li_fr_trans hf h27 (fun i (hZq : i = 146 ∨ i = 147) => (show i = 13 ∨ i = 14 ∨ i = 146 ∨ i = 147 ∨ i = 15 ∨ i = 16 ∨ i = 17 ∨ i = 18 ∨ i = 19 ∨ i = 20 ∨ i = 24 ∨ i = 25 ∨ i = 26 ∨ i = 27 ∨ i = 28 ∨ i = 29 ∨ i = 3 ∨ i = 30 ∨ i = 31 ∨ i = 4 by omega))
          have mM26_5_0 : (M26.1 5 0).toInt = (M13.1 5 0).toInt := by rw [h27.1 5 (show ¬ (5 = 146 ∨ 5 = 147) by omega)]
          have mM26_5_1 : (M26.1 5 1).toInt = (M13.1 5 1).toInt := by rw [h27.1 5 (show ¬ (5 = 146 ∨ 5 = 147) by omega)]
          have mM26_13_0 : (M26.1 13 0).toInt = (M13.1 13 0).toInt := by rw [h27.1 13 (show ¬ (13 = 146 ∨ 13 = 147) by omega)]
          have mM26_13_2 : (M26.1 13 2).toInt = (M13.1 13 2).toInt := by rw [h27.1 13 (show ¬ (13 = 146 ∨ 13 = 147) by omega)]
          refine li_callV (n := 2) (As := [.int x24, .int x25]) dX11_years_74 (k15_X11_utter (d - 1) (by omega) x24 x25 M26 (by first | omega | decide)) (by omega) (Nat.le_of_ble_eq_true rfl) w_852 w_854 w_15 w_101 w_855 (by decide +kernel) rfl (by decide) sh_0 rfl rfl (Nat.le_of_ble_eq_true rfl) (fun r M29 h30 => ?_)
          obtain ⟨⟨x28, rfl, qx28⟩, h30⟩ := h30
          have gx28 := tl_rg x28
          have hf := li_fr_trans hf h30 (fun i hZq => False.elim hZq)
          have mM29_5_0 : (M29.1 5 0).toInt = (M26.1 5 0).toInt := by rw [h30.1 5 id]
          have mM29_5_1 : (M29.1 5 1).toInt = (M26.1 5 1).toInt := by rw [h30.1 5 id]
          have mM29_13_0 : (M29.1 13 0).toInt = (M26.1 13 0).toInt := by rw [h30.1 13 id]
          have mM29_13_2 : (M29.1 13 2).toInt = (M26.1 13 2).toInt := by rw [h30.1 13 id]
          refine li_istore [(9, .int x28), (8, .int x24), (3, .int x22), (7, .int x8), (6, .int x9), (5, .int x10), (4, .int x11), (0, .ref (Z.2.2 0)), (1, .int p1Zq), (2, .int p2Zq)] dX11_years_77 (by decide) rfl ?_
          refine li_iload 0 dX11_years_79 rfl ?_
          have J111 : ∀ (x32 : Int32) (x33 : Int32) (x34 : Int32) (M35 : li_M), li_fr (fun i => i = 13 ∨ i = 14 ∨ i = 146 ∨ i = 147 ∨ i = 15 ∨ i = 16 ∨ i = 17 ∨ i = 18 ∨ i = 19 ∨ i = 20 ∨ i = 24 ∨ i = 25 ∨ i = 26 ∨ i = 27 ∨ i = 28 ∨ i = 29 ∨ i = 3 ∨ i = 30 ∨ i = 31 ∨ i = 4) M0 M35 → (x34 : Int32).toInt = 0 ∧ (M35.1 5 1).toInt = 0 ∧ (M35.1 13 2).toInt = 0 ∧ (M35.1 13 0).toInt = (x8 : Int32).toInt → li_T l Z YX11_years d 111 [(9, .int x28), (8, .int x24), (3, .int x22), (7, .int x8), (6, .int x32), (5, .int x33), (4, .int x34), (0, .ref (Z.2.2 0)), (1, .int p1Zq), (2, .int p2Zq)] [] M35 (fun r M' => (∃ x : Int32, r = some (.int x) ∧ ((1 ≤ p2Zq.toInt ∧ p2Zq.toInt ≤ 60 ∧ x.toInt = 0) ∨ (¬ (1 ≤ p2Zq.toInt ∧ p2Zq.toInt ≤ 60) ∧ x.toInt = -1))) ∧ li_fr (fun i => i = 13 ∨ i = 14 ∨ i = 146 ∨ i = 147 ∨ i = 15 ∨ i = 16 ∨ i = 17 ∨ i = 18 ∨ i = 19 ∨ i = 20 ∨ i = 24 ∨ i = 25 ∨ i = 26 ∨ i = 27 ∨ i = 28 ∨ i = 29 ∨ i = 3 ∨ i = 30 ∨ i = 31 ∨ i = 4) M0 M') := by
            intro x32 x33 x34 M35 hf hiZq
            have gx32 := tl_rg x32
            have gx33 := tl_rg x33
            have gx34 := tl_rg x34
            refine li_aload_n 7 dX11_years_111 rfl ?_
            refine li_getr (k := 3) (N := 13) (T := TX11) (C0 := RX11) dX11_years_112 (by decide) sh_0 rfl rfl (by decide) (by decide) li_in11 w_476 ?_
            refine li_aload_n 7 dX11_years_115 rfl ?_
            refine li_getr (k := 2) (N := 13) (T := TX11) (C0 := RX11) dX11_years_116 (by decide) sh_0 rfl rfl (by decide) (by decide) li_in11 w_475 ?_
            refine li_callV (n := 1) (As := [.ref (Z.2.2 5)]) dX11_years_119 (k15_X4_passDay (d - 1) (by omega)  M35 (by first | omega | decide) (by first | omega | decide)) (by omega) (Nat.le_of_ble_eq_true rfl) w_925 w_926 w_927 w_105 w_928 (by decide +kernel) rfl (by decide) sh_13 rfl rfl (Nat.le_of_ble_eq_true rfl) (fun r M37 h38 => ?_)
            obtain ⟨rfl, h38, nM37⟩ := h38
            have hf := li_fr_trans hf h38 (fun i (hZq : i = 13 ∨ i = 14 ∨ i = 15) => (show i = 13 ∨ i = 14 ∨ i = 146 ∨ i = 147 ∨ i = 15 ∨ i = 16 ∨ i = 17 ∨ i = 18 ∨ i = 19 ∨ i = 20 ∨ i = 24 ∨ i = 25 ∨ i = 26 ∨ i = 27 ∨ i = 28 ∨ i = 29 ∨ i = 3 ∨ i = 30 ∨ i = 31 ∨ i = 4 by omega))
            have mM37_5_0 : (M37.1 5 0).toInt = (M35.1 5 0).toInt := by rw [h38.1 5 (show ¬ (5 = 13 ∨ 5 = 14 ∨ 5 = 15) by omega)]
            have mM37_5_1 : (M37.1 5 1).toInt = (M35.1 5 1).toInt := by rw [h38.1 5 (show ¬ (5 = 13 ∨ 5 = 14 ∨ 5 = 15) by omega)]
            obtain ⟨x39, ex39⟩ : ∃ y : Int32, y = x8 + 1 := ⟨_, rfl⟩
            have tx39 : (-2147483648 ≤ x8.toInt + 1 ∧ x8.toInt + 1 ≤ 2147483647) → x39.toInt = x8.toInt + 1 := tl_add ex39
            refine li_iinc 3 [(7, .int x39), (9, .int x28), (8, .int x24), (3, .int x22), (6, .int x32), (5, .int x33), (4, .int x34), (0, .ref (Z.2.2 0)), (1, .int p1Zq), (2, .int p2Zq)] x39 dX11_years_122 rfl (by rw [ex39]; rfl) (by decide) rfl ?_
            refine li_goto 37 dX11_years_125 (by decide) ?_
            refine li_pick [0, 4, 5, 6, 3, 7, 8, 9] [(7, .int x39), (6, .int x32), (5, .int x33), (4, .int x34), (3, .int x22), (0, .ref (Z.2.2 0)), (1, .int p1Zq), (2, .int p2Zq)] rfl ?_
            exact ih37 x39 x32 x33 x34 x22 M37 (by omega) hf (by omega)
          refine li_if_lt 111 dX11_years_81 (by decide) (fun c31Zq => ?_) (fun c31Zq => ?_)
          · have tc31 : x28.toInt < 0 := tl_lt c31Zq
            refine li_pick [0, 1, 2, 3, 4, 5, 6, 7, 8, 9] [(9, .int x28), (8, .int x24), (3, .int x22), (7, .int x8), (6, .int x9), (5, .int x10), (4, .int x11), (0, .ref (Z.2.2 0)), (1, .int p1Zq), (2, .int p2Zq)] rfl ?_
            exact J111 x9 x10 x11 M29 hf (by omega)
          · have tc31 : 0 ≤ x28.toInt := tl_nlt c31Zq
            exfalso; omega
    have z0 : (0 : Int32).toInt = 0 := rfl
    have z0 : (0 : Int32).toInt = 0 := rfl
    have z0 : (0 : Int32).toInt = 0 := rfl
    have z0 : (0 : Int32).toInt = 0 := rfl
    exact L37 _ 0 0 0 0 p1Zq M6Zq (Nat.lt_succ_self _) hf (by omega)
  · have tc4 : x1Zq.toInt = 0 := tl_eq c4
    refine li_iconst (-1) dX11_years_10 (by decide) ?_
    have zm1 : ((-1) : Int32).toInt = -1 := rfl
    exact li_iret dX11_years_11 rfl rfl ⟨⟨_, rfl, (by first | omega | (intro _; omega) | (intro hZq; exact absurd hZq (by decide)))⟩, hf⟩


set_option maxRecDepth 100000 in
set_option maxHeartbeats 4000000 in
theorem k15_X11_readText {l : Launch} {Z : li_Z} (d : Nat) (hdZq : 3 ≤ d) (p1Zq : Int32) (p2Zq : Int32) (p3Zq : Int32) (M0 : li_M) (z11 : (M0.1 1 1).toInt = 0) (h1 : ¬ p1Zq.toInt = 4 ∧ ¬ p1Zq.toInt = 5 ∧ 0 ≤ p3Zq.toInt ∧ p3Zq.toInt ≤ 100) : li_Met l Z YX11_readText d [.ref (Z.2.2 0), .int p1Zq, .int p2Zq, .int p3Zq] M0 (fun r M' => (∃ x : Int32, r = some (.int x) ∧ (x.toInt = 0 ∧ (M'.1 1 1).toInt = 0)) ∧ li_fr (fun i => i = 1) M0 M') := by
  refine li_enter (by decide +kernel) (Nat.le_of_ble_eq_true rfl) ?_
  show li_T l Z YX11_readText d 0 [(0, .ref (Z.2.2 0)), (1, .int p1Zq), (2, .int p2Zq), (3, .int p3Zq)] [] M0 _
  have hf : li_fr (fun i => i = 1) M0 M0 := li_fr_refl
  have gp1 := tl_rg p1Zq
  have gp2 := tl_rg p2Zq
  have gp3 := tl_rg p3Zq
  refine li_aload_n 0 dX11_readText_0 rfl ?_
  refine li_getr (k := 0) (N := 13) (T := TX11) (C0 := RX11) dX11_readText_1 (by decide) sh_0 rfl rfl (by decide) (by decide) li_in11 w_473 ?_
  refine li_iconst 0 dX11_readText_4 (by decide) ?_
  refine li_puti (k := 2) (N := 3) (T := TX7) (C0 := RX7) dX11_readText_5 (by decide) sh_1 rfl rfl (by decide) li_in7 tyX7_ok nmX7 rfl rfl rfl rfl w_144 ?_
  refine li_nm (fun M1Zq eM1 => ?_)
  have hf := li_fr_ui hf (show 1 = 1 by omega) eM1
  have mM1_1_1 : (M1Zq.1 1 1).toInt = (M0.1 1 1).toInt := by rw [eM1, li_ui_at, if_pos rfl, if_neg (by decide)]
  have mM1_1_2 : (M1Zq.1 1 2).toInt = 0 := by rw [eM1, li_ui_at, if_pos rfl, if_pos rfl]; rfl
  have mM1_5_0 : (M1Zq.1 5 0).toInt = (M0.1 5 0).toInt := by rw [eM1, li_ui_at, if_neg (by decide)]
  have mM1_5_1 : (M1Zq.1 5 1).toInt = (M0.1 5 1).toInt := by rw [eM1, li_ui_at, if_neg (by decide)]
  have k2Zq : M1Zq.1 1 2 = 0 := by rw [eM1, li_ui_at, if_pos rfl, if_pos rfl]
  refine li_iload_n 1 dX11_readText_8 rfl ?_
  refine li_iconst 4 dX11_readText_9 (by decide) ?_
  have J80 : ∀ (x4Zq : Int32) (M5Zq : li_M), li_fr (fun i => i = 1) M0 M5Zq → (x4Zq : Int32).toInt = 0 ∧ (M5Zq.1 1 1).toInt = 0 ∧ (M5Zq.1 1 2).toInt = 0 → li_T l Z YX11_readText d 80 [(0, .ref (Z.2.2 0)), (1, .int p1Zq), (2, .int p2Zq), (3, .int p3Zq), (4, .int x4Zq)] [] M5Zq (fun r M' => (∃ x : Int32, r = some (.int x) ∧ (x.toInt = 0 ∧ (M'.1 1 1).toInt = 0)) ∧ li_fr (fun i => i = 1) M0 M') := by
    intro x4Zq M5Zq hf hiZq
    have gx4 := tl_rg x4Zq
    refine li_aload_n 0 dX11_readText_80 rfl ?_
    refine li_getr (k := 0) (N := 13) (T := TX11) (C0 := RX11) dX11_readText_81 (by decide) sh_0 rfl rfl (by decide) (by decide) li_in11 w_473 ?_
    refine li_iload 4 dX11_readText_84 rfl ?_
    refine li_iload_n 3 dX11_readText_86 rfl ?_
    refine li_callV (n := 2) (As := [.int x4Zq, .int p3Zq]) dX11_readText_87 (k5_X7_verdict (d - 1) (by omega) x4Zq p3Zq M5Zq (by omega) (by omega)) (by omega) (Nat.le_of_ble_eq_true rfl) w_721 w_722 w_723 w_102 w_724 (by decide +kernel) rfl (by decide) sh_1 rfl rfl (Nat.le_of_ble_eq_true rfl) (fun r M7Zq h8 => ?_)
    obtain ⟨⟨x6, rfl, qx6⟩, h8⟩ := h8
    have gx6 := tl_rg x6
    have hf := li_fr_trans hf h8 (fun i hZq => False.elim hZq)
    have mM7_1_1 : (M7Zq.1 1 1).toInt = (M5Zq.1 1 1).toInt := by rw [h8.1 1 id]
    have mM7_1_2 : (M7Zq.1 1 2).toInt = (M5Zq.1 1 2).toInt := by rw [h8.1 1 id]
    have mM7_5_0 : (M7Zq.1 5 0).toInt = (M5Zq.1 5 0).toInt := by rw [h8.1 5 id]
    have mM7_5_1 : (M7Zq.1 5 1).toInt = (M5Zq.1 5 1).toInt := by rw [h8.1 5 id]
    refine li_istore [(5, .int x6), (0, .ref (Z.2.2 0)), (1, .int p1Zq), (2, .int p2Zq), (3, .int p3Zq), (4, .int x4Zq)] dX11_readText_90 (by decide) rfl ?_
    refine li_aload_n 1 dX11_readText_92 rfl ?_
    refine li_getr (k := 0) (N := 13) (T := TX11) (C0 := RX11) dX11_readText_93 (by decide) sh_0 rfl rfl (by decide) (by decide) li_in11 w_473 ?_
    refine li_iconst 0 dX11_readText_96 (by decide) ?_
    refine li_puti (k := 1) (N := 3) (T := TX7) (C0 := RX7) dX11_readText_97 (by decide) sh_1 rfl rfl (by decide) li_in7 tyX7_ok nmX7 rfl rfl rfl rfl w_140 ?_
    refine li_nm (fun M9Zq eM9 => ?_)
    have hf := li_fr_ui hf (show 1 = 1 by omega) eM9
    have mM9_1_1 : (M9Zq.1 1 1).toInt = 0 := by rw [eM9, li_ui_at, if_pos rfl, if_pos rfl]; rfl
    have mM9_1_2 : (M9Zq.1 1 2).toInt = (M7Zq.1 1 2).toInt := by rw [eM9, li_ui_at, if_pos rfl, if_neg (by decide)]
    have mM9_5_0 : (M9Zq.1 5 0).toInt = (M7Zq.1 5 0).toInt := by rw [eM9, li_ui_at, if_neg (by decide)]
    have mM9_5_1 : (M9Zq.1 5 1).toInt = (M7Zq.1 5 1).toInt := by rw [eM9, li_ui_at, if_neg (by decide)]
    have k10 : M9Zq.1 1 1 = 0 := by rw [eM9, li_ui_at, if_pos rfl, if_pos rfl]
    refine li_iload 0 dX11_readText_100 rfl ?_
    exact li_iret dX11_readText_102 rfl rfl ⟨⟨_, rfl, (by first | omega | (intro _; omega) | (intro hZq; exact absurd hZq (by decide)))⟩, hf⟩
  refine li_icmp_ne 37 dX11_readText_10 (by decide) (fun c3 => ?_) (fun c3 => ?_)
  · have tc3 : ¬ p1Zq.toInt = 4 := tl_ne c3
    refine li_iload_n 1 dX11_readText_37 rfl ?_
    refine li_iconst 5 dX11_readText_38 (by decide) ?_
    refine li_icmp_ne 58 dX11_readText_39 (by decide) (fun c11Zq => ?_) (fun c11Zq => ?_)
    · have tc11 : ¬ p1Zq.toInt = 5 := tl_ne c11Zq
      refine li_aload_n 0 dX11_readText_58 rfl ?_
      refine li_getr (k := 0) (N := 13) (T := TX11) (C0 := RX11) dX11_readText_59 (by decide) sh_0 rfl rfl (by decide) (by decide) li_in11 w_473 ?_
      refine li_callV (n := 0) (As := []) dX11_readText_62 (k5_X7_atEnd (d - 1) (by omega) M1Zq) (by omega) (Nat.le_of_ble_eq_true rfl) w_663 w_545 w_546 w_102 w_547 (by decide +kernel) rfl (by decide) sh_1 rfl rfl (Nat.le_of_ble_eq_true rfl) (fun r M13 h14 => ?_)
      obtain ⟨⟨x12, rfl, bx12, qx12⟩, h14⟩ := h14
      have ux12 := tl_b bx12
      have hf := li_fr_trans hf h14 (fun i hZq => False.elim hZq)
      have mM13_1_1 : (M13.1 1 1).toInt = (M1Zq.1 1 1).toInt := by rw [h14.1 1 id]
      have mM13_1_2 : (M13.1 1 2).toInt = (M1Zq.1 1 2).toInt := by rw [h14.1 1 id]
      have mM13_5_0 : (M13.1 5 0).toInt = (M1Zq.1 5 0).toInt := by rw [h14.1 5 id]
      have mM13_5_1 : (M13.1 5 1).toInt = (M1Zq.1 5 1).toInt := by rw [h14.1 5 id]
      have J78 : ∀ (x16 : Int32) (M17 : li_M), li_fr (fun i => i = 1) M0 M17 → (x16 : Int32).toInt = 0 ∧ (M17.1 1 1).toInt = 0 ∧ (M17.1 1 2).toInt = 0 → li_T l Z YX11_readText d 78 [(0, .ref (Z.2.2 0)), (1, .int p1Zq), (2, .int p2Zq), (3, .int p3Zq)] [.int x16] M17 (fun r M' => (∃ x : Int32, r = some (.int x) ∧ (x.toInt = 0 ∧ (M'.1 1 1).toInt = 0)) ∧ li_fr (fun i => i = 1) M0 M') := by
        intro x16 M17 hf hiZq
        have gx16 := tl_rg x16
        refine li_istore [(4, .int x16), (0, .ref (Z.2.2 0)), (1, .int p1Zq), (2, .int p2Zq), (3, .int p3Zq)] dX11_readText_78 (by decide) rfl ?_
        refine li_pick [1, 2, 3, 4, 0] [(0, .ref (Z.2.2 0)), (1, .int p1Zq), (2, .int p2Zq), (3, .int p3Zq), (4, .int x16)] rfl ?_
        exact J80 x16 M17 hf (by omega)
      refine li_if_eq 72 dX11_readText_65 (by decide) (fun c15Zq => ?_) (fun c15Zq => ?_)
      · have tc15 : x12.toInt = 0 := tl_eq c15Zq
        exfalso; omega
      · have tc15 : ¬ x12.toInt = 0 := tl_ne c15Zq
        refine li_iconst 0 dX11_readText_68 (by decide) ?_
        refine li_goto 78 dX11_readText_69 (by decide) ?_
        refine li_pick [0, 1, 2, 3] [(0, .ref (Z.2.2 0)), (1, .int p1Zq), (2, .int p2Zq), (3, .int p3Zq)] rfl ?_
        have z0 : (0 : Int32).toInt = 0 := rfl
        exact J78 0 M13 hf (by omega)
    · have tc11 : p1Zq.toInt = 5 := tl_eq c11Zq
      exfalso; omega
  · have tc3 : p1Zq.toInt = 4 := tl_eq c3
    exfalso; omega

set_option maxRecDepth 100000 in
set_option maxHeartbeats 4000000 in
theorem k15_X11_people {l : Launch} {Z : li_Z} (d : Nat) (hdZq : 4 ≤ d) (M0 : li_M) (z11 : (M0.1 1 1).toInt = 0) : li_Met l Z YX11_people d [.ref (Z.2.2 0)] M0 (fun r M' => (∃ x : Int32, r = some (.int x) ∧ (x.toInt = 0)) ∧ li_fr (fun i => i = 1) M0 M') := by
  refine li_enter (by decide +kernel) (Nat.le_of_ble_eq_true rfl) ?_
  show li_T l Z YX11_people d 0 [(0, .ref (Z.2.2 0))] [] M0 _
  have hf : li_fr (fun i => i = 1) M0 M0 := li_fr_refl
  refine li_aload_n 0 dX11_people_0 rfl ?_
  refine li_iconst 0 dX11_people_1 (by decide) ?_
  refine li_bipush 6 dX11_people_2 (by decide) ?_
  refine li_aload_n 0 dX11_people_4 rfl ?_
  refine li_getr (k := 2) (N := 13) (T := TX11) (C0 := RX11) dX11_people_5 (by decide) sh_0 rfl rfl (by decide) (by decide) li_in11 w_475 ?_
  refine li_geti (k := 0) (N := 9) (T := TX8) (C0 := RX8) dX11_people_8 (by decide) sh_5 rfl rfl (by decide) li_in8 w_178 ?_
  refine li_top (fun x1Zq ex1 => ?_)
  have gx1 := tl_rg x1Zq
  have vx1 : x1Zq.toInt = (M0.1 5 0).toInt := tl_eq ex1
  refine li_isub dX11_people_11 ?_
  refine li_top (fun x2Zq ex2Zq => ?_)
  have tx2 : (-2147483648 ≤ 6 - x1Zq.toInt ∧ 6 - x1Zq.toInt ≤ 2147483647) → x2Zq.toInt = 6 - x1Zq.toInt := tl_sub ex2Zq
  refine li_bipush 76 dX11_people_12 (by decide) ?_
  refine li_callV (n := 3) (As := [.int 0, .int x2Zq, .int 76]) dX11_people_14 (k15_X11_readText (d - 1) (by omega) 0 x2Zq 76 M0 (by first | omega | decide) (by first | omega | decide)) (by omega) (Nat.le_of_ble_eq_true rfl) w_536 w_538 w_0 w_101 w_539 (by decide +kernel) rfl (by decide) sh_0 rfl rfl (Nat.le_of_ble_eq_true rfl) (fun r M4Zq h5 => ?_)
  have z0 : (0 : Int32).toInt = 0 := rfl
  have z76 : (76 : Int32).toInt = 76 := rfl
  obtain ⟨⟨x3, rfl, qx3⟩, h5⟩ := h5
  have gx3 := tl_rg x3
  have hf := li_fr_trans hf h5 (fun i (hZq : i = 1) => (show i = 1 by omega))
  have mM4_5_0 : (M4Zq.1 5 0).toInt = (M0.1 5 0).toInt := by rw [h5.1 5 (show ¬ (5 = 1) by omega)]
  have mM4_5_1 : (M4Zq.1 5 1).toInt = (M0.1 5 1).toInt := by rw [h5.1 5 (show ¬ (5 = 1) by omega)]
  refine li_istore_n [(1, .int x3), (0, .ref (Z.2.2 0))] dX11_people_17 (by decide) rfl ?_
  refine li_iload_n 0 dX11_people_18 rfl ?_
  refine li_if_le 54 dX11_people_19 (by decide) (fun c6Zq => ?_) (fun c6Zq => ?_)
  · have tc6 : x3.toInt ≤ 0 := tl_le c6Zq
    refine li_iload_n 0 dX11_people_54 rfl ?_
    exact li_iret dX11_people_55 rfl rfl ⟨⟨_, rfl, (by first | omega | (intro _; omega) | (intro hZq; exact absurd hZq (by decide)))⟩, hf⟩
  · have tc6 : 0 < x3.toInt := tl_nle c6Zq
    exfalso; omega
set_option maxRecDepth 100000 in
set_option maxHeartbeats 4000000 in
theorem k15_X11_things {l : Launch} {Z : li_Z} (d : Nat) (hdZq : 4 ≤ d) (M0 : li_M) (z11 : (M0.1 1 1).toInt = 0) : li_Met l Z YX11_things d [.ref (Z.2.2 0)] M0 (fun r M' => (∃ x : Int32, r = some (.int x) ∧ (x.toInt = 0)) ∧ li_fr (fun i => i = 1) M0 M') := by
  refine li_enter (by decide +kernel) (Nat.le_of_ble_eq_true rfl) ?_
  show li_T l Z YX11_things d 0 [(0, .ref (Z.2.2 0))] [] M0 _
  have hf : li_fr (fun i => i = 1) M0 M0 := li_fr_refl
  refine li_aload_n 0 dX11_things_0 rfl ?_
  refine li_iconst 1 dX11_things_1 (by decide) ?_
  refine li_bipush 8 dX11_things_2 (by decide) ?_
  refine li_aload_n 0 dX11_things_4 rfl ?_
  refine li_getr (k := 2) (N := 13) (T := TX11) (C0 := RX11) dX11_things_5 (by decide) sh_0 rfl rfl (by decide) (by decide) li_in11 w_475 ?_
  refine li_geti (k := 1) (N := 9) (T := TX8) (C0 := RX8) dX11_things_8 (by decide) sh_5 rfl rfl (by decide) li_in8 w_180 ?_
  refine li_top (fun x1Zq ex1 => ?_)
  have gx1 := tl_rg x1Zq
  have vx1 : x1Zq.toInt = (M0.1 5 1).toInt := tl_eq ex1
  refine li_isub dX11_things_11 ?_
  refine li_top (fun x2Zq ex2Zq => ?_)
  have tx2 : (-2147483648 ≤ 8 - x1Zq.toInt ∧ 8 - x1Zq.toInt ≤ 2147483647) → x2Zq.toInt = 8 - x1Zq.toInt := tl_sub ex2Zq
  refine li_bipush 76 dX11_things_12 (by decide) ?_
  refine li_callV (n := 3) (As := [.int 1, .int x2Zq, .int 76]) dX11_things_14 (k15_X11_readText (d - 1) (by omega) 1 x2Zq 76 M0 (by first | omega | decide) (by first | omega | decide)) (by omega) (Nat.le_of_ble_eq_true rfl) w_536 w_538 w_0 w_101 w_539 (by decide +kernel) rfl (by decide) sh_0 rfl rfl (Nat.le_of_ble_eq_true rfl) (fun r M4Zq h5 => ?_)
  have z1 : (1 : Int32).toInt = 1 := rfl
  have z76 : (76 : Int32).toInt = 76 := rfl
  obtain ⟨⟨x3, rfl, qx3⟩, h5⟩ := h5
  have gx3 := tl_rg x3
  have hf := li_fr_trans hf h5 (fun i (hZq : i = 1) => (show i = 1 by omega))
  have mM4_5_0 : (M4Zq.1 5 0).toInt = (M0.1 5 0).toInt := by rw [h5.1 5 (show ¬ (5 = 1) by omega)]
  have mM4_5_1 : (M4Zq.1 5 1).toInt = (M0.1 5 1).toInt := by rw [h5.1 5 (show ¬ (5 = 1) by omega)]
  refine li_istore_n [(1, .int x3), (0, .ref (Z.2.2 0))] dX11_things_17 (by decide) rfl ?_
  refine li_iload_n 0 dX11_things_18 rfl ?_
  refine li_if_le 42 dX11_things_19 (by decide) (fun c6Zq => ?_) (fun c6Zq => ?_)
  · have tc6 : x3.toInt ≤ 0 := tl_le c6Zq
    refine li_iload_n 0 dX11_things_42 rfl ?_
    exact li_iret dX11_things_43 rfl rfl ⟨⟨_, rfl, (by first | omega | (intro _; omega) | (intro hZq; exact absurd hZq (by decide)))⟩, hf⟩
  · have tc6 : 0 < x3.toInt := tl_nle c6Zq
    exfalso; omega
set_option maxRecDepth 100000 in
set_option maxHeartbeats 4000000 in
theorem k15_X11_grammar {l : Launch} {Z : li_Z} (d : Nat) (hdZq : 4 ≤ d) (M0 : li_M) (z11 : (M0.1 1 1).toInt = 0) : li_Met l Z YX11_grammar d [.ref (Z.2.2 0)] M0 (fun r M' => (∃ x : Int32, r = some (.int x) ∧ (x.toInt = 0)) ∧ li_fr (fun i => i = 1 ∨ i = 163 ∨ i = 164) M0 M') := by
  refine li_enter (by decide +kernel) (Nat.le_of_ble_eq_true rfl) ?_
  show li_T l Z YX11_grammar d 0 [(0, .ref (Z.2.2 0))] [] M0 _
  have hf : li_fr (fun i => i = 1 ∨ i = 163 ∨ i = 164) M0 M0 := li_fr_refl
  refine li_aload_n 0 dX11_grammar_0 rfl ?_
  refine li_iconst 3 dX11_grammar_1 (by decide) ?_
  refine li_bipush 10 dX11_grammar_2 (by decide) ?_
  refine li_bipush 80 dX11_grammar_4 (by decide) ?_
  refine li_callV (n := 3) (As := [.int 3, .int 10, .int 80]) dX11_grammar_6 (k15_X11_readText (d - 1) (by omega) 3 10 80 M0 (by first | omega | decide) (by first | omega | decide)) (by omega) (Nat.le_of_ble_eq_true rfl) w_536 w_538 w_0 w_101 w_539 (by decide +kernel) rfl (by decide) sh_0 rfl rfl (Nat.le_of_ble_eq_true rfl) (fun r M2Zq h3 => ?_)
  have z3 : (3 : Int32).toInt = 3 := rfl
  have z10 : (10 : Int32).toInt = 10 := rfl
  have z80 : (80 : Int32).toInt = 80 := rfl
  obtain ⟨⟨x1Zq, rfl, qx1⟩, h3⟩ := h3
  have gx1 := tl_rg x1Zq
  have hf := li_fr_trans hf h3 (fun i (hZq : i = 1) => (show i = 1 ∨ i = 163 ∨ i = 164 by omega))
  have mM2_5_0 : (M2Zq.1 5 0).toInt = (M0.1 5 0).toInt := by rw [h3.1 5 (show ¬ (5 = 1) by omega)]
  have mM2_5_1 : (M2Zq.1 5 1).toInt = (M0.1 5 1).toInt := by rw [h3.1 5 (show ¬ (5 = 1) by omega)]
  refine li_istore_n [(1, .int x1Zq), (0, .ref (Z.2.2 0))] dX11_grammar_9 (by decide) rfl ?_
  refine li_iload_n 0 dX11_grammar_10 rfl ?_
  refine li_if_lt 22 dX11_grammar_11 (by decide) (fun c4 => ?_) (fun c4 => ?_)
  · have tc4 : x1Zq.toInt < 0 := tl_lt c4
    refine li_iload_n 0 dX11_grammar_22 rfl ?_
    exact li_iret dX11_grammar_23 rfl rfl ⟨⟨_, rfl, (by first | omega | (intro _; omega) | (intro hZq; exact absurd hZq (by decide)))⟩, hf⟩
  · have tc4 : 0 ≤ x1Zq.toInt := tl_nlt c4
    refine li_aload_n 1 dX11_grammar_14 rfl ?_
    refine li_getr (k := 10) (N := 13) (T := TX11) (C0 := RX11) dX11_grammar_15 (by decide) sh_0 rfl rfl (by decide) (by decide) li_in11 w_483 ?_
    refine li_iload_n 0 dX11_grammar_18 rfl ?_
    refine li_callV (n := 1) (As := [.int x1Zq]) dX11_grammar_19 (k_X10_adopt (d - 1) (by omega) x1Zq M2Zq) (by omega) (Nat.le_of_ble_eq_true rfl) w_1116 w_1117 w_1118 w_108 w_1119 (by decide +kernel) rfl (by decide) sh_163 rfl rfl (Nat.le_of_ble_eq_true rfl) (fun r M6Zq h7 => ?_)
    obtain ⟨rfl, h7⟩ := h7
    have hf := li_fr_trans hf h7 (fun i (hZq : i = 163 ∨ i = 164) => (show i = 1 ∨ i = 163 ∨ i = 164 by omega))
    have mM6_1_1 : (M6Zq.1 1 1).toInt = (M2Zq.1 1 1).toInt := by rw [h7.1 1 (show ¬ (1 = 163 ∨ 1 = 164) by omega)]
    have mM6_1_2 : (M6Zq.1 1 2).toInt = (M2Zq.1 1 2).toInt := by rw [h7.1 1 (show ¬ (1 = 163 ∨ 1 = 164) by omega)]
    have mM6_5_0 : (M6Zq.1 5 0).toInt = (M2Zq.1 5 0).toInt := by rw [h7.1 5 (show ¬ (5 = 163 ∨ 5 = 164) by omega)]
    have mM6_5_1 : (M6Zq.1 5 1).toInt = (M2Zq.1 5 1).toInt := by rw [h7.1 5 (show ¬ (5 = 163 ∨ 5 = 164) by omega)]
    refine li_iload_n 0 dX11_grammar_22 rfl ?_
    exact li_iret dX11_grammar_23 rfl rfl ⟨⟨_, rfl, (by first | omega | (intro _; omega) | (intro hZq; exact absurd hZq (by decide)))⟩, hf⟩
set_option maxRecDepth 100000 in
set_option maxHeartbeats 4000000 in
theorem k15_X11_talk {l : Launch} {Z : li_Z} (d : Nat) (hdZq : 4 ≤ d) (M0 : li_M) (z11 : (M0.1 1 1).toInt = 0) : li_Met l Z YX11_talk d [.ref (Z.2.2 0)] M0 (fun r M' => (∃ x : Int32, r = some (.int x) ∧ (x.toInt = 0)) ∧ li_fr (fun i => i = 1 ∨ i = 24 ∨ i = 25 ∨ i = 26 ∨ i = 27 ∨ i = 28 ∨ i = 29 ∨ i = 3 ∨ i = 30 ∨ i = 31 ∨ i = 4) M0 M') := by
  refine li_enter (by decide +kernel) (Nat.le_of_ble_eq_true rfl) ?_
  show li_T l Z YX11_talk d 0 [(0, .ref (Z.2.2 0))] [] M0 _
  have hf : li_fr (fun i => i = 1 ∨ i = 24 ∨ i = 25 ∨ i = 26 ∨ i = 27 ∨ i = 28 ∨ i = 29 ∨ i = 3 ∨ i = 30 ∨ i = 31 ∨ i = 4) M0 M0 := li_fr_refl
  refine li_aload_n 0 dX11_talk_0 rfl ?_
  refine li_iconst 2 dX11_talk_1 (by decide) ?_
  refine li_bipush 40 dX11_talk_2 (by decide) ?_
  refine li_bipush 60 dX11_talk_4 (by decide) ?_
  refine li_callV (n := 3) (As := [.int 2, .int 40, .int 60]) dX11_talk_6 (k15_X11_readText (d - 1) (by omega) 2 40 60 M0 (by first | omega | decide) (by first | omega | decide)) (by omega) (Nat.le_of_ble_eq_true rfl) w_536 w_538 w_0 w_101 w_539 (by decide +kernel) rfl (by decide) sh_0 rfl rfl (Nat.le_of_ble_eq_true rfl) (fun r M2Zq h3 => ?_)
  have z2 : (2 : Int32).toInt = 2 := rfl
  have z40 : (40 : Int32).toInt = 40 := rfl
  have z60Zq : (60 : Int32).toInt = 60 := rfl
  obtain ⟨⟨x1Zq, rfl, qx1⟩, h3⟩ := h3
  have gx1 := tl_rg x1Zq
  have hf := li_fr_trans hf h3 (fun i (hZq : i = 1) => (show i = 1 ∨ i = 24 ∨ i = 25 ∨ i = 26 ∨ i = 27 ∨ i = 28 ∨ i = 29 ∨ i = 3 ∨ i = 30 ∨ i = 31 ∨ i = 4 by omega))
  have mM2_5_0 : (M2Zq.1 5 0).toInt = (M0.1 5 0).toInt := by rw [h3.1 5 (show ¬ (5 = 1) by omega)]
  have mM2_5_1 : (M2Zq.1 5 1).toInt = (M0.1 5 1).toInt := by rw [h3.1 5 (show ¬ (5 = 1) by omega)]
  refine li_istore_n [(1, .int x1Zq), (0, .ref (Z.2.2 0))] dX11_talk_9 (by decide) rfl ?_
  refine li_iload_n 0 dX11_talk_10 rfl ?_
  refine li_if_ge 16 dX11_talk_11 (by decide) (fun c4 => ?_) (fun c4 => ?_)
  · have tc4 : 0 ≤ x1Zq.toInt := tl_le c4
    refine li_aload_n 1 dX11_talk_16 rfl ?_
    refine li_getr (k := 4) (N := 13) (T := TX11) (C0 := RX11) dX11_talk_17 (by decide) sh_0 rfl rfl (by decide) (by decide) li_in11 w_477 ?_
    refine li_aload_n 1 dX11_talk_20 rfl ?_
    refine li_getr (k := 3) (N := 13) (T := TX11) (C0 := RX11) dX11_talk_21 (by decide) sh_0 rfl rfl (by decide) (by decide) li_in11 w_476 ?_
    refine li_callV (n := 1) (As := [.ref (Z.2.2 13)]) dX11_talk_24 (k_X3_note (d - 1) (by omega)  M2Zq) (by omega) (Nat.le_of_ble_eq_true rfl) w_843 w_844 w_845 w_106 w_846 (by decide +kernel) rfl (by decide) sh_21 rfl rfl (Nat.le_of_ble_eq_true rfl) (fun r M6Zq h7 => ?_)
    obtain ⟨rfl, h7⟩ := h7
    have hf := li_fr_trans hf h7 (fun i (hZq : i = 24 ∨ i = 25 ∨ i = 26 ∨ i = 27 ∨ i = 28 ∨ i = 29 ∨ i = 30 ∨ i = 31) => (show i = 1 ∨ i = 24 ∨ i = 25 ∨ i = 26 ∨ i = 27 ∨ i = 28 ∨ i = 29 ∨ i = 3 ∨ i = 30 ∨ i = 31 ∨ i = 4 by omega))
    have mM6_1_1 : (M6Zq.1 1 1).toInt = (M2Zq.1 1 1).toInt := by rw [h7.1 1 (show ¬ (1 = 24 ∨ 1 = 25 ∨ 1 = 26 ∨ 1 = 27 ∨ 1 = 28 ∨ 1 = 29 ∨ 1 = 30 ∨ 1 = 31) by omega)]
    have mM6_1_2 : (M6Zq.1 1 2).toInt = (M2Zq.1 1 2).toInt := by rw [h7.1 1 (show ¬ (1 = 24 ∨ 1 = 25 ∨ 1 = 26 ∨ 1 = 27 ∨ 1 = 28 ∨ 1 = 29 ∨ 1 = 30 ∨ 1 = 31) by omega)]
    have mM6_5_0 : (M6Zq.1 5 0).toInt = (M2Zq.1 5 0).toInt := by rw [h7.1 5 (show ¬ (5 = 24 ∨ 5 = 25 ∨ 5 = 26 ∨ 5 = 27 ∨ 5 = 28 ∨ 5 = 29 ∨ 5 = 30 ∨ 5 = 31) by omega)]
    have mM6_5_1 : (M6Zq.1 5 1).toInt = (M2Zq.1 5 1).toInt := by rw [h7.1 5 (show ¬ (5 = 24 ∨ 5 = 25 ∨ 5 = 26 ∨ 5 = 27 ∨ 5 = 28 ∨ 5 = 29 ∨ 5 = 30 ∨ 5 = 31) by omega)]
    refine li_iconst 0 dX11_talk_27 (by decide) ?_
    refine li_istore_n [(2, .int 0), (1, .int x1Zq), (0, .ref (Z.2.2 0))] dX11_talk_28 (by decide) rfl ?_
    refine li_iconst 0 dX11_talk_29 (by decide) ?_
    refine li_istore_n [(3, .int 0), (2, .int 0), (1, .int x1Zq), (0, .ref (Z.2.2 0))] dX11_talk_30 (by decide) rfl ?_
    refine li_iconst 0 dX11_talk_31 (by decide) ?_
    refine li_istore [(4, .int 0), (3, .int 0), (2, .int 0), (1, .int x1Zq), (0, .ref (Z.2.2 0))] dX11_talk_32 (by decide) rfl ?_
    have L34 : ∀ (n : Nat) (x8 : Int32) (x9 : Int32) (x10 : Int32) (M11 : li_M), ((x8 : Int32).toInt).toNat < n → li_fr (fun i => i = 1 ∨ i = 24 ∨ i = 25 ∨ i = 26 ∨ i = 27 ∨ i = 28 ∨ i = 29 ∨ i = 3 ∨ i = 30 ∨ i = 31 ∨ i = 4) M0 M11 → 0 ≤ (x8 : Int32).toInt ∧ (x10 : Int32).toInt = 0 ∧ (x1Zq : Int32).toInt = 0 → li_T l Z YX11_talk d 34 [(4, .int x8), (3, .int x9), (2, .int x10), (1, .int x1Zq), (0, .ref (Z.2.2 0))] [] M11 (fun r M' => (∃ x : Int32, r = some (.int x) ∧ (x.toInt = 0)) ∧ li_fr (fun i => i = 1 ∨ i = 24 ∨ i = 25 ∨ i = 26 ∨ i = 27 ∨ i = 28 ∨ i = 29 ∨ i = 3 ∨ i = 30 ∨ i = 31 ∨ i = 4) M0 M') := by
      intro n
      induction n with
      | zero => intro x8 x9 x10 M11 hn; exact absurd hn (Nat.not_lt_zero _)
      | succ n ih34 =>
        intro x8 x9 x10 M11 hn hf hiZq
        have gx8 := tl_rg x8
        have gx9 := tl_rg x9
        have gx10 := tl_rg x10
        refine li_iload 0 dX11_talk_34 rfl ?_
        refine li_iload_n 3 dX11_talk_36 rfl ?_
        refine li_icmp_ge 83 dX11_talk_37 (by decide) (fun c12Zq => ?_) (fun c12Zq => ?_)
        · have tc12 : x1Zq.toInt ≤ x8.toInt := tl_le c12Zq
          refine li_iload_n 2 dX11_talk_83 rfl ?_
          have J94 : ∀  (M14 : li_M), li_fr (fun i => i = 1 ∨ i = 24 ∨ i = 25 ∨ i = 26 ∨ i = 27 ∨ i = 28 ∨ i = 29 ∨ i = 3 ∨ i = 30 ∨ i = 31 ∨ i = 4) M0 M14 → li_T l Z YX11_talk d 94 [(4, .int x8), (3, .int x9), (2, .int x10), (1, .int x1Zq), (0, .ref (Z.2.2 0))] [] M14 (fun r M' => (∃ x : Int32, r = some (.int x) ∧ (x.toInt = 0)) ∧ li_fr (fun i => i = 1 ∨ i = 24 ∨ i = 25 ∨ i = 26 ∨ i = 27 ∨ i = 28 ∨ i = 29 ∨ i = 3 ∨ i = 30 ∨ i = 31 ∨ i = 4) M0 M') := by
            intro  M14 hf
            refine li_aload_n 4 dX11_talk_94 rfl ?_
            refine li_getr (k := 1) (N := 13) (T := TX11) (C0 := RX11) dX11_talk_95 (by decide) sh_0 rfl rfl (by decide) (by decide) li_in11 w_474 ?_
            refine li_iload_n 2 dX11_talk_98 rfl ?_
            refine li_iload_n 3 dX11_talk_99 rfl ?_
            refine li_icmp_ge 107 dX11_talk_100 (by decide) (fun c15Zq => ?_) (fun c15Zq => ?_)
            · have tc15 : x1Zq.toInt ≤ x10.toInt := tl_le c15Zq
              refine li_iconst 0 dX11_talk_107 (by decide) ?_
              refine li_iload_n 1 dX11_talk_108 rfl ?_
              refine li_callV (n := 2) (As := [.int 0, .int x9]) dX11_talk_109 (k_X5_tellTwo (d - 1) (by omega) 0 x9 M14) (by omega) (Nat.le_of_ble_eq_true rfl) w_951 w_952 w_953 w_103 w_954 (by decide +kernel) rfl (by decide) sh_3 rfl rfl (Nat.le_of_ble_eq_true rfl) (fun r M17 h18 => ?_)
              obtain ⟨rfl, h18⟩ := h18
              have hf := li_fr_trans hf h18 (fun i (hZq : i = 3 ∨ i = 4) => (show i = 1 ∨ i = 24 ∨ i = 25 ∨ i = 26 ∨ i = 27 ∨ i = 28 ∨ i = 29 ∨ i = 3 ∨ i = 30 ∨ i = 31 ∨ i = 4 by omega))
              have mM17_1_1 : (M17.1 1 1).toInt = (M14.1 1 1).toInt := by rw [h18.1 1 (show ¬ (1 = 3 ∨ 1 = 4) by omega)]
              have mM17_1_2 : (M17.1 1 2).toInt = (M14.1 1 2).toInt := by rw [h18.1 1 (show ¬ (1 = 3 ∨ 1 = 4) by omega)]
              have mM17_5_0 : (M17.1 5 0).toInt = (M14.1 5 0).toInt := by rw [h18.1 5 (show ¬ (5 = 3 ∨ 5 = 4) by omega)]
              have mM17_5_1 : (M17.1 5 1).toInt = (M14.1 5 1).toInt := by rw [h18.1 5 (show ¬ (5 = 3 ∨ 5 = 4) by omega)]
              refine li_iload_n 2 dX11_talk_112 rfl ?_
              exact li_iret dX11_talk_113 rfl rfl ⟨⟨_, rfl, (by first | omega | (intro _; omega) | (intro hZq; exact absurd hZq (by decide)))⟩, hf⟩
            · have tc15 : x10.toInt < x1Zq.toInt := tl_nle c15Zq
              refine li_iconst 1 dX11_talk_103 (by decide) ?_
              refine li_goto 108 dX11_talk_104 (by decide) ?_
              refine li_iload_n 1 dX11_talk_108 rfl ?_
              refine li_callV (n := 2) (As := [.int 1, .int x9]) dX11_talk_109 (k_X5_tellTwo (d - 1) (by omega) 1 x9 M14) (by omega) (Nat.le_of_ble_eq_true rfl) w_951 w_952 w_953 w_103 w_954 (by decide +kernel) rfl (by decide) sh_3 rfl rfl (Nat.le_of_ble_eq_true rfl) (fun r M20 h21 => ?_)
              obtain ⟨rfl, h21⟩ := h21
              have hf := li_fr_trans hf h21 (fun i (hZq : i = 3 ∨ i = 4) => (show i = 1 ∨ i = 24 ∨ i = 25 ∨ i = 26 ∨ i = 27 ∨ i = 28 ∨ i = 29 ∨ i = 3 ∨ i = 30 ∨ i = 31 ∨ i = 4 by omega))
              have mM20_1_1 : (M20.1 1 1).toInt = (M14.1 1 1).toInt := by rw [h21.1 1 (show ¬ (1 = 3 ∨ 1 = 4) by omega)]
              have mM20_1_2 : (M20.1 1 2).toInt = (M14.1 1 2).toInt := by rw [h21.1 1 (show ¬ (1 = 3 ∨ 1 = 4) by omega)]
              have mM20_5_0 : (M20.1 5 0).toInt = (M14.1 5 0).toInt := by rw [h21.1 5 (show ¬ (5 = 3 ∨ 5 = 4) by omega)]
              have mM20_5_1 : (M20.1 5 1).toInt = (M14.1 5 1).toInt := by rw [h21.1 5 (show ¬ (5 = 3 ∨ 5 = 4) by omega)]
              refine li_iload_n 2 dX11_talk_112 rfl ?_
              exact li_iret dX11_talk_113 rfl rfl ⟨⟨_, rfl, (by first | omega | (intro _; omega) | (intro hZq; exact absurd hZq (by decide)))⟩, hf⟩
          refine li_if_le 94 dX11_talk_84 (by decide) (fun c13Zq => ?_) (fun c13Zq => ?_)
          · have tc13 : x10.toInt ≤ 0 := tl_le c13Zq
            refine li_pick [0, 1, 2, 3, 4] [(4, .int x8), (3, .int x9), (2, .int x10), (1, .int x1Zq), (0, .ref (Z.2.2 0))] rfl ?_
            exact J94  M11 hf
          · have tc13 : 0 < x10.toInt := tl_nle c13Zq
            exfalso; omega
        · have tc12 : x8.toInt < x1Zq.toInt := tl_nle c12Zq
          exfalso; omega
    have z0 : (0 : Int32).toInt = 0 := rfl
    have z0 : (0 : Int32).toInt = 0 := rfl
    have z0 : (0 : Int32).toInt = 0 := rfl
    exact L34 _ 0 0 0 M6Zq (Nat.lt_succ_self _) hf (by omega)
  · have tc4 : x1Zq.toInt < 0 := tl_nle c4
    exfalso; omega
set_option maxRecDepth 100000 in
set_option maxHeartbeats 4000000 in
theorem k15_X6_readAll {l : Launch} {Z : li_Z} (d : Nat) (hdZq : 2 ≤ d) (M0 : li_M) (z11 : (M0.1 1 1).toInt = 0) (z12 : (M0.1 1 2).toInt = 0) : li_Met l Z YX6_readAll d [.ref (Z.2.2 151), .ref (Z.2.2 1)] M0 (fun r M' => (∃ x : Int32, r = some (.int x) ∧ (x = 0 ∨ x = 1) ∧ (x.toInt = 1)) ∧ li_fr (fun i => i = 151) M0 M') := by
  refine li_enter (by decide +kernel) (Nat.le_of_ble_eq_true rfl) ?_
  show li_T l Z YX6_readAll d 0 [(0, .ref (Z.2.2 151)), (1, .ref (Z.2.2 1))] [] M0 _
  have hf : li_fr (fun i => i = 151) M0 M0 := li_fr_refl
  refine li_aload_n 0 dX6_readAll_0 rfl ?_
  refine li_iconst 0 dX6_readAll_1 (by decide) ?_
  refine li_puti (k := 3) (N := 4) (T := TX6) (C0 := RX6) dX6_readAll_2 (by decide) sh_151 rfl rfl (by decide) li_in6 tyX6_ok nmX6 rfl rfl rfl rfl w_319 ?_
  refine li_nm (fun M1Zq eM1 => ?_)
  have hf := li_fr_ui hf (show 151 = 151 by omega) eM1
  have mM1_1_1 : (M1Zq.1 1 1).toInt = (M0.1 1 1).toInt := by rw [eM1, li_ui_at, if_neg (by decide)]
  have mM1_1_2 : (M1Zq.1 1 2).toInt = (M0.1 1 2).toInt := by rw [eM1, li_ui_at, if_neg (by decide)]
  have k2Zq : M1Zq.1 151 3 = 0 := by rw [eM1, li_ui_at, if_pos rfl, if_pos rfl]
  refine li_aload_n 1 dX6_readAll_5 rfl ?_
  refine li_callV (n := 0) (As := []) dX6_readAll_6 (k5_X7_atEnd (d - 1) (by omega) M1Zq) (by omega) (Nat.le_of_ble_eq_true rfl) w_544 w_545 w_546 w_102 w_547 (by decide +kernel) rfl (by decide) sh_1 rfl rfl (Nat.le_of_ble_eq_true rfl) (fun r M4Zq h5 => ?_)
  obtain ⟨⟨x3, rfl, bx3, qx3⟩, h5⟩ := h5
  have ux3 := tl_b bx3
  have hf := li_fr_trans hf h5 (fun i hZq => False.elim hZq)
  have mM4_1_1 : (M4Zq.1 1 1).toInt = (M1Zq.1 1 1).toInt := by rw [h5.1 1 id]
  have mM4_1_2 : (M4Zq.1 1 2).toInt = (M1Zq.1 1 2).toInt := by rw [h5.1 1 id]
  refine li_if_ne 28 dX6_readAll_9 (by decide) (fun c6Zq => ?_) (fun c6Zq => ?_)
  · have tc6 : ¬ x3.toInt = 0 := tl_ne c6Zq
    refine li_iconst 1 dX6_readAll_28 (by decide) ?_
    refine li_goto 33 dX6_readAll_29 (by decide) ?_
    have z1 : (1 : Int32).toInt = 1 := rfl
    exact li_iret dX6_readAll_33 rfl (li_nz (Or.inr rfl)) ⟨⟨_, rfl, Or.inr rfl, (by first | omega | (intro _; omega) | (intro hZq; exact absurd hZq (by decide)))⟩, hf⟩
  · have tc6 : x3.toInt = 0 := tl_eq c6Zq
    exfalso; omega
set_option maxRecDepth 100000 in
set_option maxHeartbeats 4000000 in
theorem k15b_X11_readText {l : Launch} {Z : li_Z} (d : Nat) (hdZq : 3 ≤ d) (p1Zq : Int32) (p2Zq : Int32) (p3Zq : Int32) (M0 : li_M) (z11 : (M0.1 1 1).toInt = 0) (h1 : p1Zq.toInt = 4 ∧ 0 ≤ p3Zq.toInt ∧ p3Zq.toInt ≤ 100) : li_Met l Z YX11_readText d [.ref (Z.2.2 0), .int p1Zq, .int p2Zq, .int p3Zq] M0 (fun r M' => (∃ x : Int32, r = some (.int x) ∧ (x.toInt = 0 ∧ (M'.1 1 1).toInt = 0)) ∧ li_fr (fun i => i = 1 ∨ i = 151) M0 M') := by
  refine li_enter (by decide +kernel) (Nat.le_of_ble_eq_true rfl) ?_
  show li_T l Z YX11_readText d 0 [(0, .ref (Z.2.2 0)), (1, .int p1Zq), (2, .int p2Zq), (3, .int p3Zq)] [] M0 _
  have hf : li_fr (fun i => i = 1 ∨ i = 151) M0 M0 := li_fr_refl
  have gp1 := tl_rg p1Zq
  have gp2 := tl_rg p2Zq
  have gp3 := tl_rg p3Zq
  refine li_aload_n 0 dX11_readText_0 rfl ?_
  refine li_getr (k := 0) (N := 13) (T := TX11) (C0 := RX11) dX11_readText_1 (by decide) sh_0 rfl rfl (by decide) (by decide) li_in11 w_473 ?_
  refine li_iconst 0 dX11_readText_4 (by decide) ?_
  refine li_puti (k := 2) (N := 3) (T := TX7) (C0 := RX7) dX11_readText_5 (by decide) sh_1 rfl rfl (by decide) li_in7 tyX7_ok nmX7 rfl rfl rfl rfl w_144 ?_
  refine li_nm (fun M1Zq eM1 => ?_)
  have hf := li_fr_ui hf (show 1 = 1 ∨ 1 = 151 by omega) eM1
  have mM1_1_1 : (M1Zq.1 1 1).toInt = (M0.1 1 1).toInt := by rw [eM1, li_ui_at, if_pos rfl, if_neg (by decide)]
  have mM1_1_2 : (M1Zq.1 1 2).toInt = 0 := by rw [eM1, li_ui_at, if_pos rfl, if_pos rfl]; rfl
  have mM1_5_0 : (M1Zq.1 5 0).toInt = (M0.1 5 0).toInt := by rw [eM1, li_ui_at, if_neg (by decide)]
  have mM1_5_1 : (M1Zq.1 5 1).toInt = (M0.1 5 1).toInt := by rw [eM1, li_ui_at, if_neg (by decide)]
  have k2Zq : M1Zq.1 1 2 = 0 := by rw [eM1, li_ui_at, if_pos rfl, if_pos rfl]
  refine li_iload_n 1 dX11_readText_8 rfl ?_
  refine li_iconst 4 dX11_readText_9 (by decide) ?_
  have J80 : ∀ (x4Zq : Int32) (M5Zq : li_M), li_fr (fun i => i = 1 ∨ i = 151) M0 M5Zq → (x4Zq : Int32).toInt = 0 ∧ (M5Zq.1 1 1).toInt = 0 ∧ (M5Zq.1 1 2).toInt = 0 → li_T l Z YX11_readText d 80 [(0, .ref (Z.2.2 0)), (1, .int p1Zq), (2, .int p2Zq), (3, .int p3Zq), (4, .int x4Zq)] [] M5Zq (fun r M' => (∃ x : Int32, r = some (.int x) ∧ (x.toInt = 0 ∧ (M'.1 1 1).toInt = 0)) ∧ li_fr (fun i => i = 1 ∨ i = 151) M0 M') := by
    intro x4Zq M5Zq hf hiZq
    have gx4 := tl_rg x4Zq
    refine li_aload_n 0 dX11_readText_80 rfl ?_
    refine li_getr (k := 0) (N := 13) (T := TX11) (C0 := RX11) dX11_readText_81 (by decide) sh_0 rfl rfl (by decide) (by decide) li_in11 w_473 ?_
    refine li_iload 4 dX11_readText_84 rfl ?_
    refine li_iload_n 3 dX11_readText_86 rfl ?_
    refine li_callV (n := 2) (As := [.int x4Zq, .int p3Zq]) dX11_readText_87 (k5_X7_verdict (d - 1) (by omega) x4Zq p3Zq M5Zq (by omega) (by omega)) (by omega) (Nat.le_of_ble_eq_true rfl) w_721 w_722 w_723 w_102 w_724 (by decide +kernel) rfl (by decide) sh_1 rfl rfl (Nat.le_of_ble_eq_true rfl) (fun r M7Zq h8 => ?_)
    obtain ⟨⟨x6, rfl, qx6⟩, h8⟩ := h8
    have gx6 := tl_rg x6
    have hf := li_fr_trans hf h8 (fun i hZq => False.elim hZq)
    have mM7_1_1 : (M7Zq.1 1 1).toInt = (M5Zq.1 1 1).toInt := by rw [h8.1 1 id]
    have mM7_1_2 : (M7Zq.1 1 2).toInt = (M5Zq.1 1 2).toInt := by rw [h8.1 1 id]
    have mM7_5_0 : (M7Zq.1 5 0).toInt = (M5Zq.1 5 0).toInt := by rw [h8.1 5 id]
    have mM7_5_1 : (M7Zq.1 5 1).toInt = (M5Zq.1 5 1).toInt := by rw [h8.1 5 id]
    refine li_istore [(5, .int x6), (0, .ref (Z.2.2 0)), (1, .int p1Zq), (2, .int p2Zq), (3, .int p3Zq), (4, .int x4Zq)] dX11_readText_90 (by decide) rfl ?_
    refine li_aload_n 1 dX11_readText_92 rfl ?_
    refine li_getr (k := 0) (N := 13) (T := TX11) (C0 := RX11) dX11_readText_93 (by decide) sh_0 rfl rfl (by decide) (by decide) li_in11 w_473 ?_
    refine li_iconst 0 dX11_readText_96 (by decide) ?_
    refine li_puti (k := 1) (N := 3) (T := TX7) (C0 := RX7) dX11_readText_97 (by decide) sh_1 rfl rfl (by decide) li_in7 tyX7_ok nmX7 rfl rfl rfl rfl w_140 ?_
    refine li_nm (fun M9Zq eM9 => ?_)
    have hf := li_fr_ui hf (show 1 = 1 ∨ 1 = 151 by omega) eM9
    have mM9_1_1 : (M9Zq.1 1 1).toInt = 0 := by rw [eM9, li_ui_at, if_pos rfl, if_pos rfl]; rfl
    have mM9_1_2 : (M9Zq.1 1 2).toInt = (M7Zq.1 1 2).toInt := by rw [eM9, li_ui_at, if_pos rfl, if_neg (by decide)]
    have mM9_5_0 : (M9Zq.1 5 0).toInt = (M7Zq.1 5 0).toInt := by rw [eM9, li_ui_at, if_neg (by decide)]
    have mM9_5_1 : (M9Zq.1 5 1).toInt = (M7Zq.1 5 1).toInt := by rw [eM9, li_ui_at, if_neg (by decide)]
    have k10 : M9Zq.1 1 1 = 0 := by rw [eM9, li_ui_at, if_pos rfl, if_pos rfl]
    refine li_iload 0 dX11_readText_100 rfl ?_
    exact li_iret dX11_readText_102 rfl rfl ⟨⟨_, rfl, (by first | omega | (intro _; omega) | (intro hZq; exact absurd hZq (by decide)))⟩, hf⟩
  refine li_icmp_ne 37 dX11_readText_10 (by decide) (fun c3 => ?_) (fun c3 => ?_)
  · have tc3 : ¬ p1Zq.toInt = 4 := tl_ne c3
    exfalso; omega
  · have tc3 : p1Zq.toInt = 4 := tl_eq c3
    refine li_aload_n 0 dX11_readText_13 rfl ?_
    refine li_getr (k := 6) (N := 13) (T := TX11) (C0 := RX11) dX11_readText_14 (by decide) sh_0 rfl rfl (by decide) (by decide) li_in11 w_479 ?_
    refine li_aload_n 0 dX11_readText_17 rfl ?_
    refine li_getr (k := 0) (N := 13) (T := TX11) (C0 := RX11) dX11_readText_18 (by decide) sh_0 rfl rfl (by decide) (by decide) li_in11 w_473 ?_
    refine li_callV (n := 1) (As := [.ref (Z.2.2 1)]) dX11_readText_21 (k15_X6_readAll (d - 1) (by omega)  M1Zq (by first | omega | decide) (by first | omega | decide)) (by omega) (Nat.le_of_ble_eq_true rfl) w_540 w_541 w_542 w_107 w_543 (by decide +kernel) rfl (by decide) sh_151 rfl rfl (Nat.le_of_ble_eq_true rfl) (fun r M12 h13 => ?_)
    obtain ⟨⟨x11, rfl, bx11, qx11⟩, h13⟩ := h13
    have ux11 := tl_b bx11
    have hf := li_fr_trans hf h13 (fun i (hZq : i = 151) => (show i = 1 ∨ i = 151 by omega))
    have mM12_1_1 : (M12.1 1 1).toInt = (M1Zq.1 1 1).toInt := by rw [h13.1 1 (show ¬ (1 = 151) by omega)]
    have mM12_1_2 : (M12.1 1 2).toInt = (M1Zq.1 1 2).toInt := by rw [h13.1 1 (show ¬ (1 = 151) by omega)]
    have mM12_5_0 : (M12.1 5 0).toInt = (M1Zq.1 5 0).toInt := by rw [h13.1 5 (show ¬ (5 = 151) by omega)]
    have mM12_5_1 : (M12.1 5 1).toInt = (M1Zq.1 5 1).toInt := by rw [h13.1 5 (show ¬ (5 = 151) by omega)]
    have J32 : ∀ (x15 : Int32) (M16 : li_M), li_fr (fun i => i = 1 ∨ i = 151) M0 M16 → (x15 : Int32).toInt = 0 ∧ (M16.1 1 1).toInt = 0 ∧ (M16.1 1 2).toInt = 0 → li_T l Z YX11_readText d 32 [(0, .ref (Z.2.2 0)), (1, .int p1Zq), (2, .int p2Zq), (3, .int p3Zq)] [.int x15] M16 (fun r M' => (∃ x : Int32, r = some (.int x) ∧ (x.toInt = 0 ∧ (M'.1 1 1).toInt = 0)) ∧ li_fr (fun i => i = 1 ∨ i = 151) M0 M') := by
      intro x15 M16 hf hiZq
      have gx15 := tl_rg x15
      refine li_istore [(4, .int x15), (0, .ref (Z.2.2 0)), (1, .int p1Zq), (2, .int p2Zq), (3, .int p3Zq)] dX11_readText_32 (by decide) rfl ?_
      refine li_goto 80 dX11_readText_34 (by decide) ?_
      refine li_pick [1, 2, 3, 4, 0] [(0, .ref (Z.2.2 0)), (1, .int p1Zq), (2, .int p2Zq), (3, .int p3Zq), (4, .int x15)] rfl ?_
      exact J80 x15 M16 hf (by omega)
    refine li_if_eq 31 dX11_readText_24 (by decide) (fun c14Zq => ?_) (fun c14Zq => ?_)
    · have tc14 : x11.toInt = 0 := tl_eq c14Zq
      exfalso; omega
    · have tc14 : ¬ x11.toInt = 0 := tl_ne c14Zq
      refine li_iconst 0 dX11_readText_27 (by decide) ?_
      refine li_goto 32 dX11_readText_28 (by decide) ?_
      refine li_pick [0, 1, 2, 3] [(0, .ref (Z.2.2 0)), (1, .int p1Zq), (2, .int p2Zq), (3, .int p3Zq)] rfl ?_
      have z0 : (0 : Int32).toInt = 0 := rfl
      exact J32 0 M12 hf (by omega)

set_option maxRecDepth 100000 in
set_option maxHeartbeats 4000000 in
theorem k15_X11_rule {l : Launch} {Z : li_Z} (d : Nat) (hdZq : 4 ≤ d) (M0 : li_M) (z11 : (M0.1 1 1).toInt = 0) : li_Met l Z YX11_rule d [.ref (Z.2.2 0)] M0 (fun r M' => (∃ x : Int32, r = some (.int x) ∧ (x.toInt = 0)) ∧ li_fr (fun i => i = 1 ∨ i = 144 ∨ i = 145 ∨ i = 151) M0 M') := by
  refine li_enter (by decide +kernel) (Nat.le_of_ble_eq_true rfl) ?_
  show li_T l Z YX11_rule d 0 [(0, .ref (Z.2.2 0))] [] M0 _
  have hf : li_fr (fun i => i = 1 ∨ i = 144 ∨ i = 145 ∨ i = 151) M0 M0 := li_fr_refl
  refine li_aload_n 0 dX11_rule_0 rfl ?_
  refine li_iconst 4 dX11_rule_1 (by decide) ?_
  refine li_iconst 0 dX11_rule_2 (by decide) ?_
  refine li_bipush 40 dX11_rule_3 (by decide) ?_
  refine li_callV (n := 3) (As := [.int 4, .int 0, .int 40]) dX11_rule_5 (k15b_X11_readText (d - 1) (by omega) 4 0 40 M0 (by first | omega | decide) (by first | omega | decide)) (by omega) (Nat.le_of_ble_eq_true rfl) w_536 w_538 w_0 w_101 w_539 (by decide +kernel) rfl (by decide) sh_0 rfl rfl (Nat.le_of_ble_eq_true rfl) (fun r M2Zq h3 => ?_)
  have z4 : (4 : Int32).toInt = 4 := rfl
  have z0 : (0 : Int32).toInt = 0 := rfl
  have z40 : (40 : Int32).toInt = 40 := rfl
  obtain ⟨⟨x1Zq, rfl, qx1⟩, h3⟩ := h3
  have gx1 := tl_rg x1Zq
  have hf := li_fr_trans hf h3 (fun i (hZq : i = 1 ∨ i = 151) => (show i = 1 ∨ i = 144 ∨ i = 145 ∨ i = 151 by omega))
  have mM2_5_0 : (M2Zq.1 5 0).toInt = (M0.1 5 0).toInt := by rw [h3.1 5 (show ¬ (5 = 1 ∨ 5 = 151) by omega)]
  have mM2_5_1 : (M2Zq.1 5 1).toInt = (M0.1 5 1).toInt := by rw [h3.1 5 (show ¬ (5 = 1 ∨ 5 = 151) by omega)]
  refine li_istore_n [(1, .int x1Zq), (0, .ref (Z.2.2 0))] dX11_rule_8 (by decide) rfl ?_
  refine li_iload_n 0 dX11_rule_9 rfl ?_
  refine li_if_lt 24 dX11_rule_10 (by decide) (fun c4 => ?_) (fun c4 => ?_)
  · have tc4 : x1Zq.toInt < 0 := tl_lt c4
    refine li_iload_n 0 dX11_rule_24 rfl ?_
    exact li_iret dX11_rule_25 rfl rfl ⟨⟨_, rfl, (by first | omega | (intro _; omega) | (intro hZq; exact absurd hZq (by decide)))⟩, hf⟩
  · have tc4 : 0 ≤ x1Zq.toInt := tl_nlt c4
    refine li_aload_n 1 dX11_rule_13 rfl ?_
    refine li_getr (k := 5) (N := 13) (T := TX11) (C0 := RX11) dX11_rule_14 (by decide) sh_0 rfl rfl (by decide) (by decide) li_in11 w_478 ?_
    refine li_aload_n 1 dX11_rule_17 rfl ?_
    refine li_getr (k := 6) (N := 13) (T := TX11) (C0 := RX11) dX11_rule_18 (by decide) sh_0 rfl rfl (by decide) (by decide) li_in11 w_479 ?_
    refine li_callV (n := 1) (As := [.ref (Z.2.2 151)]) dX11_rule_21 (k_X6_copyFrom (d - 1) (by omega)  M2Zq) (by omega) (Nat.le_of_ble_eq_true rfl) w_747 w_748 w_749 w_107 w_750 (by decide +kernel) rfl (by decide) sh_144 rfl rfl (Nat.le_of_ble_eq_true rfl) (fun r M6Zq h7 => ?_)
    obtain ⟨rfl, h7⟩ := h7
    have hf := li_fr_trans hf h7 (fun i (hZq : i = 144 ∨ i = 145) => (show i = 1 ∨ i = 144 ∨ i = 145 ∨ i = 151 by omega))
    have mM6_1_1 : (M6Zq.1 1 1).toInt = (M2Zq.1 1 1).toInt := by rw [h7.1 1 (show ¬ (1 = 144 ∨ 1 = 145) by omega)]
    have mM6_1_2 : (M6Zq.1 1 2).toInt = (M2Zq.1 1 2).toInt := by rw [h7.1 1 (show ¬ (1 = 144 ∨ 1 = 145) by omega)]
    have mM6_5_0 : (M6Zq.1 5 0).toInt = (M2Zq.1 5 0).toInt := by rw [h7.1 5 (show ¬ (5 = 144 ∨ 5 = 145) by omega)]
    have mM6_5_1 : (M6Zq.1 5 1).toInt = (M2Zq.1 5 1).toInt := by rw [h7.1 5 (show ¬ (5 = 144 ∨ 5 = 145) by omega)]
    refine li_iload_n 0 dX11_rule_24 rfl ?_
    exact li_iret dX11_rule_25 rfl rfl ⟨⟨_, rfl, (by first | omega | (intro _; omega) | (intro hZq; exact absurd hZq (by decide)))⟩, hf⟩
set_option maxRecDepth 100000 in
set_option maxHeartbeats 4000000 in
theorem k15_X11_rate {l : Launch} {Z : li_Z} (d : Nat) (hdZq : 4 ≤ d) (M0 : li_M) (z50Zq : (M0.1 5 0).toInt = 0) (z51 : (M0.1 5 1).toInt = 0) (z11 : (M0.1 1 1).toInt = 0) : li_Met l Z YX11_rate d [.ref (Z.2.2 0)] M0 (fun r M' => (∃ x : Int32, r = some (.int x) ∧ (x.toInt = 0)) ∧ li_fr (fun i => i = 1 ∨ i = 151 ∨ i = 3 ∨ i = 4) M0 M') := by
  refine li_enter (by decide +kernel) (Nat.le_of_ble_eq_true rfl) ?_
  show li_T l Z YX11_rate d 0 [(0, .ref (Z.2.2 0))] [] M0 _
  have hf : li_fr (fun i => i = 1 ∨ i = 151 ∨ i = 3 ∨ i = 4) M0 M0 := li_fr_refl
  refine li_aload_n 0 dX11_rate_0 rfl ?_
  refine li_iconst 4 dX11_rate_1 (by decide) ?_
  refine li_iconst 0 dX11_rate_2 (by decide) ?_
  refine li_bipush 40 dX11_rate_3 (by decide) ?_
  refine li_callV (n := 3) (As := [.int 4, .int 0, .int 40]) dX11_rate_5 (k15b_X11_readText (d - 1) (by omega) 4 0 40 M0 (by first | omega | decide) (by first | omega | decide)) (by omega) (Nat.le_of_ble_eq_true rfl) w_536 w_538 w_0 w_101 w_539 (by decide +kernel) rfl (by decide) sh_0 rfl rfl (Nat.le_of_ble_eq_true rfl) (fun r M2Zq h3 => ?_)
  have z4 : (4 : Int32).toInt = 4 := rfl
  have z0 : (0 : Int32).toInt = 0 := rfl
  have z40 : (40 : Int32).toInt = 40 := rfl
  obtain ⟨⟨x1Zq, rfl, qx1⟩, h3⟩ := h3
  have gx1 := tl_rg x1Zq
  have hf := li_fr_trans hf h3 (fun i (hZq : i = 1 ∨ i = 151) => (show i = 1 ∨ i = 151 ∨ i = 3 ∨ i = 4 by omega))
  have mM2_5_0 : (M2Zq.1 5 0).toInt = (M0.1 5 0).toInt := by rw [h3.1 5 (show ¬ (5 = 1 ∨ 5 = 151) by omega)]
  have mM2_5_1 : (M2Zq.1 5 1).toInt = (M0.1 5 1).toInt := by rw [h3.1 5 (show ¬ (5 = 1 ∨ 5 = 151) by omega)]
  refine li_istore_n [(1, .int x1Zq), (0, .ref (Z.2.2 0))] dX11_rate_8 (by decide) rfl ?_
  refine li_iload_n 0 dX11_rate_9 rfl ?_
  refine li_if_ge 19 dX11_rate_10 (by decide) (fun c4 => ?_) (fun c4 => ?_)
  · have tc4 : 0 ≤ x1Zq.toInt := tl_le c4
    refine li_aload_n 1 dX11_rate_19 rfl ?_
    refine li_aload_n 1 dX11_rate_20 rfl ?_
    refine li_getr (k := 8) (N := 13) (T := TX11) (C0 := RX11) dX11_rate_21 (by decide) sh_0 rfl rfl (by decide) (by decide) li_in11 w_481 ?_
    refine li_callV (n := 1) (As := [.ref (Z.2.2 155)]) dX11_rate_24 (k15_X11_bestOfAll (d - 1) (by omega) cob_155 M2Zq (by first | omega | decide) (by first | omega | decide)) (by omega) (Nat.le_of_ble_eq_true rfl) w_1232 w_1234 w_39 w_101 w_1235 (by decide +kernel) rfl (by decide) sh_0 rfl rfl (Nat.le_of_ble_eq_true rfl) (fun r M6Zq h7 => ?_)
    obtain ⟨⟨x5Zq, rfl, qx5⟩, h7⟩ := h7
    have gx5 := tl_rg x5Zq
    have hf := li_fr_trans hf h7 (fun i hZq => False.elim hZq)
    have mM6_1_1 : (M6Zq.1 1 1).toInt = (M2Zq.1 1 1).toInt := by rw [h7.1 1 id]
    have mM6_1_2 : (M6Zq.1 1 2).toInt = (M2Zq.1 1 2).toInt := by rw [h7.1 1 id]
    have mM6_5_0 : (M6Zq.1 5 0).toInt = (M2Zq.1 5 0).toInt := by rw [h7.1 5 id]
    have mM6_5_1 : (M6Zq.1 5 1).toInt = (M2Zq.1 5 1).toInt := by rw [h7.1 5 id]
    refine li_istore_n [(2, .int x5Zq), (1, .int x1Zq), (0, .ref (Z.2.2 0))] dX11_rate_27 (by decide) rfl ?_
    refine li_aload_n 2 dX11_rate_28 rfl ?_
    refine li_aload_n 2 dX11_rate_29 rfl ?_
    refine li_getr (k := 7) (N := 13) (T := TX11) (C0 := RX11) dX11_rate_30 (by decide) sh_0 rfl rfl (by decide) (by decide) li_in11 w_480 ?_
    refine li_callV (n := 1) (As := [.ref (Z.2.2 148)]) dX11_rate_33 (k15_X11_bestOfAll (d - 1) (by omega) cob_148 M6Zq (by first | omega | decide) (by first | omega | decide)) (by omega) (Nat.le_of_ble_eq_true rfl) w_1232 w_1234 w_39 w_101 w_1235 (by decide +kernel) rfl (by decide) sh_0 rfl rfl (Nat.le_of_ble_eq_true rfl) (fun r M9Zq h10 => ?_)
    obtain ⟨⟨x8, rfl, qx8⟩, h10⟩ := h10
    have gx8 := tl_rg x8
    have hf := li_fr_trans hf h10 (fun i hZq => False.elim hZq)
    have mM9_1_1 : (M9Zq.1 1 1).toInt = (M6Zq.1 1 1).toInt := by rw [h10.1 1 id]
    have mM9_1_2 : (M9Zq.1 1 2).toInt = (M6Zq.1 1 2).toInt := by rw [h10.1 1 id]
    have mM9_5_0 : (M9Zq.1 5 0).toInt = (M6Zq.1 5 0).toInt := by rw [h10.1 5 id]
    have mM9_5_1 : (M9Zq.1 5 1).toInt = (M6Zq.1 5 1).toInt := by rw [h10.1 5 id]
    refine li_istore_n [(3, .int x8), (2, .int x5Zq), (1, .int x1Zq), (0, .ref (Z.2.2 0))] dX11_rate_36 (by decide) rfl ?_
    refine li_aload_n 3 dX11_rate_37 rfl ?_
    refine li_getr (k := 1) (N := 13) (T := TX11) (C0 := RX11) dX11_rate_38 (by decide) sh_0 rfl rfl (by decide) (by decide) li_in11 w_474 ?_
    refine li_iload_n 1 dX11_rate_41 rfl ?_
    refine li_iload_n 0 dX11_rate_42 rfl ?_
    refine li_callV (n := 2) (As := [.int x5Zq, .int x8]) dX11_rate_43 (k_X5_tellTwo (d - 1) (by omega) x5Zq x8 M9Zq) (by omega) (Nat.le_of_ble_eq_true rfl) w_951 w_952 w_953 w_103 w_954 (by decide +kernel) rfl (by decide) sh_3 rfl rfl (Nat.le_of_ble_eq_true rfl) (fun r M12 h13 => ?_)
    obtain ⟨rfl, h13⟩ := h13
    have hf := li_fr_trans hf h13 (fun i (hZq : i = 3 ∨ i = 4) => (show i = 1 ∨ i = 151 ∨ i = 3 ∨ i = 4 by omega))
    have mM12_1_1 : (M12.1 1 1).toInt = (M9Zq.1 1 1).toInt := by rw [h13.1 1 (show ¬ (1 = 3 ∨ 1 = 4) by omega)]
    have mM12_1_2 : (M12.1 1 2).toInt = (M9Zq.1 1 2).toInt := by rw [h13.1 1 (show ¬ (1 = 3 ∨ 1 = 4) by omega)]
    have mM12_5_0 : (M12.1 5 0).toInt = (M9Zq.1 5 0).toInt := by rw [h13.1 5 (show ¬ (5 = 3 ∨ 5 = 4) by omega)]
    have mM12_5_1 : (M12.1 5 1).toInt = (M9Zq.1 5 1).toInt := by rw [h13.1 5 (show ¬ (5 = 3 ∨ 5 = 4) by omega)]
    refine li_iload_n 1 dX11_rate_46 rfl ?_
    refine li_iload_n 0 dX11_rate_47 rfl ?_
    refine li_isub dX11_rate_48 ?_
    refine li_top (fun x14 ex14 => ?_)
    have tx14 : (-2147483648 ≤ x5Zq.toInt - x8.toInt ∧ x5Zq.toInt - x8.toInt ≤ 2147483647) → x14.toInt = x5Zq.toInt - x8.toInt := tl_sub ex14
    exact li_iret dX11_rate_49 rfl rfl ⟨⟨_, rfl, (by first | omega | (intro _; omega) | (intro hZq; exact absurd hZq (by decide)))⟩, hf⟩
  · have tc4 : x1Zq.toInt < 0 := tl_nle c4
    exfalso; omega
set_option maxRecDepth 100000 in
set_option maxHeartbeats 4000000 in
theorem k15_X10_readWording {l : Launch} {Z : li_Z} (d : Nat) (hdZq : 2 ≤ d) (M0 : li_M) (z11 : (M0.1 1 1).toInt = 0) (z12 : (M0.1 1 2).toInt = 0) : li_Met l Z YX10_readWording d [.ref (Z.2.2 163), .ref (Z.2.2 1)] M0 (fun r M' => (∃ x : Int32, r = some (.int x) ∧ (x.toInt = -1)) ∧ li_fr (fun i => False) M0 M') := by
  refine li_enter (by decide +kernel) (Nat.le_of_ble_eq_true rfl) ?_
  show li_T l Z YX10_readWording d 0 [(0, .ref (Z.2.2 163)), (1, .ref (Z.2.2 1))] [] M0 _
  have hf : li_fr (fun i => False) M0 M0 := li_fr_refl
  refine li_iconst 0 dX10_readWording_0 (by decide) ?_
  refine li_istore_n [(2, .int 0), (0, .ref (Z.2.2 163)), (1, .ref (Z.2.2 1))] dX10_readWording_1 (by decide) rfl ?_
  refine li_iconst 0 dX10_readWording_2 (by decide) ?_
  refine li_istore_n [(3, .int 0), (2, .int 0), (0, .ref (Z.2.2 163)), (1, .ref (Z.2.2 1))] dX10_readWording_3 (by decide) rfl ?_
  have L4Zq : ∀ (n : Nat) (x1Zq : Int32) (x2Zq : Int32) (M3Zq : li_M), ((x1Zq : Int32).toInt).toNat < n → li_fr (fun i => False) M0 M3Zq → 0 ≤ (x1Zq : Int32).toInt ∧ (x2Zq : Int32).toInt = 0 ∧ (M3Zq.1 1 1).toInt = 0 ∧ (M3Zq.1 1 2).toInt = 0 → li_T l Z YX10_readWording d 4 [(3, .int x1Zq), (2, .int x2Zq), (0, .ref (Z.2.2 163)), (1, .ref (Z.2.2 1))] [] M3Zq (fun r M' => (∃ x : Int32, r = some (.int x) ∧ (x.toInt = -1)) ∧ li_fr (fun i => False) M0 M') := by
    intro n
    induction n with
    | zero => intro x1Zq x2Zq M3Zq hn; exact absurd hn (Nat.not_lt_zero _)
    | succ n ih4 =>
      intro x1Zq x2Zq M3Zq hn hf hiZq
      have gx1 := tl_rg x1Zq
      have gx2 := tl_rg x2Zq
      refine li_iload_n 0 dX10_readWording_4 rfl ?_
      refine li_bipush 80 dX10_readWording_5 (by decide) ?_
      refine li_icmp_ge 53 dX10_readWording_7 (by decide) (fun c4 => ?_) (fun c4 => ?_)
      · have tc4 : 80 ≤ x1Zq.toInt := tl_le c4
        refine li_iload_n 1 dX10_readWording_53 rfl ?_
        refine li_if_le 61 dX10_readWording_54 (by decide) (fun c5Zq => ?_) (fun c5Zq => ?_)
        · have tc5 : x2Zq.toInt ≤ 0 := tl_le c5Zq
          refine li_iconst (-1) dX10_readWording_61 (by decide) ?_
          have zm1 : ((-1) : Int32).toInt = -1 := rfl
          exact li_iret dX10_readWording_62 rfl rfl ⟨⟨_, rfl, (by first | omega | (intro _; omega) | (intro hZq; exact absurd hZq (by decide)))⟩, hf⟩
        · have tc5 : 0 < x2Zq.toInt := tl_nle c5Zq
          exfalso; omega
      · have tc4 : x1Zq.toInt < 80 := tl_nle c4
        refine li_aload_n 3 dX10_readWording_10 rfl ?_
        refine li_callV (n := 0) (As := []) dX10_readWording_11 (k5_X7_atEnd (d - 1) (by omega) M3Zq) (by omega) (Nat.le_of_ble_eq_true rfl) w_657 w_545 w_546 w_102 w_547 (by decide +kernel) rfl (by decide) sh_1 rfl rfl (Nat.le_of_ble_eq_true rfl) (fun r M7Zq h8 => ?_)
        obtain ⟨⟨x6, rfl, bx6, qx6⟩, h8⟩ := h8
        have ux6 := tl_b bx6
        have hf := li_fr_trans hf h8 (fun i hZq => False.elim hZq)
        have mM7_1_1 : (M7Zq.1 1 1).toInt = (M3Zq.1 1 1).toInt := by rw [h8.1 1 id]
        have mM7_1_2 : (M7Zq.1 1 2).toInt = (M3Zq.1 1 2).toInt := by rw [h8.1 1 id]
        refine li_if_ne 53 dX10_readWording_14 (by decide) (fun c9Zq => ?_) (fun c9Zq => ?_)
        · have tc9 : ¬ x6.toInt = 0 := tl_ne c9Zq
          refine li_iload_n 1 dX10_readWording_53 rfl ?_
          refine li_if_le 61 dX10_readWording_54 (by decide) (fun c10Zq => ?_) (fun c10Zq => ?_)
          · have tc10 : x2Zq.toInt ≤ 0 := tl_le c10Zq
            refine li_iconst (-1) dX10_readWording_61 (by decide) ?_
            have zm1 : ((-1) : Int32).toInt = -1 := rfl
            exact li_iret dX10_readWording_62 rfl rfl ⟨⟨_, rfl, (by first | omega | (intro _; omega) | (intro hZq; exact absurd hZq (by decide)))⟩, hf⟩
          · have tc10 : 0 < x2Zq.toInt := tl_nle c10Zq
            exfalso; omega
        · have tc9 : x6.toInt = 0 := tl_eq c9Zq
          exfalso; omega
  have z0 : (0 : Int32).toInt = 0 := rfl
  have z0 : (0 : Int32).toInt = 0 := rfl
  exact L4Zq _ 0 0 M0 (Nat.lt_succ_self _) hf (by omega)
set_option maxRecDepth 100000 in
set_option maxHeartbeats 4000000 in
theorem k15c_X11_readText {l : Launch} {Z : li_Z} (d : Nat) (hdZq : 3 ≤ d) (p1Zq : Int32) (p2Zq : Int32) (p3Zq : Int32) (M0 : li_M) (z11 : (M0.1 1 1).toInt = 0) (h1 : p1Zq.toInt = 5 ∧ 0 ≤ p3Zq.toInt ∧ p3Zq.toInt ≤ 100) : li_Met l Z YX11_readText d [.ref (Z.2.2 0), .int p1Zq, .int p2Zq, .int p3Zq] M0 (fun r M' => (∃ x : Int32, r = some (.int x) ∧ (x.toInt = -1 ∧ (M'.1 1 1).toInt = 0)) ∧ li_fr (fun i => i = 1) M0 M') := by
  refine li_enter (by decide +kernel) (Nat.le_of_ble_eq_true rfl) ?_
  show li_T l Z YX11_readText d 0 [(0, .ref (Z.2.2 0)), (1, .int p1Zq), (2, .int p2Zq), (3, .int p3Zq)] [] M0 _
  have hf : li_fr (fun i => i = 1) M0 M0 := li_fr_refl
  have gp1 := tl_rg p1Zq
  have gp2 := tl_rg p2Zq
  have gp3 := tl_rg p3Zq
  refine li_aload_n 0 dX11_readText_0 rfl ?_
  refine li_getr (k := 0) (N := 13) (T := TX11) (C0 := RX11) dX11_readText_1 (by decide) sh_0 rfl rfl (by decide) (by decide) li_in11 w_473 ?_
  refine li_iconst 0 dX11_readText_4 (by decide) ?_
  refine li_puti (k := 2) (N := 3) (T := TX7) (C0 := RX7) dX11_readText_5 (by decide) sh_1 rfl rfl (by decide) li_in7 tyX7_ok nmX7 rfl rfl rfl rfl w_144 ?_
  refine li_nm (fun M1Zq eM1 => ?_)
  have hf := li_fr_ui hf (show 1 = 1 by omega) eM1
  have mM1_1_1 : (M1Zq.1 1 1).toInt = (M0.1 1 1).toInt := by rw [eM1, li_ui_at, if_pos rfl, if_neg (by decide)]
  have mM1_1_2 : (M1Zq.1 1 2).toInt = 0 := by rw [eM1, li_ui_at, if_pos rfl, if_pos rfl]; rfl
  have mM1_5_0 : (M1Zq.1 5 0).toInt = (M0.1 5 0).toInt := by rw [eM1, li_ui_at, if_neg (by decide)]
  have mM1_5_1 : (M1Zq.1 5 1).toInt = (M0.1 5 1).toInt := by rw [eM1, li_ui_at, if_neg (by decide)]
  have k2Zq : M1Zq.1 1 2 = 0 := by rw [eM1, li_ui_at, if_pos rfl, if_pos rfl]
  refine li_iload_n 1 dX11_readText_8 rfl ?_
  refine li_iconst 4 dX11_readText_9 (by decide) ?_
  have J80 : ∀ (x4Zq : Int32) (M5Zq : li_M), li_fr (fun i => i = 1) M0 M5Zq → (x4Zq : Int32).toInt = -1 ∧ (M5Zq.1 1 1).toInt = 0 ∧ (M5Zq.1 1 2).toInt = 0 → li_T l Z YX11_readText d 80 [(0, .ref (Z.2.2 0)), (1, .int p1Zq), (2, .int p2Zq), (3, .int p3Zq), (4, .int x4Zq)] [] M5Zq (fun r M' => (∃ x : Int32, r = some (.int x) ∧ (x.toInt = -1 ∧ (M'.1 1 1).toInt = 0)) ∧ li_fr (fun i => i = 1) M0 M') := by
    intro x4Zq M5Zq hf hiZq
    have gx4 := tl_rg x4Zq
    refine li_aload_n 0 dX11_readText_80 rfl ?_
    refine li_getr (k := 0) (N := 13) (T := TX11) (C0 := RX11) dX11_readText_81 (by decide) sh_0 rfl rfl (by decide) (by decide) li_in11 w_473 ?_
    refine li_iload 4 dX11_readText_84 rfl ?_
    refine li_iload_n 3 dX11_readText_86 rfl ?_
    refine li_callV (n := 2) (As := [.int x4Zq, .int p3Zq]) dX11_readText_87 (k5_X7_verdict (d - 1) (by omega) x4Zq p3Zq M5Zq (by omega) (by omega)) (by omega) (Nat.le_of_ble_eq_true rfl) w_721 w_722 w_723 w_102 w_724 (by decide +kernel) rfl (by decide) sh_1 rfl rfl (Nat.le_of_ble_eq_true rfl) (fun r M7Zq h8 => ?_)
    obtain ⟨⟨x6, rfl, qx6⟩, h8⟩ := h8
    have gx6 := tl_rg x6
    have hf := li_fr_trans hf h8 (fun i hZq => False.elim hZq)
    have mM7_1_1 : (M7Zq.1 1 1).toInt = (M5Zq.1 1 1).toInt := by rw [h8.1 1 id]
    have mM7_1_2 : (M7Zq.1 1 2).toInt = (M5Zq.1 1 2).toInt := by rw [h8.1 1 id]
    have mM7_5_0 : (M7Zq.1 5 0).toInt = (M5Zq.1 5 0).toInt := by rw [h8.1 5 id]
    have mM7_5_1 : (M7Zq.1 5 1).toInt = (M5Zq.1 5 1).toInt := by rw [h8.1 5 id]
    refine li_istore [(5, .int x6), (0, .ref (Z.2.2 0)), (1, .int p1Zq), (2, .int p2Zq), (3, .int p3Zq), (4, .int x4Zq)] dX11_readText_90 (by decide) rfl ?_
    refine li_aload_n 1 dX11_readText_92 rfl ?_
    refine li_getr (k := 0) (N := 13) (T := TX11) (C0 := RX11) dX11_readText_93 (by decide) sh_0 rfl rfl (by decide) (by decide) li_in11 w_473 ?_
    refine li_iconst 0 dX11_readText_96 (by decide) ?_
    refine li_puti (k := 1) (N := 3) (T := TX7) (C0 := RX7) dX11_readText_97 (by decide) sh_1 rfl rfl (by decide) li_in7 tyX7_ok nmX7 rfl rfl rfl rfl w_140 ?_
    refine li_nm (fun M9Zq eM9 => ?_)
    have hf := li_fr_ui hf (show 1 = 1 by omega) eM9
    have mM9_1_1 : (M9Zq.1 1 1).toInt = 0 := by rw [eM9, li_ui_at, if_pos rfl, if_pos rfl]; rfl
    have mM9_1_2 : (M9Zq.1 1 2).toInt = (M7Zq.1 1 2).toInt := by rw [eM9, li_ui_at, if_pos rfl, if_neg (by decide)]
    have mM9_5_0 : (M9Zq.1 5 0).toInt = (M7Zq.1 5 0).toInt := by rw [eM9, li_ui_at, if_neg (by decide)]
    have mM9_5_1 : (M9Zq.1 5 1).toInt = (M7Zq.1 5 1).toInt := by rw [eM9, li_ui_at, if_neg (by decide)]
    have k10 : M9Zq.1 1 1 = 0 := by rw [eM9, li_ui_at, if_pos rfl, if_pos rfl]
    refine li_iload 0 dX11_readText_100 rfl ?_
    exact li_iret dX11_readText_102 rfl rfl ⟨⟨_, rfl, (by first | omega | (intro _; omega) | (intro hZq; exact absurd hZq (by decide)))⟩, hf⟩
  refine li_icmp_ne 37 dX11_readText_10 (by decide) (fun c3 => ?_) (fun c3 => ?_)
  · have tc3 : ¬ p1Zq.toInt = 4 := tl_ne c3
    refine li_iload_n 1 dX11_readText_37 rfl ?_
    refine li_iconst 5 dX11_readText_38 (by decide) ?_
    refine li_icmp_ne 58 dX11_readText_39 (by decide) (fun c11Zq => ?_) (fun c11Zq => ?_)
    · have tc11 : ¬ p1Zq.toInt = 5 := tl_ne c11Zq
      exfalso; omega
    · have tc11 : p1Zq.toInt = 5 := tl_eq c11Zq
      refine li_aload_n 0 dX11_readText_42 rfl ?_
      refine li_getr (k := 10) (N := 13) (T := TX11) (C0 := RX11) dX11_readText_43 (by decide) sh_0 rfl rfl (by decide) (by decide) li_in11 w_483 ?_
      refine li_aload_n 0 dX11_readText_46 rfl ?_
      refine li_getr (k := 0) (N := 13) (T := TX11) (C0 := RX11) dX11_readText_47 (by decide) sh_0 rfl rfl (by decide) (by decide) li_in11 w_473 ?_
      refine li_callV (n := 1) (As := [.ref (Z.2.2 1)]) dX11_readText_50 (k15_X10_readWording (d - 1) (by omega)  M1Zq (by first | omega | decide) (by first | omega | decide)) (by omega) (Nat.le_of_ble_eq_true rfl) w_653 w_654 w_655 w_108 w_656 (by decide +kernel) rfl (by decide) sh_163 rfl rfl (Nat.le_of_ble_eq_true rfl) (fun r M13 h14 => ?_)
      obtain ⟨⟨x12, rfl, qx12⟩, h14⟩ := h14
      have gx12 := tl_rg x12
      have hf := li_fr_trans hf h14 (fun i hZq => False.elim hZq)
      have mM13_1_1 : (M13.1 1 1).toInt = (M1Zq.1 1 1).toInt := by rw [h14.1 1 id]
      have mM13_1_2 : (M13.1 1 2).toInt = (M1Zq.1 1 2).toInt := by rw [h14.1 1 id]
      have mM13_5_0 : (M13.1 5 0).toInt = (M1Zq.1 5 0).toInt := by rw [h14.1 5 id]
      have mM13_5_1 : (M13.1 5 1).toInt = (M1Zq.1 5 1).toInt := by rw [h14.1 5 id]
      refine li_istore [(4, .int x12), (0, .ref (Z.2.2 0)), (1, .int p1Zq), (2, .int p2Zq), (3, .int p3Zq)] dX11_readText_53 (by decide) rfl ?_
      refine li_goto 80 dX11_readText_55 (by decide) ?_
      refine li_pick [1, 2, 3, 4, 0] [(0, .ref (Z.2.2 0)), (1, .int p1Zq), (2, .int p2Zq), (3, .int p3Zq), (4, .int x12)] rfl ?_
      exact J80 x12 M13 hf (by omega)
  · have tc3 : p1Zq.toInt = 4 := tl_eq c3
    exfalso; omega

set_option maxRecDepth 100000 in
set_option maxHeartbeats 4000000 in
theorem k15_X11_shorter {l : Launch} {Z : li_Z} (d : Nat) (hdZq : 4 ≤ d) (M0 : li_M) (z11 : (M0.1 1 1).toInt = 0) : li_Met l Z YX11_shorter d [.ref (Z.2.2 0)] M0 (fun r M' => (∃ x : Int32, r = some (.int x) ∧ (x.toInt = -1)) ∧ li_fr (fun i => i = 1) M0 M') := by
  refine li_enter (by decide +kernel) (Nat.le_of_ble_eq_true rfl) ?_
  show li_T l Z YX11_shorter d 0 [(0, .ref (Z.2.2 0))] [] M0 _
  have hf : li_fr (fun i => i = 1) M0 M0 := li_fr_refl
  refine li_aload_n 0 dX11_shorter_0 rfl ?_
  refine li_iconst 5 dX11_shorter_1 (by decide) ?_
  refine li_bipush 14 dX11_shorter_2 (by decide) ?_
  refine li_bipush 14 dX11_shorter_4 (by decide) ?_
  refine li_callV (n := 3) (As := [.int 5, .int 14, .int 14]) dX11_shorter_6 (k15c_X11_readText (d - 1) (by omega) 5 14 14 M0 (by first | omega | decide) (by first | omega | decide)) (by omega) (Nat.le_of_ble_eq_true rfl) w_536 w_538 w_0 w_101 w_539 (by decide +kernel) rfl (by decide) sh_0 rfl rfl (Nat.le_of_ble_eq_true rfl) (fun r M2Zq h3 => ?_)
  have z5 : (5 : Int32).toInt = 5 := rfl
  have z14Zq : (14 : Int32).toInt = 14 := rfl
  have z14Zq : (14 : Int32).toInt = 14 := rfl
  obtain ⟨⟨x1Zq, rfl, qx1⟩, h3⟩ := h3
  have gx1 := tl_rg x1Zq
  have hf := li_fr_trans hf h3 (fun i (hZq : i = 1) => (show i = 1 by omega))
  have mM2_5_0 : (M2Zq.1 5 0).toInt = (M0.1 5 0).toInt := by rw [h3.1 5 (show ¬ (5 = 1) by omega)]
  have mM2_5_1 : (M2Zq.1 5 1).toInt = (M0.1 5 1).toInt := by rw [h3.1 5 (show ¬ (5 = 1) by omega)]
  refine li_istore_n [(1, .int x1Zq), (0, .ref (Z.2.2 0))] dX11_shorter_9 (by decide) rfl ?_
  refine li_iload_n 0 dX11_shorter_10 rfl ?_
  refine li_if_ge 16 dX11_shorter_11 (by decide) (fun c4 => ?_) (fun c4 => ?_)
  · have tc4 : 0 ≤ x1Zq.toInt := tl_le c4
    have z0 : (0 : Int32).toInt = 0 := rfl
    exfalso; omega
  · have tc4 : x1Zq.toInt < 0 := tl_nle c4
    have z0 : (0 : Int32).toInt = 0 := rfl
    refine li_iload_n 0 dX11_shorter_14 rfl ?_
    exact li_iret dX11_shorter_15 rfl rfl ⟨⟨_, rfl, (by first | omega | (intro _; omega) | (intro hZq; exact absurd hZq (by decide)))⟩, hf⟩
set_option maxRecDepth 100000 in
set_option maxHeartbeats 4000000 in
theorem k15_X11_becomes {l : Launch} {Z : li_Z} (d : Nat) (hdZq : 4 ≤ d) (M0 : li_M) (z11 : (M0.1 1 1).toInt = 0) : li_Met l Z YX11_becomes d [.ref (Z.2.2 0)] M0 (fun r M' => (∃ x : Int32, r = some (.int x) ∧ (x.toInt = -1)) ∧ li_fr (fun i => i = 1) M0 M') := by
  refine li_enter (by decide +kernel) (Nat.le_of_ble_eq_true rfl) ?_
  show li_T l Z YX11_becomes d 0 [(0, .ref (Z.2.2 0))] [] M0 _
  have hf : li_fr (fun i => i = 1) M0 M0 := li_fr_refl
  refine li_aload_n 0 dX11_becomes_0 rfl ?_
  refine li_iconst 5 dX11_becomes_1 (by decide) ?_
  refine li_bipush 14 dX11_becomes_2 (by decide) ?_
  refine li_bipush 14 dX11_becomes_4 (by decide) ?_
  refine li_callV (n := 3) (As := [.int 5, .int 14, .int 14]) dX11_becomes_6 (k15c_X11_readText (d - 1) (by omega) 5 14 14 M0 (by first | omega | decide) (by first | omega | decide)) (by omega) (Nat.le_of_ble_eq_true rfl) w_536 w_538 w_0 w_101 w_539 (by decide +kernel) rfl (by decide) sh_0 rfl rfl (Nat.le_of_ble_eq_true rfl) (fun r M2Zq h3 => ?_)
  have z5 : (5 : Int32).toInt = 5 := rfl
  have z14Zq : (14 : Int32).toInt = 14 := rfl
  have z14Zq : (14 : Int32).toInt = 14 := rfl
  obtain ⟨⟨x1Zq, rfl, qx1⟩, h3⟩ := h3
  have gx1 := tl_rg x1Zq
  have hf := li_fr_trans hf h3 (fun i (hZq : i = 1) => (show i = 1 by omega))
  have mM2_5_0 : (M2Zq.1 5 0).toInt = (M0.1 5 0).toInt := by rw [h3.1 5 (show ¬ (5 = 1) by omega)]
  have mM2_5_1 : (M2Zq.1 5 1).toInt = (M0.1 5 1).toInt := by rw [h3.1 5 (show ¬ (5 = 1) by omega)]
  refine li_istore_n [(1, .int x1Zq), (0, .ref (Z.2.2 0))] dX11_becomes_9 (by decide) rfl ?_
  refine li_iload_n 0 dX11_becomes_10 rfl ?_
  refine li_if_ge 16 dX11_becomes_11 (by decide) (fun c4 => ?_) (fun c4 => ?_)
  · have tc4 : 0 ≤ x1Zq.toInt := tl_le c4
    have z0 : (0 : Int32).toInt = 0 := rfl
    exfalso; omega
  · have tc4 : x1Zq.toInt < 0 := tl_nle c4
    have z0 : (0 : Int32).toInt = 0 := rfl
    refine li_iload_n 0 dX11_becomes_14 rfl ?_
    exact li_iret dX11_becomes_15 rfl rfl ⟨⟨_, rfl, (by first | omega | (intro _; omega) | (intro hZq; exact absurd hZq (by decide)))⟩, hf⟩
set_option maxRecDepth 100000 in
set_option maxHeartbeats 4000000 in
theorem k15_X11_count {l : Launch} {Z : li_Z} (d : Nat) (hdZq : 2 ≤ d) (p1Zq : Int32) (M0 : li_M) (z50Zq : (M0.1 5 0).toInt = 0) (z51 : (M0.1 5 1).toInt = 0) (z130 : (M0.1 13 0).toInt = 0) (z132 : (M0.1 13 2).toInt = 0) (z131 : (M0.1 13 1).toInt = 0) (z1637 : (M0.1 163 7).toInt = 0) (z1715 : (M0.1 171 5).toInt = 0) (z214 : (M0.1 21 4).toInt = 0) (z31Zq : (M0.1 3 1).toInt = 0) (z11 : (M0.1 1 1).toInt = 0) : li_Met l Z YX11_count d [.ref (Z.2.2 0), .int p1Zq] M0 (fun r M' => (∃ x : Int32, r = some (.int x) ∧ ((0 ≤ p1Zq.toInt ∧ p1Zq.toInt ≤ 11 ∧ x.toInt = 0) ∨ (¬ (0 ≤ p1Zq.toInt ∧ p1Zq.toInt ≤ 11) ∧ x.toInt = -1))) ∧ li_fr (fun i => False) M0 M') := by
  refine li_enter (by decide +kernel) (Nat.le_of_ble_eq_true rfl) ?_
  show li_T l Z YX11_count d 0 [(0, .ref (Z.2.2 0)), (1, .int p1Zq)] [] M0 _
  have hf : li_fr (fun i => False) M0 M0 := li_fr_refl
  have gp1 := tl_rg p1Zq
  refine li_iload_n 1 dX11_count_0 rfl ?_
  refine li_table dX11_count_1 167 (by decide) (fun c1 => ?_) (fun c1a c1b => ?_)
  · refine li_iconst (-1) dX11_count_167 (by decide) ?_
    have zm1 : ((-1) : Int32).toInt = -1 := rfl
    exact li_iret dX11_count_168 rfl rfl ⟨⟨_, rfl, (by first | omega | (intro _; omega) | (intro hZq; exact absurd hZq (by decide)))⟩, hf⟩
  · rcases (show (p1Zq : Int32).toInt = 0 ∨ (p1Zq : Int32).toInt = 1 ∨ (p1Zq : Int32).toInt = 2 ∨ (p1Zq : Int32).toInt = 3 ∨ (p1Zq : Int32).toInt = 4 ∨ (p1Zq : Int32).toInt = 5 ∨ (p1Zq : Int32).toInt = 6 ∨ (p1Zq : Int32).toInt = 7 ∨ (p1Zq : Int32).toInt = 8 ∨ (p1Zq : Int32).toInt = 9 ∨ (p1Zq : Int32).toInt = 10 ∨ (p1Zq : Int32).toInt = 11 by omega) with c1 | c1 | c1 | c1 | c1 | c1 | c1 | c1 | c1 | c1 | c1 | c1
    · refine ⟨63, 64, by rw [c1]; rfl, by decide, ?_⟩
      refine li_aload_n 0 dX11_count_64 rfl ?_
      refine li_getr (k := 2) (N := 13) (T := TX11) (C0 := RX11) dX11_count_65 (by decide) sh_0 rfl rfl (by decide) (by decide) li_in11 w_475 ?_
      refine li_geti (k := 0) (N := 9) (T := TX8) (C0 := RX8) dX11_count_68 (by decide) sh_5 rfl rfl (by decide) li_in8 w_178 ?_
      refine li_top (fun x2Zq ex2Zq => ?_)
      have gx2 := tl_rg x2Zq
      have vx2 : x2Zq.toInt = (M0.1 5 0).toInt := tl_eq ex2Zq
      exact li_iret dX11_count_71 rfl rfl ⟨⟨_, rfl, (by first | omega | (intro _; omega) | (intro hZq; exact absurd hZq (by decide)))⟩, hf⟩
    · refine ⟨71, 72, by rw [c1]; rfl, by decide, ?_⟩
      refine li_aload_n 0 dX11_count_72 rfl ?_
      refine li_getr (k := 2) (N := 13) (T := TX11) (C0 := RX11) dX11_count_73 (by decide) sh_0 rfl rfl (by decide) (by decide) li_in11 w_475 ?_
      refine li_geti (k := 1) (N := 9) (T := TX8) (C0 := RX8) dX11_count_76 (by decide) sh_5 rfl rfl (by decide) li_in8 w_180 ?_
      refine li_top (fun x3 ex3Zq => ?_)
      have gx3 := tl_rg x3
      have vx3 : x3.toInt = (M0.1 5 1).toInt := tl_eq ex3Zq
      exact li_iret dX11_count_79 rfl rfl ⟨⟨_, rfl, (by first | omega | (intro _; omega) | (intro hZq; exact absurd hZq (by decide)))⟩, hf⟩
    · refine ⟨79, 80, by rw [c1]; rfl, by decide, ?_⟩
      refine li_aload_n 0 dX11_count_80 rfl ?_
      refine li_getr (k := 3) (N := 13) (T := TX11) (C0 := RX11) dX11_count_81 (by decide) sh_0 rfl rfl (by decide) (by decide) li_in11 w_476 ?_
      refine li_geti (k := 0) (N := 11) (T := TX4) (C0 := RX4) dX11_count_84 (by decide) sh_13 rfl rfl (by decide) li_in4 w_231 ?_
      refine li_top (fun x4Zq ex4 => ?_)
      have gx4 := tl_rg x4Zq
      have vx4 : x4Zq.toInt = (M0.1 13 0).toInt := tl_eq ex4
      exact li_iret dX11_count_87 rfl rfl ⟨⟨_, rfl, (by first | omega | (intro _; omega) | (intro hZq; exact absurd hZq (by decide)))⟩, hf⟩
    · refine ⟨87, 88, by rw [c1]; rfl, by decide, ?_⟩
      refine li_aload_n 0 dX11_count_88 rfl ?_
      refine li_getr (k := 3) (N := 13) (T := TX11) (C0 := RX11) dX11_count_89 (by decide) sh_0 rfl rfl (by decide) (by decide) li_in11 w_476 ?_
      refine li_geti (k := 2) (N := 11) (T := TX4) (C0 := RX4) dX11_count_92 (by decide) sh_13 rfl rfl (by decide) li_in4 w_236 ?_
      refine li_top (fun x5Zq ex5 => ?_)
      have gx5 := tl_rg x5Zq
      have vx5 : x5Zq.toInt = (M0.1 13 2).toInt := tl_eq ex5
      exact li_iret dX11_count_95 rfl rfl ⟨⟨_, rfl, (by first | omega | (intro _; omega) | (intro hZq; exact absurd hZq (by decide)))⟩, hf⟩
    · refine ⟨95, 96, by rw [c1]; rfl, by decide, ?_⟩
      refine li_aload_n 0 dX11_count_96 rfl ?_
      refine li_getr (k := 3) (N := 13) (T := TX11) (C0 := RX11) dX11_count_97 (by decide) sh_0 rfl rfl (by decide) (by decide) li_in11 w_476 ?_
      refine li_geti (k := 1) (N := 11) (T := TX4) (C0 := RX4) dX11_count_100 (by decide) sh_13 rfl rfl (by decide) li_in4 w_233 ?_
      refine li_top (fun x6 ex6 => ?_)
      have gx6 := tl_rg x6
      have vx6 : x6.toInt = (M0.1 13 1).toInt := tl_eq ex6
      exact li_iret dX11_count_103 rfl rfl ⟨⟨_, rfl, (by first | omega | (intro _; omega) | (intro hZq; exact absurd hZq (by decide)))⟩, hf⟩
    · refine ⟨103, 104, by rw [c1]; rfl, by decide, ?_⟩
      refine li_aload_n 0 dX11_count_104 rfl ?_
      refine li_getr (k := 7) (N := 13) (T := TX11) (C0 := RX11) dX11_count_105 (by decide) sh_0 rfl rfl (by decide) (by decide) li_in11 w_480 ?_
      refine li_callV (n := 0) (As := []) dX11_count_108 (k15_X0_openThings (d - 1) (by omega) cob_148 M0 (by first | omega | decide)) (by omega) (Nat.le_of_ble_eq_true rfl) w_1035 w_1004 w_1005 w_109 w_1006 (by decide +kernel) rfl (by decide) sh_148 rfl rfl (Nat.le_of_ble_eq_true rfl) (fun r M8Zq h9 => ?_)
      obtain ⟨⟨x7, rfl, qx7⟩, h9⟩ := h9
      have gx7 := tl_rg x7
      have hf := li_fr_trans hf h9 (fun i hZq => False.elim hZq)
      have mM8_5_0 : (M8Zq.1 5 0).toInt = (M0.1 5 0).toInt := by rw [h9.1 5 id]
      have mM8_5_1 : (M8Zq.1 5 1).toInt = (M0.1 5 1).toInt := by rw [h9.1 5 id]
      have mM8_13_0 : (M8Zq.1 13 0).toInt = (M0.1 13 0).toInt := by rw [h9.1 13 id]
      have mM8_13_2 : (M8Zq.1 13 2).toInt = (M0.1 13 2).toInt := by rw [h9.1 13 id]
      have mM8_13_1 : (M8Zq.1 13 1).toInt = (M0.1 13 1).toInt := by rw [h9.1 13 id]
      have mM8_163_7 : (M8Zq.1 163 7).toInt = (M0.1 163 7).toInt := by rw [h9.1 163 id]
      have mM8_171_5 : (M8Zq.1 171 5).toInt = (M0.1 171 5).toInt := by rw [h9.1 171 id]
      have mM8_21_4 : (M8Zq.1 21 4).toInt = (M0.1 21 4).toInt := by rw [h9.1 21 id]
      have mM8_3_1 : (M8Zq.1 3 1).toInt = (M0.1 3 1).toInt := by rw [h9.1 3 id]
      have mM8_1_1 : (M8Zq.1 1 1).toInt = (M0.1 1 1).toInt := by rw [h9.1 1 id]
      exact li_iret dX11_count_111 rfl rfl ⟨⟨_, rfl, (by first | omega | (intro _; omega) | (intro hZq; exact absurd hZq (by decide)))⟩, hf⟩
    · refine ⟨111, 112, by rw [c1]; rfl, by decide, ?_⟩
      refine li_aload_n 0 dX11_count_112 rfl ?_
      refine li_getr (k := 3) (N := 13) (T := TX11) (C0 := RX11) dX11_count_113 (by decide) sh_0 rfl rfl (by decide) (by decide) li_in11 w_476 ?_
      refine li_aload_n 0 dX11_count_116 rfl ?_
      refine li_getr (k := 2) (N := 13) (T := TX11) (C0 := RX11) dX11_count_117 (by decide) sh_0 rfl rfl (by decide) (by decide) li_in11 w_475 ?_
      refine li_geti (k := 0) (N := 9) (T := TX8) (C0 := RX8) dX11_count_120 (by decide) sh_5 rfl rfl (by decide) li_in8 w_178 ?_
      refine li_top (fun x10 ex10 => ?_)
      have gx10 := tl_rg x10
      have vx10 : x10.toInt = (M0.1 5 0).toInt := tl_eq ex10
      refine li_callV (n := 1) (As := [.int x10]) dX11_count_123 (k15_X4_allClocks (d - 1) (by omega) x10 M0 (by first | omega | decide)) (by omega) (Nat.le_of_ble_eq_true rfl) w_776 w_777 w_778 w_105 w_779 (by decide +kernel) rfl (by decide) sh_13 rfl rfl (Nat.le_of_ble_eq_true rfl) (fun r M12 h13 => ?_)
      obtain ⟨⟨x11, rfl, qx11⟩, h13⟩ := h13
      have gx11 := tl_rg x11
      have hf := li_fr_trans hf h13 (fun i hZq => False.elim hZq)
      have mM12_5_0 : (M12.1 5 0).toInt = (M0.1 5 0).toInt := by rw [h13.1 5 id]
      have mM12_5_1 : (M12.1 5 1).toInt = (M0.1 5 1).toInt := by rw [h13.1 5 id]
      have mM12_13_0 : (M12.1 13 0).toInt = (M0.1 13 0).toInt := by rw [h13.1 13 id]
      have mM12_13_2 : (M12.1 13 2).toInt = (M0.1 13 2).toInt := by rw [h13.1 13 id]
      have mM12_13_1 : (M12.1 13 1).toInt = (M0.1 13 1).toInt := by rw [h13.1 13 id]
      have mM12_163_7 : (M12.1 163 7).toInt = (M0.1 163 7).toInt := by rw [h13.1 163 id]
      have mM12_171_5 : (M12.1 171 5).toInt = (M0.1 171 5).toInt := by rw [h13.1 171 id]
      have mM12_21_4 : (M12.1 21 4).toInt = (M0.1 21 4).toInt := by rw [h13.1 21 id]
      have mM12_3_1 : (M12.1 3 1).toInt = (M0.1 3 1).toInt := by rw [h13.1 3 id]
      have mM12_1_1 : (M12.1 1 1).toInt = (M0.1 1 1).toInt := by rw [h13.1 1 id]
      exact li_iret dX11_count_126 rfl rfl ⟨⟨_, rfl, (by first | omega | (intro _; omega) | (intro hZq; exact absurd hZq (by decide)))⟩, hf⟩
    · refine ⟨126, 127, by rw [c1]; rfl, by decide, ?_⟩
      refine li_aload_n 0 dX11_count_127 rfl ?_
      refine li_getr (k := 10) (N := 13) (T := TX11) (C0 := RX11) dX11_count_128 (by decide) sh_0 rfl rfl (by decide) (by decide) li_in11 w_483 ?_
      refine li_geti (k := 7) (N := 8) (T := TX10) (C0 := RX10) dX11_count_131 (by decide) sh_163 rfl rfl (by decide) li_in10 w_344 ?_
      refine li_top (fun x14 ex14 => ?_)
      have gx14 := tl_rg x14
      have vx14 : x14.toInt = (M0.1 163 7).toInt := tl_eq ex14
      exact li_iret dX11_count_134 rfl rfl ⟨⟨_, rfl, (by first | omega | (intro _; omega) | (intro hZq; exact absurd hZq (by decide)))⟩, hf⟩
    · refine ⟨134, 135, by rw [c1]; rfl, by decide, ?_⟩
      refine li_aload_n 0 dX11_count_135 rfl ?_
      refine li_getr (k := 11) (N := 13) (T := TX11) (C0 := RX11) dX11_count_136 (by decide) sh_0 rfl rfl (by decide) (by decide) li_in11 w_484 ?_
      refine li_geti (k := 5) (N := 9) (T := TX2) (C0 := RX2) dX11_count_139 (by decide) sh_171 rfl rfl (by decide) li_in2 w_447 ?_
      refine li_top (fun x15 ex15 => ?_)
      have gx15 := tl_rg x15
      have vx15 : x15.toInt = (M0.1 171 5).toInt := tl_eq ex15
      exact li_iret dX11_count_142 rfl rfl ⟨⟨_, rfl, (by first | omega | (intro _; omega) | (intro hZq; exact absurd hZq (by decide)))⟩, hf⟩
    · refine ⟨142, 143, by rw [c1]; rfl, by decide, ?_⟩
      refine li_aload_n 0 dX11_count_143 rfl ?_
      refine li_getr (k := 4) (N := 13) (T := TX11) (C0 := RX11) dX11_count_144 (by decide) sh_0 rfl rfl (by decide) (by decide) li_in11 w_477 ?_
      refine li_geti (k := 4) (N := 6) (T := TX3) (C0 := RX3) dX11_count_147 (by decide) sh_21 rfl rfl (by decide) li_in3 w_294 ?_
      refine li_top (fun x16 ex16 => ?_)
      have gx16 := tl_rg x16
      have vx16 : x16.toInt = (M0.1 21 4).toInt := tl_eq ex16
      exact li_iret dX11_count_150 rfl rfl ⟨⟨_, rfl, (by first | omega | (intro _; omega) | (intro hZq; exact absurd hZq (by decide)))⟩, hf⟩
    · refine ⟨150, 151, by rw [c1]; rfl, by decide, ?_⟩
      refine li_aload_n 0 dX11_count_151 rfl ?_
      refine li_getr (k := 1) (N := 13) (T := TX11) (C0 := RX11) dX11_count_152 (by decide) sh_0 rfl rfl (by decide) (by decide) li_in11 w_474 ?_
      refine li_geti (k := 1) (N := 2) (T := TX5) (C0 := RX5) dX11_count_155 (by decide) sh_3 rfl rfl (by decide) li_in5 w_162 ?_
      refine li_top (fun x17 ex17 => ?_)
      have gx17 := tl_rg x17
      have vx17 : x17.toInt = (M0.1 3 1).toInt := tl_eq ex17
      exact li_iret dX11_count_158 rfl rfl ⟨⟨_, rfl, (by first | omega | (intro _; omega) | (intro hZq; exact absurd hZq (by decide)))⟩, hf⟩
    · refine ⟨158, 159, by rw [c1]; rfl, by decide, ?_⟩
      refine li_aload_n 0 dX11_count_159 rfl ?_
      refine li_getr (k := 0) (N := 13) (T := TX11) (C0 := RX11) dX11_count_160 (by decide) sh_0 rfl rfl (by decide) (by decide) li_in11 w_473 ?_
      refine li_geti (k := 1) (N := 3) (T := TX7) (C0 := RX7) dX11_count_163 (by decide) sh_1 rfl rfl (by decide) li_in7 w_140 ?_
      refine li_top (fun x18 ex18 => ?_)
      have gx18 := tl_rg x18
      have vx18 : x18.toInt = (M0.1 1 1).toInt := tl_eq ex18
      exact li_iret dX11_count_166 rfl rfl ⟨⟨_, rfl, (by first | omega | (intro _; omega) | (intro hZq; exact absurd hZq (by decide)))⟩, hf⟩
