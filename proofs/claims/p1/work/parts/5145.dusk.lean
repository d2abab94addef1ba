def li_bc (p : Int32) : Int32 :=
  let a := p - (li_us p 1 &&& 1431655765)
  let b := (a &&& 858993459) + (li_us a 2 &&& 858993459)
  let c := (b + li_us b 4) &&& 252645135
  let d := c + li_us c 8
  let e := d + li_us d 16
  e &&& 63
set_option maxRecDepth 100000 in
set_option maxHeartbeats 4000000 in
theorem k6_J6_bitCount {l : Launch} {Z : li_Z} (d : Nat) (hd : 1 ≤ d) (p1 : Int32) (M0 : li_M) : li_Met l Z YJ6_bitCount_0f7a4 d [.int p1] M0 (fun r M' => (∃ x : Int32, r = some (.int x) ∧ x.toInt = (li_bc p1).toInt) ∧ li_fr (fun i => False) M0 M') := by
  refine li_enter (by decide +kernel) (Nat.le_of_ble_eq_true rfl) ?_
  show li_T l Z YJ6_bitCount_0f7a4 d 0 [(0, .int p1)] [] M0 _
  have hf : li_fr (fun i => False) M0 M0 := li_fr_refl
  have gp1 := tl_rg p1
  refine li_iload_n 0 dJ6_bitCount_0f7a4_0 rfl ?_
  refine li_iload_n 0 dJ6_bitCount_0f7a4_1 rfl ?_
  refine li_iconst 1 dJ6_bitCount_0f7a4_2 (by decide) ?_
  refine li_iushr dJ6_bitCount_0f7a4_3 ?_
  refine li_top (fun x1 ex1 => ?_)
  refine li_ldcw 1431655765 dJ6_bitCount_0f7a4_4 w_824 ?_
  refine li_iand dJ6_bitCount_0f7a4_7 ?_
  refine li_top (fun x2 ex2 => ?_)
  refine li_isub dJ6_bitCount_0f7a4_8 ?_
  refine li_top (fun x3 ex3 => ?_)
  have tx3 : (-2147483648 ≤ p1.toInt - x2.toInt ∧ p1.toInt - x2.toInt ≤ 2147483647) → x3.toInt = p1.toInt - x2.toInt := tl_sub ex3
  refine li_istore_n [(0, .int x3)] dJ6_bitCount_0f7a4_9 (by decide) rfl ?_
  refine li_iload_n 0 dJ6_bitCount_0f7a4_10 rfl ?_
  refine li_ldcw 858993459 dJ6_bitCount_0f7a4_11 w_825 ?_
  refine li_iand dJ6_bitCount_0f7a4_14 ?_
  refine li_top (fun x4 ex4 => ?_)
  refine li_iload_n 0 dJ6_bitCount_0f7a4_15 rfl ?_
  refine li_iconst 2 dJ6_bitCount_0f7a4_16 (by decide) ?_
  refine li_iushr dJ6_bitCount_0f7a4_17 ?_
  refine li_top (fun x5 ex5 => ?_)
  refine li_ldcw 858993459 dJ6_bitCount_0f7a4_18 w_825 ?_
  refine li_iand dJ6_bitCount_0f7a4_21 ?_
  refine li_top (fun x6 ex6 => ?_)
  refine li_iadd dJ6_bitCount_0f7a4_22 ?_
  refine li_top (fun x7 ex7 => ?_)
  have tx7 : (-2147483648 ≤ x4.toInt + x6.toInt ∧ x4.toInt + x6.toInt ≤ 2147483647) → x7.toInt = x4.toInt + x6.toInt := tl_add ex7
  refine li_istore_n [(0, .int x7)] dJ6_bitCount_0f7a4_23 (by decide) rfl ?_
  refine li_iload_n 0 dJ6_bitCount_0f7a4_24 rfl ?_
  refine li_iload_n 0 dJ6_bitCount_0f7a4_25 rfl ?_
  refine li_iconst 4 dJ6_bitCount_0f7a4_26 (by decide) ?_
  refine li_iushr dJ6_bitCount_0f7a4_27 ?_
  refine li_top (fun x8 ex8 => ?_)
  refine li_iadd dJ6_bitCount_0f7a4_28 ?_
  refine li_top (fun x9 ex9 => ?_)
  have tx9 : (-2147483648 ≤ x7.toInt + x8.toInt ∧ x7.toInt + x8.toInt ≤ 2147483647) → x9.toInt = x7.toInt + x8.toInt := tl_add ex9
  refine li_ldcw 252645135 dJ6_bitCount_0f7a4_29 w_826 ?_
  refine li_iand dJ6_bitCount_0f7a4_32 ?_
  refine li_top (fun x10 ex10 => ?_)
  refine li_istore_n [(0, .int x10)] dJ6_bitCount_0f7a4_33 (by decide) rfl ?_
  refine li_iload_n 0 dJ6_bitCount_0f7a4_34 rfl ?_
  refine li_iload_n 0 dJ6_bitCount_0f7a4_35 rfl ?_
  refine li_bipush 8 dJ6_bitCount_0f7a4_36 (by decide) ?_
  refine li_iushr dJ6_bitCount_0f7a4_38 ?_
  refine li_top (fun x11 ex11 => ?_)
  refine li_iadd dJ6_bitCount_0f7a4_39 ?_
  refine li_top (fun x12 ex12 => ?_)
  have tx12 : (-2147483648 ≤ x10.toInt + x11.toInt ∧ x10.toInt + x11.toInt ≤ 2147483647) → x12.toInt = x10.toInt + x11.toInt := tl_add ex12
  refine li_istore_n [(0, .int x12)] dJ6_bitCount_0f7a4_40 (by decide) rfl ?_
  refine li_iload_n 0 dJ6_bitCount_0f7a4_41 rfl ?_
  refine li_iload_n 0 dJ6_bitCount_0f7a4_42 rfl ?_
  refine li_bipush 16 dJ6_bitCount_0f7a4_43 (by decide) ?_
  refine li_iushr dJ6_bitCount_0f7a4_45 ?_
  refine li_top (fun x13 ex13 => ?_)
  refine li_iadd dJ6_bitCount_0f7a4_46 ?_
  refine li_top (fun x14 ex14 => ?_)
  have tx14 : (-2147483648 ≤ x12.toInt + x13.toInt ∧ x12.toInt + x13.toInt ≤ 2147483647) → x14.toInt = x12.toInt + x13.toInt := tl_add ex14
  refine li_istore_n [(0, .int x14)] dJ6_bitCount_0f7a4_47 (by decide) rfl ?_
  refine li_iload_n 0 dJ6_bitCount_0f7a4_48 rfl ?_
  refine li_bipush 63 dJ6_bitCount_0f7a4_49 (by decide) ?_
  refine li_iand dJ6_bitCount_0f7a4_51 ?_
  refine li_top (fun x15 ex15 => ?_)
  exact li_iret dJ6_bitCount_0f7a4_52 rfl rfl ⟨⟨_, rfl, (by subst_vars; first | rfl | (unfold li_bc li_us; rfl))⟩, hf⟩
theorem j6_J6_bitCount {l : Launch} {Z : li_Z} (d : Nat) (hd : 1 ≤ d) (p1 : Int32) (M0 : li_M) (hJ : li_J M0) : li_Met l Z YJ6_bitCount_0f7a4 d [.int p1] M0 (fun r M' => (∃ x : Int32, r = some (.int x) ∧ x.toInt = (li_bc p1).toInt) ∧ li_fs (fun i k => False) M0 M' ∧ li_J M') := li_mono (fun r M' h => ⟨h.1, by rw [li_fr_none h.2]; exact li_fs_refl, by rw [li_fr_none h.2]; exact hJ⟩) (k6_J6_bitCount d hd p1 M0)
set_option maxRecDepth 100000 in
set_option maxHeartbeats 4000000 in
theorem k6_X8_hasPerson {l : Launch} {Z : li_Z} (d : Nat) (hd : 1 ≤ d) (p1 : Int32) (M0 : li_M) : li_Met l Z YX8_hasPerson d [.ref (Z.2.2 5), .int p1] M0 (fun r M' => (∃ x : Int32, r = some (.int x) ∧ (x = 0 ∨ x = 1) ∧ ((x.toInt = 1 ∧ 0 ≤ p1.toInt ∧ p1.toInt < (M0.1 5 0).toInt) ∨ (x.toInt = 0 ∧ (p1.toInt < 0 ∨ (M0.1 5 0).toInt ≤ p1.toInt)))) ∧ li_fr (fun i => False) M0 M') := by
  refine li_enter (by decide +kernel) (Nat.le_of_ble_eq_true rfl) ?_
  show li_T l Z YX8_hasPerson d 0 [(0, .ref (Z.2.2 5)), (1, .int p1)] [] M0 _
  have hf : li_fr (fun i => False) M0 M0 := li_fr_refl
  have gp1 := tl_rg p1
  refine li_iload_n 1 dX8_hasPerson_0 rfl ?_
  refine li_if_lt 16 dX8_hasPerson_1 (by decide) (fun c1 => ?_) (fun c1 => ?_)
  · have tc1 : p1.toInt < 0 := tl_lt c1
    refine li_iconst 0 dX8_hasPerson_16 (by decide) ?_
    have z0 : (0 : Int32).toInt = 0 := rfl
    exact li_iret dX8_hasPerson_17 rfl (li_nz (Or.inl rfl)) ⟨⟨_, rfl, Or.inl rfl, (by first | omega | (intro _; omega) | (intro h; exact absurd h (by decide)))⟩, hf⟩
  · have tc1 : 0 ≤ p1.toInt := tl_nlt c1
    refine li_iload_n 1 dX8_hasPerson_4 rfl ?_
    refine li_aload_n 0 dX8_hasPerson_5 rfl ?_
    refine li_geti (k := 0) (N := 9) (T := TX8) (C0 := RX8) dX8_hasPerson_6 (by decide) sh_5 rfl rfl (by decide) li_in8 w_174 ?_
    refine li_top (fun x2 ex2 => ?_)
    have gx2 := tl_rg x2
    have vx2 : x2.toInt = (M0.1 5 0).toInt := tl_eq ex2
    refine li_icmp_ge 16 dX8_hasPerson_9 (by decide) (fun c3 => ?_) (fun c3 => ?_)
    · have tc3 : x2.toInt ≤ p1.toInt := tl_le c3
      refine li_iconst 0 dX8_hasPerson_16 (by decide) ?_
      have z0 : (0 : Int32).toInt = 0 := rfl
      exact li_iret dX8_hasPerson_17 rfl (li_nz (Or.inl rfl)) ⟨⟨_, rfl, Or.inl rfl, (by first | omega | (intro _; omega) | (intro h; exact absurd h (by decide)))⟩, hf⟩
    · have tc3 : p1.toInt < x2.toInt := tl_nle c3
      refine li_iconst 1 dX8_hasPerson_12 (by decide) ?_
      refine li_goto 17 dX8_hasPerson_13 (by decide) ?_
      have z1 : (1 : Int32).toInt = 1 := rfl
      exact li_iret dX8_hasPerson_17 rfl (li_nz (Or.inr rfl)) ⟨⟨_, rfl, Or.inr rfl, (by first | omega | (intro _; omega) | (intro h; exact absurd h (by decide)))⟩, hf⟩
set_option maxRecDepth 100000 in
set_option maxHeartbeats 4000000 in
theorem k6_X11_forget {l : Launch} {Z : li_Z} (d : Nat) (hd : 2 ≤ d) (M0 : li_M) : li_Met l Z YX11_forget d [.ref (Z.2.2 0)] M0 (fun r M' => (∃ x : Int32, r = some (.int x) ∧ (x.toInt = (li_bc (M0.1 171 5)).toInt ∧ (M'.1 171 5).toInt = 0)) ∧ li_fr (fun i => i = 171) M0 M') := by
  refine li_enter (by decide +kernel) (Nat.le_of_ble_eq_true rfl) ?_
  show li_T l Z YX11_forget d 0 [(0, .ref (Z.2.2 0))] [] M0 _
  have hf : li_fr (fun i => i = 171) M0 M0 := li_fr_refl
  refine li_aload_n 0 dX11_forget_0 rfl ?_
  refine li_getr (k := 11) (N := 13) (T := TX11) (C0 := RX11) dX11_forget_1 (by decide) sh_0 rfl rfl (by decide) (by decide) li_in11 w_484 ?_
  refine li_geti (k := 5) (N := 9) (T := TX2) (C0 := RX2) dX11_forget_4 (by decide) sh_171 rfl rfl (by decide) li_in2 w_447 ?_
  refine li_top (fun x1 ex1 => ?_)
  have gx1 := tl_rg x1
  have vx1 : x1.toInt = (M0.1 171 5).toInt := tl_eq ex1
  refine li_callS (n := 1) (As := [.int x1]) dX11_forget_7 (k6_J6_bitCount (d - 1) (by omega) x1 M0) (by omega) (Nat.le_of_ble_eq_true rfl) w_1030 w_822 w_123 w_823 (by decide +kernel) rfl rfl (Nat.le_of_ble_eq_true rfl) (fun r M3 h4 => ?_)
  obtain ⟨⟨x2, rfl, qx2⟩, h4⟩ := h4
  have gx2 := tl_rg x2
  have hf := li_fr_trans hf h4 (fun i h => False.elim h)
  have mM3_171_5 : (M3.1 171 5).toInt = (M0.1 171 5).toInt := by rw [h4.1 171 id]
  have nc : x2.toInt = (li_bc (M0.1 171 5)).toInt := by rw [← show x1 = (M0.1 171 5) from Int32.toInt_inj.mp (by omega)]; exact qx2
  refine li_istore_n [(1, .int x2), (0, .ref (Z.2.2 0))] dX11_forget_10 (by decide) rfl ?_
  refine li_aload_n 1 dX11_forget_11 rfl ?_
  refine li_getr (k := 11) (N := 13) (T := TX11) (C0 := RX11) dX11_forget_12 (by decide) sh_0 rfl rfl (by decide) (by decide) li_in11 w_484 ?_
  refine li_iconst 0 dX11_forget_15 (by decide) ?_
  refine li_puti (k := 5) (N := 9) (T := TX2) (C0 := RX2) dX11_forget_16 (by decide) sh_171 rfl rfl (by decide) li_in2 tyX2_ok nmX2 rfl rfl rfl rfl w_447 ?_
  refine li_nm (fun M5 eM5 => ?_)
  have hf := li_fr_ui hf (show 171 = 171 by omega) eM5
  have mM5_171_5 : (M5.1 171 5).toInt = 0 := by rw [eM5, li_ui_at, if_pos rfl, if_pos rfl]; rfl
  have k6 : M5.1 171 5 = 0 := by rw [eM5, li_ui_at, if_pos rfl, if_pos rfl]
  refine li_iload_n 0 dX11_forget_19 rfl ?_
  exact li_iret dX11_forget_20 rfl rfl ⟨⟨_, rfl, (by omega)⟩, hf⟩
set_option maxRecDepth 100000 in
set_option maxHeartbeats 4000000 in
theorem k6_X12_forget {l : Launch} {Z : li_Z} (d : Nat) (hd : 2 ≤ d) (M0 : li_M) (hJ : li_J M0) : li_Met l Z YX12_forget d [.ref (Z.2.2 175)] M0 (fun r M' => (∃ x : Int32, r = some (.int x) ∧ (x.toInt = (li_bc (M0.1 175 43)).toInt ∧ (M'.1 175 43).toInt = 0)) ∧ li_fs (fun i k => (i = 175 ∧ k = 10) ∨ (i = 175 ∧ k = 43)) M0 M' ∧ li_J M') := by
  refine li_enter (by decide +kernel) (Nat.le_of_ble_eq_true rfl) ?_
  show li_T l Z YX12_forget d 0 [(0, .ref (Z.2.2 175))] [] M0 _
  have hf : li_fs (fun i k => (i = 175 ∧ k = 10) ∨ (i = 175 ∧ k = 43)) M0 M0 := li_fs_refl
  refine li_aload_n 0 dX12_forget_0 rfl ?_
  refine li_iconst 0 dX12_forget_1 (by decide) ?_
  refine li_puti (k := 10) (N := 52) (T := TX12) (C0 := RX12) dX12_forget_2 (by decide) sh_175 rfl rfl (by decide) li_in12 tyX12_ok nmX12 rfl rfl rfl rfl w_1414 ?_
  refine li_nm (fun M1 eM1 => ?_)
  have hf := li_fs_ui hf (Or.inl ⟨rfl, rfl⟩) eM1
  have z0 : (0 : Int32).toInt = 0 := rfl
  have hJ := hJ.put (k := 10) (by decide) (rg_free rfl) eM1
  have mM1_43 : (M1.1 175 43).toInt = (M0.1 175 43).toInt := by rw [eM1, li_ui_at, if_pos rfl, if_neg (by decide)]
  refine li_aload_n 0 dX12_forget_5 rfl ?_
  refine li_geti (k := 43) (N := 52) (T := TX12) (C0 := RX12) dX12_forget_6 (by decide) sh_175 rfl rfl (by decide) li_in12 w_1447 ?_
  refine li_top (fun x2 ex2 => ?_)
  have gx2 := tl_rg x2
  have mx2 : x2.toInt = (M1.1 175 43).toInt := tl_slot ex2
  refine li_callS (n := 1) (As := [.int x2]) dX12_forget_9 (j6_J6_bitCount (d - 1) (by omega) x2 M1 hJ) (by omega) (Nat.le_of_ble_eq_true rfl) w_1700 w_822 w_123 w_823 (by decide +kernel) rfl rfl (Nat.le_of_ble_eq_true rfl) (fun r M4 h5 => ?_)
  obtain ⟨⟨x3, rfl, qx3⟩, h5, jM4⟩ := h5
  have gx3 := tl_rg x3
  have hf := li_fs_trans hf h5 (fun i k h => False.elim h)
  have hJ := jM4
  have mM4_43 : (M4.1 175 43).toInt = (M1.1 175 43).toInt := tl_slot (h5.1 175 43 id)
  have nc : x3.toInt = (li_bc (M0.1 175 43)).toInt := by rw [← show x2 = (M0.1 175 43) from Int32.toInt_inj.mp (by omega)]; exact qx3
  refine li_istore_n [(1, .int x3), (0, .ref (Z.2.2 175))] dX12_forget_12 (by decide) rfl ?_
  refine li_aload_n 1 dX12_forget_13 rfl ?_
  refine li_iconst 0 dX12_forget_14 (by decide) ?_
  refine li_puti (k := 43) (N := 52) (T := TX12) (C0 := RX12) dX12_forget_15 (by decide) sh_175 rfl rfl (by decide) li_in12 tyX12_ok nmX12 rfl rfl rfl rfl w_1447 ?_
  refine li_nm (fun M6 eM6 => ?_)
  have hf := li_fs_ui hf (Or.inr (⟨rfl, rfl⟩)) eM6
  have z0 : (0 : Int32).toInt = 0 := rfl
  have hJ := hJ.put (k := 43) (by decide) (rg_free rfl) eM6
  have mM6_43 : (M6.1 175 43).toInt = 0 := by rw [eM6, li_ui_at, if_pos rfl, if_pos rfl]; rfl
  refine li_iload_n 0 dX12_forget_18 rfl ?_
  exact li_iret dX12_forget_19 rfl rfl ⟨⟨_, rfl, (by omega)⟩, hf, hJ⟩
