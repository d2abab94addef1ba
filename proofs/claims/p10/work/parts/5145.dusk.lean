def li_bc (p : Int32) : Int32 :=
  let a := p - (li_us p 1 &&& 1431655765)
  let b := (a &&& 858993459) + (li_us a 2 &&& 858993459)
  let c := (b + li_us b 4) &&& 252645135
  let d := c + li_us c 8
  let e := d + li_us d 16
  e &&& 63
def li_rb (b p : Int32) : Int32 := b ||| (1 <<< (p &&& 31))

set_option maxRecDepth 100000 in
set_option maxHeartbeats 4000000 in
theorem k6_J6_bitCount {l : Launch} {Z : li_Z} (d : Nat) (hd : 1 ≤ d) (p1 : Int32) (M0 : li_M) : li_Met l Z YJ6_bitCount_0f7a4 d [.int p1] M0 (fun r M' => (∃ x : Int32, r = some (.int x) ∧ x.toInt = (li_bc p1).toInt) ∧ li_fr (fun i => False) M0 M') := by
  refine li_enter (by decide +kernel) (Nat.le_of_ble_eq_true rfl) ?_
  show li_T l Z YJ6_bitCount_0f7a4 d 0 [(0, .int p1)] [] M0 _
  have hf : li_fr (fun i => False) M0 M0 := li_fr_refl
  have gp1 := tl_rg p1
  refine li_iload_n 0 dJ6_bitCount_0f7a4_0 rfl ?_
  refine li_iload_n 0 dJ6_bitCount_0f7a4_1 rfl ?_
  refine li_iconst 1 dJ6_bitCount_0f7a4_2 (by decide) ?_
  refine li_iushr dJ6_bitCount_0f7a4_3 ?_
  refine li_top (fun x1 ex1 => ?_)
  refine li_ldcw 1431655765 dJ6_bitCount_0f7a4_4 w_824 ?_
  refine li_iand dJ6_bitCount_0f7a4_7 ?_
  refine li_top (fun x2 ex2 => ?_)
  refine li_isub dJ6_bitCount_0f7a4_8 ?_
  refine li_top (fun x3 ex3 => ?_)
  have tx3 : (-2147483648 ≤ p1.toInt - x2.toInt ∧ p1.toInt - x2.toInt ≤ 2147483647) → x3.toInt = p1.toInt - x2.toInt := tl_sub ex3
  refine li_istore_n [(0, .int x3)] dJ6_bitCount_0f7a4_9 (by decide) rfl ?_
  refine li_iload_n 0 dJ6_bitCount_0f7a4_10 rfl ?_
  refine li_ldcw 858993459 dJ6_bitCount_0f7a4_11 w_825 ?_
  refine li_iand dJ6_bitCount_0f7a4_14 ?_
  refine li_top (fun x4 ex4 => ?_)
  refine li_iload_n 0 dJ6_bitCount_0f7a4_15 rfl ?_
  refine li_iconst 2 dJ6_bitCount_0f7a4_16 (by decide) ?_
  refine li_iushr dJ6_bitCount_0f7a4_17 ?_
  refine li_top (fun x5 ex5 => ?_)
  refine li_ldcw 858993459 dJ6_bitCount_0f7a4_18 w_825 ?_
  refine li_iand dJ6_bitCount_0f7a4_21 ?_
  refine li_top (fun x6 ex6 => ?_)
  refine li_iadd dJ6_bitCount_0f7a4_22 ?_
  refine li_top (fun x7 ex7 => ?_)
  have tx7 : (-2147483648 ≤ x4.toInt + x6.toInt ∧ x4.toInt + x6.toInt ≤ 2147483647) → x7.toInt = x4.toInt + x6.toInt := tl_add ex7
  refine li_istore_n [(0, .int x7)] dJ6_bitCount_0f7a4_23 (by decide) rfl ?_
  refine li_iload_n 0 dJ6_bitCount_0f7a4_24 rfl ?_
  refine li_iload_n 0 dJ6_bitCount_0f7a4_25 rfl ?_
  refine li_iconst 4 dJ6_bitCount_0f7a4_26 (by decide) ?_
  refine li_iushr dJ6_bitCount_0f7a4_27 ?_
  refine li_top (fun x8 ex8 => ?_)
  refine li_iadd dJ6_bitCount_0f7a4_28 ?_
  refine li_top (fun x9 ex9 => ?_)
  have tx9 : (-2147483648 ≤ x7.toInt + x8.toInt ∧ x7.toInt + x8.toInt ≤ 2147483647) → x9.toInt = x7.toInt + x8.toInt := tl_add ex9
  refine li_ldcw 252645135 dJ6_bitCount_0f7a4_29 w_826 ?_
  refine li_iand dJ6_bitCount_0f7a4_32 ?_
  refine li_top (fun x10 ex10 => ?_)
  refine li_istore_n [(0, .int x10)] dJ6_bitCount_0f7a4_33 (by decide) rfl ?_
  refine li_iload_n 0 dJ6_bitCount_0f7a4_34 rfl ?_
  refine li_iload_n 0 dJ6_bitCount_0f7a4_35 rfl ?_
  refine li_bipush 8 dJ6_bitCount_0f7a4_36 (by decide) ?_
  refine li_iushr dJ6_bitCount_0f7a4_38 ?_
  refine li_top (fun x11 ex11 => ?_)
  refine li_iadd dJ6_bitCount_0f7a4_39 ?_
  refine li_top (fun x12 ex12 => ?_)
  have tx12 : (-2147483648 ≤ x10.toInt + x11.toInt ∧ x10.toInt + x11.toInt ≤ 2147483647) → x12.toInt = x10.toInt + x11.toInt := tl_add ex12
  refine li_istore_n [(0, .int x12)] dJ6_bitCount_0f7a4_40 (by decide) rfl ?_
  refine li_iload_n 0 dJ6_bitCount_0f7a4_41 rfl ?_
  refine li_iload_n 0 dJ6_bitCount_0f7a4_42 rfl ?_
  refine li_bipush 16 dJ6_bitCount_0f7a4_43 (by decide) ?_
  refine li_iushr dJ6_bitCount_0f7a4_45 ?_
  refine li_top (fun x13 ex13 => ?_)
  refine li_iadd dJ6_bitCount_0f7a4_46 ?_
  refine li_top (fun x14 ex14 => ?_)
  have tx14 : (-2147483648 ≤ x12.toInt + x13.toInt ∧ x12.toInt + x13.toInt ≤ 2147483647) → x14.toInt = x12.toInt + x13.toInt := tl_add ex14
  refine li_istore_n [(0, .int x14)] dJ6_bitCount_0f7a4_47 (by decide) rfl ?_
  refine li_iload_n 0 dJ6_bitCount_0f7a4_48 rfl ?_
  refine li_bipush 63 dJ6_bitCount_0f7a4_49 (by decide) ?_
  refine li_iand dJ6_bitCount_0f7a4_51 ?_
  refine li_top (fun x15 ex15 => ?_)
  exact li_iret dJ6_bitCount_0f7a4_52 rfl rfl ⟨⟨_, rfl, (by subst_vars; first | rfl | (unfold li_bc li_us; rfl))⟩, hf⟩
theorem j6_J6_bitCount {l : Launch} {Z : li_Z} (d : Nat) (hd : 1 ≤ d) (p1 : Int32) (M0 : li_M) (hJ : li_J M0) : li_Met l Z YJ6_bitCount_0f7a4 d [.int p1] M0 (fun r M' => (∃ x : Int32, r = some (.int x) ∧ x.toInt = (li_bc p1).toInt) ∧ li_fs (fun i k => False) M0 M' ∧ li_J M') := li_mono (fun r M' h => ⟨h.1, by rw [li_fr_none h.2]; exact li_fs_refl, by rw [li_fr_none h.2]; exact hJ⟩) (k6_J6_bitCount d hd p1 M0)
set_option maxRecDepth 100000 in
set_option maxHeartbeats 4000000 in
theorem k6_X8_hasPerson {l : Launch} {Z : li_Z} (d : Nat) (hd : 1 ≤ d) (p1 : Int32) (M0 : li_M) : li_Met l Z YX8_hasPerson d [.ref (Z.2.2 5), .int p1] M0 (fun r M' => (∃ x : Int32, r = some (.int x) ∧ (x = 0 ∨ x = 1) ∧ ((x.toInt = 1 ∧ 0 ≤ p1.toInt ∧ p1.toInt < (M0.1 5 0).toInt) ∨ (x.toInt = 0 ∧ (p1.toInt < 0 ∨ (M0.1 5 0).toInt ≤ p1.toInt)))) ∧ li_fr (fun i => False) M0 M') := by
  refine li_enter (by decide +kernel) (Nat.le_of_ble_eq_true rfl) ?_
  show li_T l Z YX8_hasPerson d 0 [(0, .ref (Z.2.2 5)), (1, .int p1)] [] M0 _
  have hf : li_fr (fun i => False) M0 M0 := li_fr_refl
  have gp1 := tl_rg p1
  refine li_iload_n 1 dX8_hasPerson_0 rfl ?_
  refine li_if_lt 16 dX8_hasPerson_1 (by decide) (fun c1 => ?_) (fun c1 => ?_)
  · have tc1 : p1.toInt < 0 := tl_lt c1
    refine li_iconst 0 dX8_hasPerson_16 (by decide) ?_
    have z0 : (0 : Int32).toInt = 0 := rfl
    exact li_iret dX8_hasPerson_17 rfl (li_nz (Or.inl rfl)) ⟨⟨_, rfl, Or.inl rfl, (by first | omega | (intro _; omega) | (intro h; exact absurd h (by decide)))⟩, hf⟩
  · have tc1 : 0 ≤ p1.toInt := tl_nlt c1
    refine li_iload_n 1 dX8_hasPerson_4 rfl ?_
    refine li_aload_n 0 dX8_hasPerson_5 rfl ?_
    refine li_geti (k := 0) (N := 9) (T := TX8) (C0 := RX8) dX8_hasPerson_6 (by decide) sh_5 rfl rfl (by decide) li_in8 w_174 ?_
    refine li_top (fun x2 ex2 => ?_)
    have gx2 := tl_rg x2
    have vx2 : x2.toInt = (M0.1 5 0).toInt := tl_eq ex2
    refine li_icmp_ge 16 dX8_hasPerson_9 (by decide) (fun c3 => ?_) (fun c3 => ?_)
    · have tc3 : x2.toInt ≤ p1.toInt := tl_le c3
      refine li_iconst 0 dX8_hasPerson_16 (by decide) ?_
      have z0 : (0 : Int32).toInt = 0 := rfl
      exact li_iret dX8_hasPerson_17 rfl (li_nz (Or.inl rfl)) ⟨⟨_, rfl, Or.inl rfl, (by first | omega | (intro _; omega) | (intro h; exact absurd h (by decide)))⟩, hf⟩
    · have tc3 : p1.toInt < x2.toInt := tl_nle c3
      refine li_iconst 1 dX8_hasPerson_12 (by decide) ?_
      refine li_goto 17 dX8_hasPerson_13 (by decide) ?_
      have z1 : (1 : Int32).toInt = 1 := rfl
      exact li_iret dX8_hasPerson_17 rfl (li_nz (Or.inr rfl)) ⟨⟨_, rfl, Or.inr rfl, (by first | omega | (intro _; omega) | (intro h; exact absurd h (by decide)))⟩, hf⟩
set_option maxRecDepth 100000 in
set_option maxHeartbeats 4000000 in
theorem k6_X2_note {l : Launch} {Z : li_Z} (d : Nat) (hd : 2 ≤ d) (p1 : Int32) (p2 : Int32) (M0 : li_M) : li_Met l Z YX2_note d [.ref (Z.2.2 171), .int p1, .int p2] M0 (fun r M' => r = none ∧ li_fr (fun i => i = 171 ∨ i = 172) M0 M' ∧ (M'.1 171 5).toInt = (li_rb (M0.1 171 5) p1).toInt) := by
  refine li_enter (by decide +kernel) (Nat.le_of_ble_eq_true rfl) ?_
  show li_T l Z YX2_note d 0 [(0, .ref (Z.2.2 171)), (1, .int p1), (2, .int p2)] [] M0 _
  have hf : li_fr (fun i => i = 171 ∨ i = 172) M0 M0 := li_fr_refl
  have gp1 := tl_rg p1
  have gp2 := tl_rg p2
  refine li_aload_n 0 dX2_note_0 rfl ?_
  refine li_getr (k := 3) (N := 9) (T := TX2) (C0 := RX2) dX2_note_1 (by decide) sh_171 rfl rfl (by decide) (by decide) li_in2 w_444 ?_
  refine li_iload_n 1 dX2_note_4 rfl ?_
  refine li_iload_n 2 dX2_note_5 rfl ?_
  refine li_callN (n := 3) (As := [.ref (Z.2.2 172), .int p1, .int p2]) dX2_note_6 (k_X11_put (d - 1) (by omega) (by decide) sh_172 (by decide) p1 p2 M0) (by omega) (Nat.le_of_ble_eq_true rfl) nw_32 w_522 w_101 w_523 (by decide +kernel) rfl rfl (Nat.le_of_ble_eq_true rfl) (fun r M2 h3 => ?_)
  obtain ⟨rfl, h3⟩ := h3
  have hf := li_fr_trans hf h3 (fun i (h : i = 172) => (show i = 171 ∨ i = 172 by omega))
  have mM2_171_5 : (M2.1 171 5).toInt = (M0.1 171 5).toInt := by rw [h3.1 171 (show ¬ (171 = 172) by omega)]
  refine li_aload_n 0 dX2_note_9 rfl ?_
  refine li_dup dX2_note_10 rfl ?_
  refine li_geti (k := 5) (N := 9) (T := TX2) (C0 := RX2) dX2_note_11 (by decide) sh_171 rfl rfl (by decide) li_in2 w_446 ?_
  refine li_top (fun x4 ex4 => ?_)
  have gx4 := tl_rg x4
  have vx4 : x4.toInt = (M2.1 171 5).toInt := tl_eq ex4
  refine li_iconst 1 dX2_note_14 (by decide) ?_
  refine li_iload_n 1 dX2_note_15 rfl ?_
  refine li_ishl dX2_note_16 ?_
  refine li_top (fun x5 ex5 => ?_)
  refine li_ior dX2_note_17 ?_
  refine li_top (fun x6 ex6 => ?_)
  refine li_puti (k := 5) (N := 9) (T := TX2) (C0 := RX2) dX2_note_18 (by decide) sh_171 rfl rfl (by decide) li_in2 tyX2_ok nmX2 rfl rfl rfl rfl w_446 ?_
  refine li_nm (fun M7 eM7 => ?_)
  have hf := li_fr_ui hf (show 171 = 171 ∨ 171 = 172 by omega) eM7
  have mM7_171_5 : (M7.1 171 5).toInt = x6.toInt := by rw [eM7, li_ui_at, if_pos rfl, if_pos rfl]
  have k8 : M7.1 171 5 = x6 := by rw [eM7, li_ui_at, if_pos rfl, if_pos rfl]
  exact li_vret dX2_note_21 rfl ⟨rfl, hf, (by rw [mM7_171_5, ex6, ex5, show x4 = M0.1 171 5 from Int32.toInt_inj.mp (by omega)]; rfl)⟩
set_option maxRecDepth 100000 in
set_option maxHeartbeats 4000000 in
theorem k6_X11_read {l : Launch} {Z : li_Z} (d : Nat) (hd : 3 ≤ d) (p1 : Int32) (p2 : Int32) (M0 : li_M) : li_Met l Z YX11_read d [.ref (Z.2.2 0), .int p1, .int p2] M0 (fun r M' => (∃ x : Int32, r = some (.int x) ∧ ((x.toInt = -1 ∧ ¬ (0 ≤ p1.toInt ∧ p1.toInt < (M0.1 5 0).toInt ∧ 0 ≤ p2.toInt ∧ p2.toInt ≤ 9999) ∧ (M'.1 171 5).toInt = (M0.1 171 5).toInt) ∨ ((0 ≤ p1.toInt ∧ p1.toInt < (M0.1 5 0).toInt ∧ 0 ≤ p2.toInt ∧ p2.toInt ≤ 9999) ∧ x.toInt = (li_bc (li_rb (M0.1 171 5) p1)).toInt ∧ (M'.1 171 5).toInt = (li_rb (M0.1 171 5) p1).toInt))) ∧ li_fr (fun i => i = 171 ∨ i = 172) M0 M') := by
  refine li_enter (by decide +kernel) (Nat.le_of_ble_eq_true rfl) ?_
  show li_T l Z YX11_read d 0 [(0, .ref (Z.2.2 0)), (1, .int p1), (2, .int p2)] [] M0 _
  have hf : li_fr (fun i => i = 171 ∨ i = 172) M0 M0 := li_fr_refl
  have gp1 := tl_rg p1
  have gp2 := tl_rg p2
  refine li_aload_n 0 dX11_read_0 rfl ?_
  refine li_getr (k := 2) (N := 13) (T := TX11) (C0 := RX11) dX11_read_1 (by decide) sh_0 rfl rfl (by decide) (by decide) li_in11 w_475 ?_
  refine li_iload_n 1 dX11_read_4 rfl ?_
  refine li_callV (n := 1) (As := [.int p1]) dX11_read_5 (k6_X8_hasPerson (d - 1) (by omega) p1 M0) (by omega) (Nat.le_of_ble_eq_true rfl) w_758 w_759 w_760 w_104 w_761 (by decide +kernel) rfl (by decide) sh_5 rfl rfl (Nat.le_of_ble_eq_true rfl) (fun r M2 h3 => ?_)
  obtain ⟨⟨x1, rfl, bx1, qx1⟩, h3⟩ := h3
  have ux1 := tl_b bx1
  have hf := li_fr_trans hf h3 (fun i h => False.elim h)
  have mM2_5_0 : (M2.1 5 0).toInt = (M0.1 5 0).toInt := by rw [h3.1 5 id]
  have mM2_171_5 : (M2.1 171 5).toInt = (M0.1 171 5).toInt := by rw [h3.1 171 id]
  refine li_if_eq 22 dX11_read_8 (by decide) (fun c4 => ?_) (fun c4 => ?_)
  · have tc4 : x1.toInt = 0 := tl_eq c4
    refine li_iconst (-1) dX11_read_22 (by decide) ?_
    have zm1 : ((-1) : Int32).toInt = -1 := rfl
    exact li_iret dX11_read_23 rfl rfl ⟨⟨_, rfl, (by omega)⟩, hf⟩
  · have tc4 : ¬ x1.toInt = 0 := tl_ne c4
    refine li_iload_n 2 dX11_read_11 rfl ?_
    refine li_iconst 0 dX11_read_12 (by decide) ?_
    refine li_sipush 9999 dX11_read_13 (by decide) ?_
    refine li_callS (n := 3) (As := [.int p2, .int 0, .int 9999]) dX11_read_16 (k4_X11_within2 (d - 1) (by omega) p2 0 9999 M2) (by omega) (Nat.le_of_ble_eq_true rfl) w_762 w_639 w_101 w_640 (by decide +kernel) rfl rfl (Nat.le_of_ble_eq_true rfl) (fun r M6 h7 => ?_)
    have z0 : (0 : Int32).toInt = 0 := rfl
    have z9999 : (9999 : Int32).toInt = 9999 := rfl
    obtain ⟨⟨x5, rfl, bx5, qx5⟩, h7⟩ := h7
    have ux5 := tl_b bx5
    have hf := li_fr_trans hf h7 (fun i h => False.elim h)
    have mM6_5_0 : (M6.1 5 0).toInt = (M2.1 5 0).toInt := by rw [h7.1 5 id]
    have mM6_171_5 : (M6.1 171 5).toInt = (M2.1 171 5).toInt := by rw [h7.1 171 id]
    refine li_if_ne 24 dX11_read_19 (by decide) (fun c8 => ?_) (fun c8 => ?_)
    · have tc8 : ¬ x5.toInt = 0 := tl_ne c8
      refine li_aload_n 0 dX11_read_24 rfl ?_
      refine li_getr (k := 11) (N := 13) (T := TX11) (C0 := RX11) dX11_read_25 (by decide) sh_0 rfl rfl (by decide) (by decide) li_in11 w_484 ?_
      refine li_iload_n 1 dX11_read_28 rfl ?_
      refine li_iload_n 2 dX11_read_29 rfl ?_
      refine li_callV (n := 2) (As := [.int p1, .int p2]) dX11_read_30 (k6_X2_note (d - 1) (by omega) p1 p2 M6) (by omega) (Nat.le_of_ble_eq_true rfl) w_1164 w_1165 w_1166 w_111 w_1167 (by decide +kernel) rfl (by decide) sh_171 rfl rfl (Nat.le_of_ble_eq_true rfl) (fun r M10 h11 => ?_)
      obtain ⟨rfl, h11, nM10⟩ := h11
      have hf := li_fr_trans hf h11 (fun i (h : i = 171 ∨ i = 172) => (show i = 171 ∨ i = 172 by omega))
      have mM10_5_0 : (M10.1 5 0).toInt = (M6.1 5 0).toInt := by rw [h11.1 5 (show ¬ (5 = 171 ∨ 5 = 172) by omega)]
      have nb : (M10.1 171 5).toInt = (li_rb (M0.1 171 5) p1).toInt := by rw [← show M6.1 171 5 = M0.1 171 5 from Int32.toInt_inj.mp (by omega)]; exact nM10
      refine li_aload_n 0 dX11_read_33 rfl ?_
      refine li_getr (k := 11) (N := 13) (T := TX11) (C0 := RX11) dX11_read_34 (by decide) sh_0 rfl rfl (by decide) (by decide) li_in11 w_484 ?_
      refine li_geti (k := 5) (N := 9) (T := TX2) (C0 := RX2) dX11_read_37 (by decide) sh_171 rfl rfl (by decide) li_in2 w_447 ?_
      refine li_top (fun x12 ex12 => ?_)
      have gx12 := tl_rg x12
      have vx12 : x12.toInt = (M10.1 171 5).toInt := tl_eq ex12
      refine li_callS (n := 1) (As := [.int x12]) dX11_read_40 (k6_J6_bitCount (d - 1) (by omega) x12 M10) (by omega) (Nat.le_of_ble_eq_true rfl) w_1030 w_822 w_123 w_823 (by decide +kernel) rfl rfl (Nat.le_of_ble_eq_true rfl) (fun r M14 h15 => ?_)
      obtain ⟨⟨x13, rfl, qx13⟩, h15⟩ := h15
      have gx13 := tl_rg x13
      have hf := li_fr_trans hf h15 (fun i h => False.elim h)
      have mM14_5_0 : (M14.1 5 0).toInt = (M10.1 5 0).toInt := by rw [h15.1 5 id]
      have mM14_171_5 : (M14.1 171 5).toInt = (M10.1 171 5).toInt := by rw [h15.1 171 id]
      have nc : x13.toInt = (li_bc (li_rb (M0.1 171 5) p1)).toInt := by rw [← show x12 = (li_rb (M0.1 171 5) p1) from Int32.toInt_inj.mp (by omega)]; exact qx13
      exact li_iret dX11_read_43 rfl rfl ⟨⟨_, rfl, (by omega)⟩, hf⟩
    · have tc8 : x5.toInt = 0 := tl_eq c8
      refine li_iconst (-1) dX11_read_22 (by decide) ?_
      have zm1 : ((-1) : Int32).toInt = -1 := rfl
      exact li_iret dX11_read_23 rfl rfl ⟨⟨_, rfl, (by omega)⟩, hf⟩
set_option maxRecDepth 100000 in
set_option maxHeartbeats 4000000 in
theorem k6_X11_forget {l : Launch} {Z : li_Z} (d : Nat) (hd : 2 ≤ d) (M0 : li_M) : li_Met l Z YX11_forget d [.ref (Z.2.2 0)] M0 (fun r M' => (∃ x : Int32, r = some (.int x) ∧ (x.toInt = (li_bc (M0.1 171 5)).toInt ∧ (M'.1 171 5).toInt = 0)) ∧ li_fr (fun i => i = 171) M0 M') := by
  refine li_enter (by decide +kernel) (Nat.le_of_ble_eq_true rfl) ?_
  show li_T l Z YX11_forget d 0 [(0, .ref (Z.2.2 0))] [] M0 _
  have hf : li_fr (fun i => i = 171) M0 M0 := li_fr_refl
  refine li_aload_n 0 dX11_forget_0 rfl ?_
  refine li_getr (k := 11) (N := 13) (T := TX11) (C0 := RX11) dX11_forget_1 (by decide) sh_0 rfl rfl (by decide) (by decide) li_in11 w_484 ?_
  refine li_geti (k := 5) (N := 9) (T := TX2) (C0 := RX2) dX11_forget_4 (by decide) sh_171 rfl rfl (by decide) li_in2 w_447 ?_
  refine li_top (fun x1 ex1 => ?_)
  have gx1 := tl_rg x1
  have vx1 : x1.toInt = (M0.1 171 5).toInt := tl_eq ex1
  refine li_callS (n := 1) (As := [.int x1]) dX11_forget_7 (k6_J6_bitCount (d - 1) (by omega) x1 M0) (by omega) (Nat.le_of_ble_eq_true rfl) w_1030 w_822 w_123 w_823 (by decide +kernel) rfl rfl (Nat.le_of_ble_eq_true rfl) (fun r M3 h4 => ?_)
  obtain ⟨⟨x2, rfl, qx2⟩, h4⟩ := h4
  have gx2 := tl_rg x2
  have hf := li_fr_trans hf h4 (fun i h => False.elim h)
  have mM3_171_5 : (M3.1 171 5).toInt = (M0.1 171 5).toInt := by rw [h4.1 171 id]
  have nc : x2.toInt = (li_bc (M0.1 171 5)).toInt := by rw [← show x1 = (M0.1 171 5) from Int32.toInt_inj.mp (by omega)]; exact qx2
  refine li_istore_n [(1, .int x2), (0, .ref (Z.2.2 0))] dX11_forget_10 (by decide) rfl ?_
  refine li_aload_n 1 dX11_forget_11 rfl ?_
  refine li_getr (k := 11) (N := 13) (T := TX11) (C0 := RX11) dX11_forget_12 (by decide) sh_0 rfl rfl (by decide) (by decide) li_in11 w_484 ?_
  refine li_iconst 0 dX11_forget_15 (by decide) ?_
  refine li_puti (k := 5) (N := 9) (T := TX2) (C0 := RX2) dX11_forget_16 (by decide) sh_171 rfl rfl (by decide) li_in2 tyX2_ok nmX2 rfl rfl rfl rfl w_447 ?_
  refine li_nm (fun M5 eM5 => ?_)
  have hf := li_fr_ui hf (show 171 = 171 by omega) eM5
  have mM5_171_5 : (M5.1 171 5).toInt = 0 := by rw [eM5, li_ui_at, if_pos rfl, if_pos rfl]; rfl
  have k6 : M5.1 171 5 = 0 := by rw [eM5, li_ui_at, if_pos rfl, if_pos rfl]
  refine li_iload_n 0 dX11_forget_19 rfl ?_
  exact li_iret dX11_forget_20 rfl rfl ⟨⟨_, rfl, (by omega)⟩, hf⟩
set_option maxRecDepth 100000 in
set_option maxHeartbeats 4000000 in
theorem k6_X2_countSet {l : Launch} {Z : li_Z} (d : Nat) (hd : 1 ≤ d) (p1 : Int32) (M0 : li_M) : li_Met l Z YX2_countSet d [.ref (Z.2.2 171), .int p1] M0 (fun r M' => r = none ∧ li_fr (fun i => i = 171) M0 M' ∧ ((M'.1 171 5).toInt = (M0.1 171 5).toInt)) := by
  refine li_enter (by decide +kernel) (Nat.le_of_ble_eq_true rfl) ?_
  show li_T l Z YX2_countSet d 0 [(0, .ref (Z.2.2 171)), (1, .int p1)] [] M0 _
  have hf : li_fr (fun i => i = 171) M0 M0 := li_fr_refl
  have gp1 := tl_rg p1
  refine li_aload_n 0 dX2_countSet_0 rfl ?_
  refine li_aload_n 0 dX2_countSet_1 rfl ?_
  refine li_geti (k := 6) (N := 9) (T := TX2) (C0 := RX2) dX2_countSet_2 (by decide) sh_171 rfl rfl (by decide) li_in2 w_448 ?_
  refine li_top (fun x1 ex1 => ?_)
  have gx1 := tl_rg x1
  have J16 : ∀ (x3 : Int32) (M4 : li_M), li_fr (fun i => i = 171) M0 M4 → (M4.1 171 5).toInt = (M0.1 171 5).toInt → li_T l Z YX2_countSet d 16 [(0, .ref (Z.2.2 171)), (1, .int p1)] [.int x3, .ref (Z.2.2 171)] M4 (fun r M' => r = none ∧ li_fr (fun i => i = 171) M0 M' ∧ ((M'.1 171 5).toInt = (M0.1 171 5).toInt)) := by
    intro x3 M4 hf hi
    have gx3 := tl_rg x3
    refine li_puti (k := 7) (N := 9) (T := TX2) (C0 := RX2) dX2_countSet_16 (by decide) sh_171 rfl rfl (by decide) li_in2 tyX2_ok nmX2 rfl rfl rfl rfl w_450 ?_
    refine li_nm (fun M5 eM5 => ?_)
    have hf := li_fr_ui hf (show 171 = 171 by omega) eM5
    have mM5_171_5 : (M5.1 171 5).toInt = (M4.1 171 5).toInt := by rw [eM5, li_ui_at, if_pos rfl, if_neg (by decide)]
    have k6 : M5.1 171 7 = x3 := by rw [eM5, li_ui_at, if_pos rfl, if_pos rfl]
    refine li_aload_n 0 dX2_countSet_19 rfl ?_
    refine li_aload_n 0 dX2_countSet_20 rfl ?_
    refine li_geti (k := 6) (N := 9) (T := TX2) (C0 := RX2) dX2_countSet_21 (by decide) sh_171 rfl rfl (by decide) li_in2 w_448 ?_
    refine li_top (fun x7 ex7 => ?_)
    have gx7 := tl_rg x7
    have J37 : ∀ (x9 : Int32) (M10 : li_M), li_fr (fun i => i = 171) M0 M10 → (M10.1 171 5).toInt = (M0.1 171 5).toInt → li_T l Z YX2_countSet d 37 [(0, .ref (Z.2.2 171)), (1, .int p1)] [.int x9, .ref (Z.2.2 171)] M10 (fun r M' => r = none ∧ li_fr (fun i => i = 171) M0 M' ∧ ((M'.1 171 5).toInt = (M0.1 171 5).toInt)) := by
      intro x9 M10 hf hi
      have gx9 := tl_rg x9
      refine li_puti (k := 8) (N := 9) (T := TX2) (C0 := RX2) dX2_countSet_37 (by decide) sh_171 rfl rfl (by decide) li_in2 tyX2_ok nmX2 rfl rfl rfl rfl w_452 ?_
      refine li_nm (fun M11 eM11 => ?_)
      have hf := li_fr_ui hf (show 171 = 171 by omega) eM11
      have mM11_171_5 : (M11.1 171 5).toInt = (M10.1 171 5).toInt := by rw [eM11, li_ui_at, if_pos rfl, if_neg (by decide)]
      have k12 : M11.1 171 8 = x9 := by rw [eM11, li_ui_at, if_pos rfl, if_pos rfl]
      refine li_aload_n 0 dX2_countSet_40 rfl ?_
      refine li_dup dX2_countSet_41 rfl ?_
      refine li_geti (k := 6) (N := 9) (T := TX2) (C0 := RX2) dX2_countSet_42 (by decide) sh_171 rfl rfl (by decide) li_in2 w_448 ?_
      refine li_top (fun x13 ex13 => ?_)
      have gx13 := tl_rg x13
      refine li_iconst 1 dX2_countSet_45 (by decide) ?_
      refine li_iadd dX2_countSet_46 ?_
      refine li_top (fun x14 ex14 => ?_)
      have tx14 : (-2147483648 ≤ x13.toInt + 1 ∧ x13.toInt + 1 ≤ 2147483647) → x14.toInt = x13.toInt + 1 := tl_add ex14
      refine li_puti (k := 6) (N := 9) (T := TX2) (C0 := RX2) dX2_countSet_47 (by decide) sh_171 rfl rfl (by decide) li_in2 tyX2_ok nmX2 rfl rfl rfl rfl w_448 ?_
      refine li_nm (fun M15 eM15 => ?_)
      have hf := li_fr_ui hf (show 171 = 171 by omega) eM15
      have mM15_171_5 : (M15.1 171 5).toInt = (M11.1 171 5).toInt := by rw [eM15, li_ui_at, if_pos rfl, if_neg (by decide)]
      have k16 : M15.1 171 8 = x9 := by rw [eM15, li_ui_at, if_pos rfl, if_neg (by decide)]; exact k12
      have k17 : M15.1 171 6 = x14 := by rw [eM15, li_ui_at, if_pos rfl, if_pos rfl]
      exact li_vret dX2_countSet_50 rfl ⟨rfl, hf, (by omega)⟩
    refine li_if_ne 31 dX2_countSet_24 (by decide) (fun c8 => ?_) (fun c8 => ?_)
    · have tc8 : ¬ x7.toInt = 0 := tl_ne c8
      refine li_aload_n 0 dX2_countSet_31 rfl ?_
      refine li_geti (k := 8) (N := 9) (T := TX2) (C0 := RX2) dX2_countSet_32 (by decide) sh_171 rfl rfl (by decide) li_in2 w_452 ?_
      refine li_top (fun x18 ex18 => ?_)
      have gx18 := tl_rg x18
      refine li_iload_n 1 dX2_countSet_35 rfl ?_
      refine li_iand dX2_countSet_36 ?_
      refine li_top (fun x19 ex19 => ?_)
      refine li_pick [0, 1] [(0, .ref (Z.2.2 171)), (1, .int p1)] rfl ?_
      exact J37 x19 M5 hf (by omega)
    · have tc8 : x7.toInt = 0 := tl_eq c8
      refine li_iload_n 1 dX2_countSet_27 rfl ?_
      refine li_goto 37 dX2_countSet_28 (by decide) ?_
      refine li_pick [0, 1] [(0, .ref (Z.2.2 171)), (1, .int p1)] rfl ?_
      exact J37 p1 M5 hf (by omega)
  refine li_if_ne 12 dX2_countSet_5 (by decide) (fun c2 => ?_) (fun c2 => ?_)
  · have tc2 : ¬ x1.toInt = 0 := tl_ne c2
    refine li_aload_n 0 dX2_countSet_12 rfl ?_
    refine li_geti (k := 7) (N := 9) (T := TX2) (C0 := RX2) dX2_countSet_13 (by decide) sh_171 rfl rfl (by decide) li_in2 w_450 ?_
    refine li_top (fun x20 ex20 => ?_)
    have gx20 := tl_rg x20
    refine li_pick [0, 1] [(0, .ref (Z.2.2 171)), (1, .int p1)] rfl ?_
    exact J16 x20 M0 hf (by omega)
  · have tc2 : x1.toInt = 0 := tl_eq c2
    refine li_iload_n 1 dX2_countSet_8 rfl ?_
    refine li_goto 16 dX2_countSet_9 (by decide) ?_
    refine li_pick [0, 1] [(0, .ref (Z.2.2 171)), (1, .int p1)] rfl ?_
    exact J16 p1 M0 hf (by omega)
set_option maxRecDepth 100000 in
set_option maxHeartbeats 4000000 in
theorem k6_X2_explain {l : Launch} {Z : li_Z} (d : Nat) (hd : 5 ≤ d) (p1 : Int32) (M0 : li_M) : li_Met l Z YX2_explain d [.ref (Z.2.2 171), .int p1] M0 (fun r M' => r = none ∧ li_fr (fun i => i = 171 ∨ i = 173) M0 M' ∧ ((M'.1 171 5).toInt = (M0.1 171 5).toInt)) := by
  refine li_enter (by decide +kernel) (Nat.le_of_ble_eq_true rfl) ?_
  show li_T l Z YX2_explain d 0 [(0, .ref (Z.2.2 171)), (1, .int p1)] [] M0 _
  have hf : li_fr (fun i => i = 171 ∨ i = 173) M0 M0 := li_fr_refl
  have gp1 := tl_rg p1
  refine li_aload_n 0 dX2_explain_0 rfl ?_
  refine li_iconst 0 dX2_explain_1 (by decide) ?_
  refine li_puti (k := 6) (N := 9) (T := TX2) (C0 := RX2) dX2_explain_2 (by decide) sh_171 rfl rfl (by decide) li_in2 tyX2_ok nmX2 rfl rfl rfl rfl w_448 ?_
  refine li_nm (fun M1 eM1 => ?_)
  have hf := li_fr_ui hf (show 171 = 171 ∨ 171 = 173 by omega) eM1
  have mM1_171_5 : (M1.1 171 5).toInt = (M0.1 171 5).toInt := by rw [eM1, li_ui_at, if_pos rfl, if_neg (by decide)]
  have k2 : M1.1 171 6 = 0 := by rw [eM1, li_ui_at, if_pos rfl, if_pos rfl]
  refine li_aload_n 0 dX2_explain_5 rfl ?_
  refine li_iconst (-1) dX2_explain_6 (by decide) ?_
  refine li_puti (k := 7) (N := 9) (T := TX2) (C0 := RX2) dX2_explain_7 (by decide) sh_171 rfl rfl (by decide) li_in2 tyX2_ok nmX2 rfl rfl rfl rfl w_450 ?_
  refine li_nm (fun M3 eM3 => ?_)
  have hf := li_fr_ui hf (show 171 = 171 ∨ 171 = 173 by omega) eM3
  have mM3_171_5 : (M3.1 171 5).toInt = (M1.1 171 5).toInt := by rw [eM3, li_ui_at, if_pos rfl, if_neg (by decide)]
  have k4 : M3.1 171 6 = 0 := by rw [eM3, li_ui_at, if_pos rfl, if_neg (by decide)]; exact k2
  have k5 : M3.1 171 7 = (-1) := by rw [eM3, li_ui_at, if_pos rfl, if_pos rfl]
  refine li_aload_n 0 dX2_explain_10 rfl ?_
  refine li_iconst 0 dX2_explain_11 (by decide) ?_
  refine li_puti (k := 8) (N := 9) (T := TX2) (C0 := RX2) dX2_explain_12 (by decide) sh_171 rfl rfl (by decide) li_in2 tyX2_ok nmX2 rfl rfl rfl rfl w_452 ?_
  refine li_nm (fun M6 eM6 => ?_)
  have hf := li_fr_ui hf (show 171 = 171 ∨ 171 = 173 by omega) eM6
  have mM6_171_5 : (M6.1 171 5).toInt = (M3.1 171 5).toInt := by rw [eM6, li_ui_at, if_pos rfl, if_neg (by decide)]
  have k7 : M6.1 171 6 = 0 := by rw [eM6, li_ui_at, if_pos rfl, if_neg (by decide)]; exact k4
  have k8 : M6.1 171 7 = (-1) := by rw [eM6, li_ui_at, if_pos rfl, if_neg (by decide)]; exact k5
  have k9 : M6.1 171 8 = 0 := by rw [eM6, li_ui_at, if_pos rfl, if_pos rfl]
  refine li_aload_n 0 dX2_explain_15 rfl ?_
  refine li_getr (k := 2) (N := 9) (T := TX2) (C0 := RX2) dX2_explain_16 (by decide) sh_171 rfl rfl (by decide) (by decide) li_in2 w_443 ?_
  refine li_iload_n 1 dX2_explain_19 rfl ?_
  refine li_callV (n := 1) (As := [.int p1]) dX2_explain_20 (k_X0_openThingsOf (d - 1) (by omega) cob_148 p1 M6) (by omega) (Nat.le_of_ble_eq_true rfl) w_1181 w_1000 w_1001 w_109 w_1002 (by decide +kernel) rfl (by decide) sh_148 rfl rfl (Nat.le_of_ble_eq_true rfl) (fun r M11 h12 => ?_)
  obtain ⟨⟨x10, rfl⟩, h12⟩ := h12
  have gx10 := tl_rg x10
  have hf := li_fr_trans hf h12 (fun i h => False.elim h)
  have mM11_171_5 : (M11.1 171 5).toInt = (M6.1 171 5).toInt := by rw [h12.1 171 id]
  refine li_istore_n [(2, .int x10), (0, .ref (Z.2.2 171)), (1, .int p1)] dX2_explain_23 (by decide) rfl ?_
  refine li_aload_n 1 dX2_explain_24 rfl ?_
  refine li_getr (k := 1) (N := 9) (T := TX2) (C0 := RX2) dX2_explain_25 (by decide) sh_171 rfl rfl (by decide) (by decide) li_in2 w_442 ?_
  refine li_getr (k := 4) (N := 11) (T := TX4) (C0 := RX4) dX2_explain_28 (by decide) sh_13 rfl rfl (by decide) (by decide) li_in4 w_240 ?_
  refine li_iload_n 2 dX2_explain_31 rfl ?_
  refine li_callN (n := 2) (As := [.ref (Z.2.2 14), .int p1]) dX2_explain_32 (k_X11_at (d - 1) (by omega) (by decide) sh_14 (by decide) p1 M11) (by omega) (Nat.le_of_ble_eq_true rfl) nw_33 w_569 w_101 w_570 (by decide +kernel) rfl rfl (Nat.le_of_ble_eq_true rfl) (fun r M14 h15 => ?_)
  obtain ⟨⟨x13, rfl⟩, h15⟩ := h15
  have gx13 := tl_rg x13
  have hf := li_fr_trans hf h15 (fun i h => False.elim h)
  have mM14_171_5 : (M14.1 171 5).toInt = (M11.1 171 5).toInt := by rw [h15.1 171 id]
  refine li_aload_n 1 dX2_explain_35 rfl ?_
  refine li_getr (k := 3) (N := 9) (T := TX2) (C0 := RX2) dX2_explain_36 (by decide) sh_171 rfl rfl (by decide) (by decide) li_in2 w_444 ?_
  refine li_iload_n 2 dX2_explain_39 rfl ?_
  refine li_callN (n := 2) (As := [.ref (Z.2.2 172), .int p1]) dX2_explain_40 (k_X11_at (d - 1) (by omega) (by decide) sh_172 (by decide) p1 M14) (by omega) (Nat.le_of_ble_eq_true rfl) nw_33 w_569 w_101 w_570 (by decide +kernel) rfl rfl (Nat.le_of_ble_eq_true rfl) (fun r M17 h18 => ?_)
  obtain ⟨⟨x16, rfl⟩, h18⟩ := h18
  have gx16 := tl_rg x16
  have hf := li_fr_trans hf h18 (fun i h => False.elim h)
  have mM17_171_5 : (M17.1 171 5).toInt = (M14.1 171 5).toInt := by rw [h18.1 171 id]
  refine li_isub dX2_explain_43 ?_
  refine li_top (fun x19 ex19 => ?_)
  have tx19 : (-2147483648 ≤ x13.toInt - x16.toInt ∧ x13.toInt - x16.toInt ≤ 2147483647) → x19.toInt = x13.toInt - x16.toInt := tl_sub ex19
  refine li_istore_n [(3, .int x19), (2, .int x10), (0, .ref (Z.2.2 171)), (1, .int p1)] dX2_explain_44 (by decide) rfl ?_
  refine li_iload_n 0 dX2_explain_45 rfl ?_
  refine li_callS (n := 1) (As := [.int x19]) dX2_explain_46 (k_X2_wordsFor (d - 1) (by omega) x19 M17) (by omega) (Nat.le_of_ble_eq_true rfl) w_1183 w_1184 w_111 w_1185 (by decide +kernel) rfl rfl (Nat.le_of_ble_eq_true rfl) (fun r M21 h22 => ?_)
  obtain ⟨⟨x20, rfl⟩, h22⟩ := h22
  have gx20 := tl_rg x20
  have hf := li_fr_trans hf h22 (fun i h => False.elim h)
  have mM21_171_5 : (M21.1 171 5).toInt = (M17.1 171 5).toInt := by rw [h22.1 171 id]
  refine li_istore [(4, .int x20), (3, .int x19), (2, .int x10), (0, .ref (Z.2.2 171)), (1, .int p1)] dX2_explain_49 (by decide) rfl ?_
  refine li_iload 0 dX2_explain_51 rfl ?_
  refine li_if_ne 57 dX2_explain_53 (by decide) (fun c23 => ?_) (fun c23 => ?_)
  · have tc23 : ¬ x20.toInt = 0 := tl_ne c23
    refine li_iconst 0 dX2_explain_57 (by decide) ?_
    refine li_istore [(5, .int 0), (4, .int x20), (3, .int x19), (2, .int x10), (0, .ref (Z.2.2 171)), (1, .int p1)] dX2_explain_58 (by decide) rfl ?_
    have L60 : ∀ (n : Nat) (x24 : Int32) (M25 : li_M), (2147483647 - (x24 : Int32).toInt).toNat < n → li_fr (fun i => i = 171 ∨ i = 173) M0 M25 → (M25.1 171 5).toInt = (M0.1 171 5).toInt → li_T l Z YX2_explain d 60 [(5, .int x24), (4, .int x20), (3, .int x19), (2, .int x10), (0, .ref (Z.2.2 171)), (1, .int p1)] [] M25 (fun r M' => r = none ∧ li_fr (fun i => i = 171 ∨ i = 173) M0 M' ∧ ((M'.1 171 5).toInt = (M0.1 171 5).toInt)) := by
      intro n
      induction n with
      | zero => intro x24 M25 hn; exact absurd hn (Nat.not_lt_zero _)
      | succ n ih60 =>
        intro x24 M25 hn hf hi
        have gx24 := tl_rg x24
        refine li_iload 0 dX2_explain_60 rfl ?_
        refine li_sipush 256 dX2_explain_62 (by decide) ?_
        refine li_icmp_ge 101 dX2_explain_65 (by decide) (fun c26 => ?_) (fun c26 => ?_)
        · have tc26 : 256 ≤ x24.toInt := tl_le c26
          exact li_vret dX2_explain_101 rfl ⟨rfl, hf, (by omega)⟩
        · have tc26 : x24.toInt < 256 := tl_nle c26
          refine li_iload 0 dX2_explain_68 rfl ?_
          refine li_iload_n 3 dX2_explain_70 rfl ?_
          refine li_iconst (-1) dX2_explain_71 (by decide) ?_
          refine li_ixor dX2_explain_72 ?_
          refine li_top (fun x27 ex27 => ?_)
          refine li_iand dX2_explain_73 ?_
          refine li_top (fun x28 ex28 => ?_)
          have J95 : ∀  (M30 : li_M), li_fr (fun i => i = 171 ∨ i = 173) M0 M30 → (M30.1 171 5).toInt = (M0.1 171 5).toInt → li_T l Z YX2_explain d 95 [(5, .int x24), (4, .int x20), (3, .int x19), (2, .int x10), (0, .ref (Z.2.2 171)), (1, .int p1)] [] M30 (fun r M' => r = none ∧ li_fr (fun i => i = 171 ∨ i = 173) M0 M' ∧ ((M'.1 171 5).toInt = (M0.1 171 5).toInt)) := by
            intro  M30 hf hi
            obtain ⟨x31, ex31⟩ : ∃ y : Int32, y = x24 + 1 := ⟨_, rfl⟩
            have tx31 : (-2147483648 ≤ x24.toInt + 1 ∧ x24.toInt + 1 ≤ 2147483647) → x31.toInt = x24.toInt + 1 := tl_add ex31
            refine li_iinc 0 [(5, .int x31), (4, .int x20), (3, .int x19), (2, .int x10), (0, .ref (Z.2.2 171)), (1, .int p1)] x31 dX2_explain_95 rfl (by rw [ex31]; rfl) (by decide) rfl ?_
            refine li_goto 60 dX2_explain_98 (by decide) ?_
            refine li_pick [0, 1, 2, 3, 4, 5] [(5, .int x31), (4, .int x20), (3, .int x19), (2, .int x10), (0, .ref (Z.2.2 171)), (1, .int p1)] rfl ?_
            exact ih60 x31 M30 (by have h9 := li_up (li_gt c26); rw [← ex31] at h9; omega) hf (by omega)
          refine li_if_ne 95 dX2_explain_74 (by decide) (fun c29 => ?_) (fun c29 => ?_)
          · have tc29 : ¬ x28.toInt = 0 := tl_ne c29
            refine li_pick [0, 1, 2, 3, 4, 5] [(5, .int x24), (4, .int x20), (3, .int x19), (2, .int x10), (0, .ref (Z.2.2 171)), (1, .int p1)] rfl ?_
            exact J95  M25 hf (by omega)
          · have tc29 : x28.toInt = 0 := tl_eq c29
            refine li_aload_n 4 dX2_explain_77 rfl ?_
            refine li_iload 0 dX2_explain_78 rfl ?_
            refine li_iload_n 2 dX2_explain_80 rfl ?_
            refine li_iload 1 dX2_explain_81 rfl ?_
            refine li_callV (n := 3) (As := [.int x24, .int x19, .int x20]) dX2_explain_83 (k_X2_canCost (d - 1) (by omega) x24 x19 x20 M25) (by omega) (Nat.le_of_ble_eq_true rfl) w_1186 w_1188 w_32 w_111 w_1189 (by decide +kernel) rfl (by decide) sh_171 rfl rfl (Nat.le_of_ble_eq_true rfl) (fun r M33 h34 => ?_)
            obtain ⟨⟨x32, rfl, bx32⟩, h34⟩ := h34
            have ux32 := tl_b bx32
            have hf := li_fr_trans hf h34 (fun i (h : i = 173) => (show i = 171 ∨ i = 173 by omega))
            have mM33_171_5 : (M33.1 171 5).toInt = (M25.1 171 5).toInt := by rw [h34.1 171 (show ¬ (171 = 173) by omega)]
            refine li_if_eq 95 dX2_explain_86 (by decide) (fun c35 => ?_) (fun c35 => ?_)
            · have tc35 : x32.toInt = 0 := tl_eq c35
              refine li_pick [0, 1, 2, 3, 4, 5] [(5, .int x24), (4, .int x20), (3, .int x19), (2, .int x10), (0, .ref (Z.2.2 171)), (1, .int p1)] rfl ?_
              exact J95  M33 hf (by omega)
            · have tc35 : ¬ x32.toInt = 0 := tl_ne c35
              refine li_aload_n 4 dX2_explain_89 rfl ?_
              refine li_iload 0 dX2_explain_90 rfl ?_
              refine li_callV (n := 1) (As := [.int x24]) dX2_explain_92 (k6_X2_countSet (d - 1) (by omega) x24 M33) (by omega) (Nat.le_of_ble_eq_true rfl) w_1210 w_1212 w_37 w_111 w_1213 (by decide +kernel) rfl (by decide) sh_171 rfl rfl (Nat.le_of_ble_eq_true rfl) (fun r M37 h38 => ?_)
              obtain ⟨rfl, h38, nM37⟩ := h38
              have hf := li_fr_trans hf h38 (fun i (h : i = 171) => (show i = 171 ∨ i = 173 by omega))
              refine li_pick [0, 1, 2, 3, 4, 5] [(5, .int x24), (4, .int x20), (3, .int x19), (2, .int x10), (0, .ref (Z.2.2 171)), (1, .int p1)] rfl ?_
              exact J95  M37 hf (by omega)
    have z0 : (0 : Int32).toInt = 0 := rfl
    exact L60 _ 0 M21 (Nat.lt_succ_self _) hf (by omega)
  · have tc23 : x20.toInt = 0 := tl_eq c23
    exact li_vret dX2_explain_56 rfl ⟨rfl, hf, (by omega)⟩
set_option maxRecDepth 100000 in
set_option maxHeartbeats 4000000 in
theorem k6_X11_spoke {l : Launch} {Z : li_Z} (d : Nat) (hd : 7 ≤ d) (p1 : Int32) (M0 : li_M) : li_Met l Z YX11_spoke d [.ref (Z.2.2 0), .int p1] M0 (fun r M' => (∃ x : Int32, r = some (.int x) ∧ ((M'.1 171 5).toInt = (M0.1 171 5).toInt)) ∧ li_fr (fun i => i = 146 ∨ i = 147 ∨ i = 149 ∨ i = 150 ∨ i = 171 ∨ i = 173 ∨ i = 3 ∨ i = 4) M0 M') := by
  refine li_enter (by decide +kernel) (Nat.le_of_ble_eq_true rfl) ?_
  show li_T l Z YX11_spoke d 0 [(0, .ref (Z.2.2 0)), (1, .int p1)] [] M0 _
  have hf : li_fr (fun i => i = 146 ∨ i = 147 ∨ i = 149 ∨ i = 150 ∨ i = 171 ∨ i = 173 ∨ i = 3 ∨ i = 4) M0 M0 := li_fr_refl
  have gp1 := tl_rg p1
  refine li_aload_n 0 dX11_spoke_0 rfl ?_
  refine li_getr (k := 2) (N := 13) (T := TX11) (C0 := RX11) dX11_spoke_1 (by decide) sh_0 rfl rfl (by decide) (by decide) li_in11 w_475 ?_
  refine li_iload_n 1 dX11_spoke_4 rfl ?_
  refine li_callV (n := 1) (As := [.int p1]) dX11_spoke_5 (k6_X8_hasPerson (d - 1) (by omega) p1 M0) (by omega) (Nat.le_of_ble_eq_true rfl) w_758 w_759 w_760 w_104 w_761 (by decide +kernel) rfl (by decide) sh_5 rfl rfl (Nat.le_of_ble_eq_true rfl) (fun r M2 h3 => ?_)
  obtain ⟨⟨x1, rfl, bx1, qx1⟩, h3⟩ := h3
  have ux1 := tl_b bx1
  have hf := li_fr_trans hf h3 (fun i h => False.elim h)
  have mM2_171_5 : (M2.1 171 5).toInt = (M0.1 171 5).toInt := by rw [h3.1 171 id]
  refine li_if_ne 13 dX11_spoke_8 (by decide) (fun c4 => ?_) (fun c4 => ?_)
  · have tc4 : ¬ x1.toInt = 0 := tl_ne c4
    refine li_aload_n 0 dX11_spoke_13 rfl ?_
    refine li_getr (k := 11) (N := 13) (T := TX11) (C0 := RX11) dX11_spoke_14 (by decide) sh_0 rfl rfl (by decide) (by decide) li_in11 w_484 ?_
    refine li_geti (k := 5) (N := 9) (T := TX2) (C0 := RX2) dX11_spoke_17 (by decide) sh_171 rfl rfl (by decide) li_in2 w_447 ?_
    refine li_top (fun x5 ex5 => ?_)
    have gx5 := tl_rg x5
    have vx5 : x5.toInt = (M2.1 171 5).toInt := tl_eq ex5
    refine li_iload_n 1 dX11_spoke_20 rfl ?_
    refine li_callS (n := 2) (As := [.int x5, .int p1]) dX11_spoke_21 (k_X11_holds (d - 1) (by omega) x5 p1 M2) (by omega) (Nat.le_of_ble_eq_true rfl) w_856 w_857 w_101 w_858 (by decide +kernel) rfl rfl (Nat.le_of_ble_eq_true rfl) (fun r M7 h8 => ?_)
    obtain ⟨⟨x6, rfl, bx6⟩, h8⟩ := h8
    have ux6 := tl_b bx6
    have hf := li_fr_trans hf h8 (fun i h => False.elim h)
    have mM7_171_5 : (M7.1 171 5).toInt = (M2.1 171 5).toInt := by rw [h8.1 171 id]
    refine li_if_ne 30 dX11_spoke_24 (by decide) (fun c9 => ?_) (fun c9 => ?_)
    · have tc9 : ¬ x6.toInt = 0 := tl_ne c9
      refine li_aload_n 0 dX11_spoke_30 rfl ?_
      refine li_getr (k := 7) (N := 13) (T := TX11) (C0 := RX11) dX11_spoke_31 (by decide) sh_0 rfl rfl (by decide) (by decide) li_in11 w_480 ?_
      refine li_callV (n := 0) (As := []) dX11_spoke_34 (k_X0_fill (d - 1) (by omega) cob_148 M7) (by omega) (Nat.le_of_ble_eq_true rfl) w_988 w_989 w_990 w_109 w_991 (by decide +kernel) rfl (by decide) sh_148 rfl rfl (Nat.le_of_ble_eq_true rfl) (fun r M11 h12 => ?_)
      obtain ⟨rfl, h12⟩ := h12
      have hf := li_fr_trans hf h12 (fun i (h : i = 149 ∨ i = 150 ∨ i = 146 ∨ i = 147) => (show i = 146 ∨ i = 147 ∨ i = 149 ∨ i = 150 ∨ i = 171 ∨ i = 173 ∨ i = 3 ∨ i = 4 by omega))
      have mM11_171_5 : (M11.1 171 5).toInt = (M7.1 171 5).toInt := by rw [h12.1 171 (show ¬ (171 = 149 ∨ 171 = 150 ∨ 171 = 146 ∨ 171 = 147) by omega)]
      refine li_aload_n 0 dX11_spoke_37 rfl ?_
      refine li_getr (k := 11) (N := 13) (T := TX11) (C0 := RX11) dX11_spoke_38 (by decide) sh_0 rfl rfl (by decide) (by decide) li_in11 w_484 ?_
      refine li_iload_n 1 dX11_spoke_41 rfl ?_
      refine li_callV (n := 1) (As := [.int p1]) dX11_spoke_42 (k6_X2_explain (d - 1) (by omega) p1 M11) (by omega) (Nat.le_of_ble_eq_true rfl) w_1177 w_1178 w_1179 w_111 w_1180 (by decide +kernel) rfl (by decide) sh_171 rfl rfl (Nat.le_of_ble_eq_true rfl) (fun r M14 h15 => ?_)
      obtain ⟨rfl, h15, nM14⟩ := h15
      have hf := li_fr_trans hf h15 (fun i (h : i = 171 ∨ i = 173) => (show i = 146 ∨ i = 147 ∨ i = 149 ∨ i = 150 ∨ i = 171 ∨ i = 173 ∨ i = 3 ∨ i = 4 by omega))
      refine li_aload_n 0 dX11_spoke_45 rfl ?_
      refine li_getr (k := 1) (N := 13) (T := TX11) (C0 := RX11) dX11_spoke_46 (by decide) sh_0 rfl rfl (by decide) (by decide) li_in11 w_474 ?_
      refine li_aload_n 0 dX11_spoke_49 rfl ?_
      refine li_getr (k := 11) (N := 13) (T := TX11) (C0 := RX11) dX11_spoke_50 (by decide) sh_0 rfl rfl (by decide) (by decide) li_in11 w_484 ?_
      refine li_geti (k := 7) (N := 9) (T := TX2) (C0 := RX2) dX11_spoke_53 (by decide) sh_171 rfl rfl (by decide) li_in2 w_451 ?_
      refine li_top (fun x16 ex16 => ?_)
      have gx16 := tl_rg x16
      refine li_aload_n 0 dX11_spoke_56 rfl ?_
      refine li_getr (k := 11) (N := 13) (T := TX11) (C0 := RX11) dX11_spoke_57 (by decide) sh_0 rfl rfl (by decide) (by decide) li_in11 w_484 ?_
      refine li_geti (k := 8) (N := 9) (T := TX2) (C0 := RX2) dX11_spoke_60 (by decide) sh_171 rfl rfl (by decide) li_in2 w_453 ?_
      refine li_top (fun x17 ex17 => ?_)
      have gx17 := tl_rg x17
      refine li_callV (n := 2) (As := [.int x16, .int x17]) dX11_spoke_63 (k_X5_tellTwo (d - 1) (by omega) x16 x17 M14) (by omega) (Nat.le_of_ble_eq_true rfl) w_951 w_952 w_953 w_103 w_954 (by decide +kernel) rfl (by decide) sh_3 rfl rfl (Nat.le_of_ble_eq_true rfl) (fun r M19 h20 => ?_)
      obtain ⟨rfl, h20⟩ := h20
      have hf := li_fr_trans hf h20 (fun i (h : i = 3 ∨ i = 4) => (show i = 146 ∨ i = 147 ∨ i = 149 ∨ i = 150 ∨ i = 171 ∨ i = 173 ∨ i = 3 ∨ i = 4 by omega))
      have mM19_171_5 : (M19.1 171 5).toInt = (M14.1 171 5).toInt := by rw [h20.1 171 (show ¬ (171 = 3 ∨ 171 = 4) by omega)]
      refine li_aload_n 0 dX11_spoke_66 rfl ?_
      refine li_getr (k := 11) (N := 13) (T := TX11) (C0 := RX11) dX11_spoke_67 (by decide) sh_0 rfl rfl (by decide) (by decide) li_in11 w_484 ?_
      refine li_geti (k := 6) (N := 9) (T := TX2) (C0 := RX2) dX11_spoke_70 (by decide) sh_171 rfl rfl (by decide) li_in2 w_449 ?_
      refine li_top (fun x21 ex21 => ?_)
      have gx21 := tl_rg x21
      exact li_iret dX11_spoke_73 rfl rfl ⟨⟨_, rfl, (by omega)⟩, hf⟩
    · have tc9 : x6.toInt = 0 := tl_eq c9
      refine li_bipush (-2) dX11_spoke_27 (by decide) ?_
      have zm2 : ((-2) : Int32).toInt = -2 := rfl
      exact li_iret dX11_spoke_29 rfl rfl ⟨⟨_, rfl, (by omega)⟩, hf⟩
  · have tc4 : x1.toInt = 0 := tl_eq c4
    refine li_iconst (-1) dX11_spoke_11 (by decide) ?_
    have zm1 : ((-1) : Int32).toInt = -1 := rfl
    exact li_iret dX11_spoke_12 rfl rfl ⟨⟨_, rfl, (by omega)⟩, hf⟩
set_option maxRecDepth 100000 in
set_option maxHeartbeats 4000000 in
theorem k6_X12_read {l : Launch} {Z : li_Z} (d : Nat) (hd : 3 ≤ d) (p1 p2 : Int32) (M0 : li_M) (hJ : li_J M0) : li_Met l Z YX12_read d [.ref (Z.2.2 175), .int p1, .int p2] M0 (fun r M' => (∃ x : Int32, r = some (.int x) ∧ ((x.toInt = -1 ∧ ¬ (0 ≤ p1.toInt ∧ p1.toInt < (M0.1 175 1).toInt ∧ 0 ≤ p2.toInt ∧ p2.toInt ≤ 9999) ∧ (M'.1 175 43).toInt = (M0.1 175 43).toInt) ∨ ((0 ≤ p1.toInt ∧ p1.toInt < (M0.1 175 1).toInt ∧ 0 ≤ p2.toInt ∧ p2.toInt ≤ 9999) ∧ x.toInt = (li_bc (li_rb (M0.1 175 43) p1)).toInt ∧ (M'.1 175 43).toInt = (li_rb (M0.1 175 43) p1).toInt))) ∧ li_fs (fun i k => i = 197 ∨ (i = 175 ∧ k = 10) ∨ (i = 175 ∧ k = 43)) M0 M' ∧ li_J M') := by
  refine li_enter (by decide +kernel) (Nat.le_of_ble_eq_true rfl) ?_
  show li_T l Z YX12_read d 0 [(0, .ref (Z.2.2 175)), (1, .int p1), (2, .int p2)] [] M0 _
  have hf : li_fs (fun i k => i = 197 ∨ (i = 175 ∧ k = 10) ∨ (i = 175 ∧ k = 43)) M0 M0 := li_fs_refl
  have gp1 := tl_rg p1
  have gp2 := tl_rg p2
  have rM0_1 := J_sl1 (M := M0) hJ
  refine li_aload_n 0 dX12_read_0 rfl ?_
  refine li_iconst 0 dX12_read_1 (by decide) ?_
  refine li_puti (k := 10) (N := 52) (T := TX12) (C0 := RX12) dX12_read_2 (by decide) sh_175 rfl rfl (by decide) li_in12 tyX12_ok nmX12 rfl rfl rfl rfl w_1414 ?_
  refine li_nm (fun M1 eM1 => ?_)
  have hf := li_fs_ui hf (Or.inr (Or.inl ⟨rfl, rfl⟩)) eM1
  have z0 : (0 : Int32).toInt = 0 := rfl
  have hJ := hJ.put (k := 10) (by decide) (rg_free rfl) eM1
  have rM1_1 := J_sl1 (M := M1) hJ
  have mM1_1 : (M1.1 175 1).toInt = (M0.1 175 1).toInt := by rw [eM1, li_ui_at, if_pos rfl, if_neg (by decide)]
  have mM1_43 : (M1.1 175 43).toInt = (M0.1 175 43).toInt := by rw [eM1, li_ui_at, if_pos rfl, if_neg (by decide)]
  refine li_aload_n 0 dX12_read_5 rfl ?_
  refine li_iload_n 1 dX12_read_6 rfl ?_
  refine li_callV (n := 1) (As := [.int p1]) dX12_read_7 (k_X12_isOne (d - 1) (by omega) p1 M1 hJ ) (by omega) (Nat.le_of_ble_eq_true rfl) w_1648 w_1650 w_56 w_112 w_1651 (by decide +kernel) rfl (by decide) sh_175 rfl rfl (Nat.le_of_ble_eq_true rfl) (fun r M3 h4 => ?_)
  obtain ⟨qx2, h4, jM3⟩ := h4
  have hf := li_fs_trans hf h4 (fun i k h => False.elim h)
  have hJ := jM3
  have rM3_1 := J_sl1 (M := M3) hJ
  have mM3_1 : (M3.1 175 1).toInt = (M1.1 175 1).toInt := tl_slot (h4.1 175 1 id)
  have mM3_43 : (M3.1 175 43).toInt = (M1.1 175 43).toInt := tl_slot (h4.1 175 43 id)
  rcases qx2 with ⟨rfl, qx2⟩ | ⟨rfl, qx2⟩
  · skip
    refine li_if_eq 24 dX12_read_10 (by decide) (fun c => absurd c (by decide)) (fun c => ?_)
    refine li_iload_n 2 dX12_read_13 rfl ?_
    refine li_iconst 0 dX12_read_14 (by decide) ?_
    refine li_sipush 9999 dX12_read_15 (by decide) ?_
    have z0 : (0 : Int32).toInt = 0 := rfl
    have z9999 : (9999 : Int32).toInt = 9999 := rfl
    refine li_callS (n := 3) (As := [.int p2, .int 0, .int 9999]) dX12_read_18 (k_X12_in (d - 1) (by omega) p2 0 9999 M3 hJ ) (by omega) (Nat.le_of_ble_eq_true rfl) w_1570 w_1571 w_112 w_1572 (by decide +kernel) rfl rfl (Nat.le_of_ble_eq_true rfl) (fun r M7 h8 => ?_)
    obtain ⟨qx6, h8, jM7⟩ := h8
    have hf := li_fs_trans hf h8 (fun i k h => False.elim h)
    have hJ := jM7
    have rM7_1 := J_sl1 (M := M7) hJ
    have mM7_1 : (M7.1 175 1).toInt = (M3.1 175 1).toInt := tl_slot (h8.1 175 1 id)
    have mM7_43 : (M7.1 175 43).toInt = (M3.1 175 43).toInt := tl_slot (h8.1 175 43 id)
    rcases qx6 with ⟨rfl, qx6⟩ | ⟨rfl, qx6⟩
    · skip
      refine li_if_ne 26 dX12_read_21 (by decide) (fun c => ?_) (fun c => absurd c (by decide))
      refine li_aload_n 0 dX12_read_26 rfl ?_
      refine li_getr (k := 42) (N := 52) (T := TX12) (C0 := RX12) dX12_read_27 (by decide) sh_175 rfl rfl (by decide) (by decide) li_in12 w_1446 ?_
      refine li_iload_n 1 dX12_read_30 rfl ?_
      refine li_iload_n 2 dX12_read_31 rfl ?_
      refine li_iast dX12_read_32 (by decide) sh_197 (tl_in (by omega)) ?_
      refine li_nm (fun M10 eM10 => ?_)
      have hf := li_fs_ui hf (Or.inl rfl) eM10
      have hJ := hJ.st (by decide) (li_el_free (by unfold li_led; omega) (by decide) (by decide) (by unfold li_rq; omega)) eM10
      have rM10_1 := J_sl1 (M := M10) hJ
      have mM10_1 : (M10.1 175 1).toInt = (M7.1 175 1).toInt := by rw [eM10, li_ui_at, if_neg (by decide)]
      have mM10_43 : (M10.1 175 43).toInt = (M7.1 175 43).toInt := by rw [eM10, li_ui_at, if_neg (by decide)]
      refine li_aload_n 0 dX12_read_33 rfl ?_
      refine li_dup dX12_read_34 rfl ?_
      refine li_geti (k := 43) (N := 52) (T := TX12) (C0 := RX12) dX12_read_35 (by decide) sh_175 rfl rfl (by decide) li_in12 w_1447 ?_
      refine li_top (fun x11 ex11 => ?_)
      have gx11 := tl_rg x11
      have mx11 : x11.toInt = (M10.1 175 43).toInt := tl_slot ex11
      refine li_iconst 1 dX12_read_38 (by decide) ?_
      refine li_iload_n 1 dX12_read_39 rfl ?_
      refine li_ishl dX12_read_40 ?_
      refine li_top (fun x12 ex12 => ?_)
      have z1 : (1 : Int32).toInt = 1 := rfl
      try (have tx12 := tl_shl255 ex12 (by omega))
      refine li_ior dX12_read_41 ?_
      refine li_top (fun x13 ex13 => ?_)
      try (have tx13 := tl_or255 ex13 (by omega) (by omega))
      refine li_puti (k := 43) (N := 52) (T := TX12) (C0 := RX12) dX12_read_42 (by decide) sh_175 rfl rfl (by decide) li_in12 tyX12_ok nmX12 rfl rfl rfl rfl w_1447 ?_
      refine li_nm (fun M14 eM14 => ?_)
      have hf := li_fs_ui hf (Or.inr (Or.inr (⟨rfl, rfl⟩))) eM14
      have hJ := hJ.put (k := 43) (by decide) (rg_free rfl) eM14
      have rM14_1 := J_sl1 (M := M14) hJ
      have mM14_1 : (M14.1 175 1).toInt = (M10.1 175 1).toInt := by rw [eM14, li_ui_at, if_pos rfl, if_neg (by decide)]
      have mM14_43 : (M14.1 175 43).toInt = x13.toInt := by rw [eM14, li_ui_at, if_pos rfl, if_pos rfl]
      have nb : (M14.1 175 43).toInt = (li_rb (M0.1 175 43) p1).toInt := by rw [mM14_43, ex13, ex12, show x11 = M0.1 175 43 from Int32.toInt_inj.mp (by omega)]; rfl
      refine li_aload_n 0 dX12_read_45 rfl ?_
      refine li_geti (k := 43) (N := 52) (T := TX12) (C0 := RX12) dX12_read_46 (by decide) sh_175 rfl rfl (by decide) li_in12 w_1447 ?_
      refine li_top (fun x15 ex15 => ?_)
      have gx15 := tl_rg x15
      have mx15 : x15.toInt = (M14.1 175 43).toInt := tl_slot ex15
      refine li_callS (n := 1) (As := [.int x15]) dX12_read_49 (j6_J6_bitCount (d - 1) (by omega) x15 M14 hJ) (by omega) (Nat.le_of_ble_eq_true rfl) w_1696 w_822 w_123 w_823 (by decide +kernel) rfl rfl (Nat.le_of_ble_eq_true rfl) (fun r M17 h18 => ?_)
      obtain ⟨⟨x16, rfl, qx16⟩, h18, jM17⟩ := h18
      have gx16 := tl_rg x16
      have hf := li_fs_trans hf h18 (fun i k h => False.elim h)
      have hJ := jM17
      have rM17_1 := J_sl1 (M := M17) hJ
      have mM17_1 : (M17.1 175 1).toInt = (M14.1 175 1).toInt := tl_slot (h18.1 175 1 id)
      have mM17_43 : (M17.1 175 43).toInt = (M14.1 175 43).toInt := tl_slot (h18.1 175 43 id)
      have nc : x16.toInt = (li_bc (li_rb (M0.1 175 43) p1)).toInt := by rw [← show x15 = (li_rb (M0.1 175 43) p1) from Int32.toInt_inj.mp (by omega)]; exact qx16
      exact li_iret dX12_read_52 rfl rfl ⟨⟨_, rfl, (by omega)⟩, hf, hJ⟩
    · skip
      refine li_if_ne 26 dX12_read_21 (by decide) (fun c => absurd rfl c) (fun c => ?_)
      refine li_iconst (-1) dX12_read_24 (by decide) ?_
      have zm1 : ((-1) : Int32).toInt = -1 := rfl
      exact li_iret dX12_read_25 rfl rfl ⟨⟨_, rfl, (by omega)⟩, hf, hJ⟩
  · skip
    refine li_if_eq 24 dX12_read_10 (by decide) (fun c => ?_) (fun c => absurd rfl c)
    refine li_iconst (-1) dX12_read_24 (by decide) ?_
    have zm1 : ((-1) : Int32).toInt = -1 := rfl
    exact li_iret dX12_read_25 rfl rfl ⟨⟨_, rfl, (by omega)⟩, hf, hJ⟩
set_option maxRecDepth 100000 in
set_option maxHeartbeats 4000000 in
theorem k6_X12_forget {l : Launch} {Z : li_Z} (d : Nat) (hd : 2 ≤ d) (M0 : li_M) (hJ : li_J M0) : li_Met l Z YX12_forget d [.ref (Z.2.2 175)] M0 (fun r M' => (∃ x : Int32, r = some (.int x) ∧ (x.toInt = (li_bc (M0.1 175 43)).toInt ∧ (M'.1 175 43).toInt = 0)) ∧ li_fs (fun i k => (i = 175 ∧ k = 10) ∨ (i = 175 ∧ k = 43)) M0 M' ∧ li_J M') := by
  refine li_enter (by decide +kernel) (Nat.le_of_ble_eq_true rfl) ?_
  show li_T l Z YX12_forget d 0 [(0, .ref (Z.2.2 175))] [] M0 _
  have hf : li_fs (fun i k => (i = 175 ∧ k = 10) ∨ (i = 175 ∧ k = 43)) M0 M0 := li_fs_refl
  refine li_aload_n 0 dX12_forget_0 rfl ?_
  refine li_iconst 0 dX12_forget_1 (by decide) ?_
  refine li_puti (k := 10) (N := 52) (T := TX12) (C0 := RX12) dX12_forget_2 (by decide) sh_175 rfl rfl (by decide) li_in12 tyX12_ok nmX12 rfl rfl rfl rfl w_1414 ?_
  refine li_nm (fun M1 eM1 => ?_)
  have hf := li_fs_ui hf (Or.inl ⟨rfl, rfl⟩) eM1
  have z0 : (0 : Int32).toInt = 0 := rfl
  have hJ := hJ.put (k := 10) (by decide) (rg_free rfl) eM1
  have mM1_43 : (M1.1 175 43).toInt = (M0.1 175 43).toInt := by rw [eM1, li_ui_at, if_pos rfl, if_neg (by decide)]
  refine li_aload_n 0 dX12_forget_5 rfl ?_
  refine li_geti (k := 43) (N := 52) (T := TX12) (C0 := RX12) dX12_forget_6 (by decide) sh_175 rfl rfl (by decide) li_in12 w_1447 ?_
  refine li_top (fun x2 ex2 => ?_)
  have gx2 := tl_rg x2
  have mx2 : x2.toInt = (M1.1 175 43).toInt := tl_slot ex2
  refine li_callS (n := 1) (As := [.int x2]) dX12_forget_9 (j6_J6_bitCount (d - 1) (by omega) x2 M1 hJ) (by omega) (Nat.le_of_ble_eq_true rfl) w_1696 w_822 w_123 w_823 (by decide +kernel) rfl rfl (Nat.le_of_ble_eq_true rfl) (fun r M4 h5 => ?_)
  obtain ⟨⟨x3, rfl, qx3⟩, h5, jM4⟩ := h5
  have gx3 := tl_rg x3
  have hf := li_fs_trans hf h5 (fun i k h => False.elim h)
  have hJ := jM4
  have mM4_43 : (M4.1 175 43).toInt = (M1.1 175 43).toInt := tl_slot (h5.1 175 43 id)
  have nc : x3.toInt = (li_bc (M0.1 175 43)).toInt := by rw [← show x2 = (M0.1 175 43) from Int32.toInt_inj.mp (by omega)]; exact qx3
  refine li_istore_n [(1, .int x3), (0, .ref (Z.2.2 175))] dX12_forget_12 (by decide) rfl ?_
  refine li_aload_n 1 dX12_forget_13 rfl ?_
  refine li_iconst 0 dX12_forget_14 (by decide) ?_
  refine li_puti (k := 43) (N := 52) (T := TX12) (C0 := RX12) dX12_forget_15 (by decide) sh_175 rfl rfl (by decide) li_in12 tyX12_ok nmX12 rfl rfl rfl rfl w_1447 ?_
  refine li_nm (fun M6 eM6 => ?_)
  have hf := li_fs_ui hf (Or.inr (⟨rfl, rfl⟩)) eM6
  have z0 : (0 : Int32).toInt = 0 := rfl
  have hJ := hJ.put (k := 43) (by decide) (rg_free rfl) eM6
  have mM6_43 : (M6.1 175 43).toInt = 0 := by rw [eM6, li_ui_at, if_pos rfl, if_pos rfl]; rfl
  refine li_iload_n 0 dX12_forget_18 rfl ?_
  exact li_iret dX12_forget_19 rfl rfl ⟨⟨_, rfl, (by omega)⟩, hf, hJ⟩
