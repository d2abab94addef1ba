
set_option maxRecDepth 100000 in
set_option maxHeartbeats 4000000 in
theorem k10_X8_readTwo {l : Launch} {Z : li_Z} (d : Nat) (hdZq : 3 ≤ d) (p1Zq : Int32) (M0 : li_M) (h1 : 0 ≤ (M0.1 1 2).toInt ∧ (M0.1 1 2).toInt ≤ (M0.1 1 1).toInt ∧ (M0.1 1 1).toInt ≤ 80) (Psg_M0 : li_sg (M0.1 2)) (hP5 : 0 ≤ (M0.1 5 0).toInt ∧ (M0.1 5 0).toInt ≤ 6) : li_Met l Z YX8_readTwo d [.ref (Z.2.2 5), .ref (Z.2.2 1), .int p1Zq] M0 (fun r M' => (∃ x : Int32, r = some (.int x) ∧ (x = 0 ∨ x = 1) ∧ (((x.toInt = 1 ∧ ((97 ≤ rd_ch (M0.1 2) ((M0.1 1 1).toInt) ((M0.1 1 2).toInt) ∧ rd_ch (M0.1 2) ((M0.1 1 1).toInt) ((M0.1 1 2).toInt) ≤ 96 + (M0.1 5 0).toInt) ∧ (97 ≤ rd_ch (M0.1 2) ((M0.1 1 1).toInt) ((M0.1 1 2).toInt + 1) ∧ rd_ch (M0.1 2) ((M0.1 1 1).toInt) ((M0.1 1 2).toInt + 1) ≤ 96 + (M0.1 5 0).toInt) ∧ ¬ rd_ch (M0.1 2) ((M0.1 1 1).toInt) ((M0.1 1 2).toInt + 1) = rd_ch (M0.1 2) ((M0.1 1 1).toInt) ((M0.1 1 2).toInt)) ∧ (M'.1 1 2).toInt = (M0.1 1 2).toInt + 2) ∨ (x.toInt = 0 ∧ ¬ ((97 ≤ rd_ch (M0.1 2) ((M0.1 1 1).toInt) ((M0.1 1 2).toInt) ∧ rd_ch (M0.1 2) ((M0.1 1 1).toInt) ((M0.1 1 2).toInt) ≤ 96 + (M0.1 5 0).toInt) ∧ (97 ≤ rd_ch (M0.1 2) ((M0.1 1 1).toInt) ((M0.1 1 2).toInt + 1) ∧ rd_ch (M0.1 2) ((M0.1 1 1).toInt) ((M0.1 1 2).toInt + 1) ≤ 96 + (M0.1 5 0).toInt) ∧ ¬ rd_ch (M0.1 2) ((M0.1 1 1).toInt) ((M0.1 1 2).toInt + 1) = rd_ch (M0.1 2) ((M0.1 1 1).toInt) ((M0.1 1 2).toInt)))) ∧ (M'.1 1 1).toInt = (M0.1 1 1).toInt ∧ (M'.1 1 2).toInt ≤ (M0.1 1 1).toInt ∧ (M0.1 1 2).toInt ≤ (M'.1 1 2).toInt)) ∧ li_fr (fun i => i = 1 ∨ i = 8 ∨ i = 9) M0 M') := by
  refine li_enter (by decide +kernel) (Nat.le_of_ble_eq_true rfl) ?_
  show li_T l Z YX8_readTwo d 0 [(0, .ref (Z.2.2 5)), (1, .ref (Z.2.2 1)), (2, .int p1Zq)] [] M0 _
  have hf : li_fr (fun i => i = 1 ∨ i = 8 ∨ i = 9) M0 M0 := li_fr_refl
  have gp1 := tl_rg p1Zq
  refine li_aload_n 1 dX8_readTwo_0 rfl ?_
  refine li_bipush 97 dX8_readTwo_1 (by decide) ?_
  refine li_aload_n 0 dX8_readTwo_3 rfl ?_
  refine li_geti (k := 0) (N := 9) (T := TX8) (C0 := RX8) dX8_readTwo_4 (by decide) sh_5 rfl rfl (by decide) li_in8 w_174 ?_
  refine li_top (fun x1Zq ex1 => ?_)
  have gx1 := tl_rg x1Zq
  have vx1 : x1Zq.toInt = (M0.1 5 0).toInt := tl_eq ex1
  have cp7 : rd_ch (M0.1 2) ((M0.1 1 1).toInt) ((M0.1 1 2).toInt) = rd_ch (M0.1 2) ((M0.1 1 1).toInt) ((M0.1 1 2).toInt) := by rw [show M0.1 2 = M0.1 2 from hf.1 2 (by first | exact id | decide | omega), show (M0.1 1 1).toInt = (M0.1 1 1).toInt from Int.le_antisymm (by omega) (by omega), show (M0.1 1 2).toInt = (M0.1 1 2).toInt from Int.le_antisymm (by omega) (by omega)]
  refine li_callV (n := 2) (As := [.int 97, .int x1Zq]) dX8_readTwo_7 (k7_X7_takeOneOf (d - 1) (by omega) 97 x1Zq M0 (by omega) Psg_M0 (by first | decide | omega) ⟨by omega, by omega⟩) (by omega) (Nat.le_of_ble_eq_true rfl) w_687 w_659 w_660 w_102 w_661 (by decide +kernel) rfl (by decide) sh_1 rfl rfl (Nat.le_of_ble_eq_true rfl) (fun r M3Zq h4 => ?_)
  have z97 : (97 : Int32).toInt = 97 := rfl
  obtain ⟨⟨x2Zq, rfl, qx2⟩, h4⟩ := h4
  have gx2 := tl_rg x2Zq
  have hf := li_fr_trans hf h4 (fun i (hZq : i = 1) => (show i = 1 ∨ i = 8 ∨ i = 9 by omega))
  have mM3_5_0 : (M3Zq.1 5 0).toInt = (M0.1 5 0).toInt := by rw [h4.1 5 (show ¬ (5 = 1) by omega)]
  have Psg_M3 : li_sg (M3Zq.1 2)  := li_sg_tr (h4.1 2 (fun hZq => by first | exact (hZq : False).elim | omega))  Psg_M0
  have ln7 : (M3Zq.1 1 1).toInt = (M0.1 1 1).toInt := qx2.2.trans (Int.le_antisymm (by omega) (by omega))
  have qy7 : 0 ≤ x2Zq.toInt → (97 ≤ rd_ch (M0.1 2) ((M0.1 1 1).toInt) ((M0.1 1 2).toInt) ∧ rd_ch (M0.1 2) ((M0.1 1 1).toInt) ((M0.1 1 2).toInt) ≤ 96 + (M0.1 5 0).toInt) ∧ (M3Zq.1 1 2).toInt = (M0.1 1 2).toInt + 1 ∧ (M0.1 1 2).toInt < (M0.1 1 1).toInt ∧ x2Zq.toInt = rd_ch (M0.1 2) ((M0.1 1 1).toInt) ((M0.1 1 2).toInt) - 97 := fun h9 => by rcases qx2.1 with c | c; exact ⟨⟨by omega, by omega⟩, c.2.2.2.1, by omega, by omega⟩; exact absurd h9 (by omega)
  have qn7 : x2Zq.toInt < 0 → ¬ (97 ≤ rd_ch (M0.1 2) ((M0.1 1 1).toInt) ((M0.1 1 2).toInt) ∧ rd_ch (M0.1 2) ((M0.1 1 1).toInt) ((M0.1 1 2).toInt) ≤ 96 + (M0.1 5 0).toInt) ∧ (M3Zq.1 1 2).toInt = (M0.1 1 2).toInt := fun h9 => by rcases qx2.1 with c | c; exact absurd h9 (by omega); exact ⟨fun h8 => c.1 ⟨by omega, by omega⟩, c.2.2⟩
  clear qx2
  refine li_istore_n [(3, .int x2Zq), (0, .ref (Z.2.2 5)), (1, .ref (Z.2.2 1)), (2, .int p1Zq)] dX8_readTwo_10 (by decide) rfl ?_
  refine li_iload_n 0 dX8_readTwo_11 rfl ?_
  refine li_if_ge 17 dX8_readTwo_12 (by decide) (fun c5Zq => ?_) (fun c5Zq => ?_)
  · have tc5 : 0 ≤ x2Zq.toInt := tl_le c5Zq
    have f0Zq := qy7 (by omega)
    clear qy7 qn7
    refine li_aload_n 2 dX8_readTwo_17 rfl ?_
    refine li_bipush 97 dX8_readTwo_18 (by decide) ?_
    refine li_aload_n 1 dX8_readTwo_20 rfl ?_
    refine li_geti (k := 0) (N := 9) (T := TX8) (C0 := RX8) dX8_readTwo_21 (by decide) sh_5 rfl rfl (by decide) li_in8 w_174 ?_
    refine li_top (fun x6 ex6 => ?_)
    have gx6 := tl_rg x6
    have vx6 : x6.toInt = (M3Zq.1 5 0).toInt := tl_eq ex6
    have cp24 : rd_ch (M3Zq.1 2) ((M3Zq.1 1 1).toInt) ((M3Zq.1 1 2).toInt) = rd_ch (M0.1 2) ((M0.1 1 1).toInt) ((M0.1 1 2).toInt + 1) := by rw [show M3Zq.1 2 = M0.1 2 from hf.1 2 (by first | exact id | decide | omega), show (M3Zq.1 1 1).toInt = (M0.1 1 1).toInt from Int.le_antisymm (by omega) (by omega), show (M3Zq.1 1 2).toInt = (M0.1 1 2).toInt + 1 from Int.le_antisymm (by omega) (by omega)]
    refine li_callV (n := 2) (As := [.int 97, .int x6]) dX8_readTwo_24 (k7_X7_takeOneOf (d - 1) (by omega) 97 x6 M3Zq (by omega) Psg_M3 (by first | decide | omega) ⟨by omega, by omega⟩) (by omega) (Nat.le_of_ble_eq_true rfl) w_687 w_659 w_660 w_102 w_661 (by decide +kernel) rfl (by decide) sh_1 rfl rfl (Nat.le_of_ble_eq_true rfl) (fun r M8Zq h9 => ?_)
    have z97 : (97 : Int32).toInt = 97 := rfl
    obtain ⟨⟨x7, rfl, qx7⟩, h9⟩ := h9
    have gx7 := tl_rg x7
    have hf := li_fr_trans hf h9 (fun i (hZq : i = 1) => (show i = 1 ∨ i = 8 ∨ i = 9 by omega))
    have mM8_5_0 : (M8Zq.1 5 0).toInt = (M3Zq.1 5 0).toInt := by rw [h9.1 5 (show ¬ (5 = 1) by omega)]
    have Psg_M8 : li_sg (M8Zq.1 2)  := li_sg_tr (h9.1 2 (fun hZq => by first | exact (hZq : False).elim | omega))  Psg_M3
    have ln24 : (M8Zq.1 1 1).toInt = (M0.1 1 1).toInt := qx7.2.trans (Int.le_antisymm (by omega) (by omega))
    have qy24 : 0 ≤ x7.toInt → (97 ≤ rd_ch (M0.1 2) ((M0.1 1 1).toInt) ((M0.1 1 2).toInt + 1) ∧ rd_ch (M0.1 2) ((M0.1 1 1).toInt) ((M0.1 1 2).toInt + 1) ≤ 96 + (M0.1 5 0).toInt) ∧ (M8Zq.1 1 2).toInt = (M3Zq.1 1 2).toInt + 1 ∧ (M3Zq.1 1 2).toInt < (M0.1 1 1).toInt ∧ x7.toInt = rd_ch (M0.1 2) ((M0.1 1 1).toInt) ((M0.1 1 2).toInt + 1) - 97 := fun h9 => by rcases qx7.1 with c | c; exact ⟨⟨by omega, by omega⟩, c.2.2.2.1, by omega, by omega⟩; exact absurd h9 (by omega)
    have qn24 : x7.toInt < 0 → ¬ (97 ≤ rd_ch (M0.1 2) ((M0.1 1 1).toInt) ((M0.1 1 2).toInt + 1) ∧ rd_ch (M0.1 2) ((M0.1 1 1).toInt) ((M0.1 1 2).toInt + 1) ≤ 96 + (M0.1 5 0).toInt) ∧ (M8Zq.1 1 2).toInt = (M3Zq.1 1 2).toInt := fun h9 => by rcases qx7.1 with c | c; exact absurd h9 (by omega); exact ⟨fun h8 => c.1 ⟨by omega, by omega⟩, c.2.2⟩
    clear qx7
    refine li_istore [(4, .int x7), (3, .int x2Zq), (0, .ref (Z.2.2 5)), (1, .ref (Z.2.2 1)), (2, .int p1Zq)] dX8_readTwo_27 (by decide) rfl ?_
    refine li_iload 0 dX8_readTwo_29 rfl ?_
    refine li_if_lt 40 dX8_readTwo_31 (by decide) (fun c10Zq => ?_) (fun c10Zq => ?_)
    · have tc10 : x7.toInt < 0 := tl_lt c10Zq
      first | (have b2 : rd_ch (M0.1 2) ((M0.1 1 1).toInt) ((M0.1 1 2).toInt + 1) = rd_ch (M0.1 2) ((M0.1 1 1).toInt) ((M0.1 1 2).toInt) := by have h9 := f1Zq; exact Int.le_antisymm (by omega) (by omega)) | (have e1Zq := qn24 (by omega))
      clear qy24 qn24
      refine li_aload_n 3 dX8_readTwo_40 rfl ?_
      refine li_dup dX8_readTwo_41 rfl ?_
      refine li_geti (k := 2) (N := 3) (T := TX7) (C0 := RX7) dX8_readTwo_42 (by decide) sh_1 rfl rfl (by decide) li_in7 w_143 ?_
      refine li_top (fun x11 ex11 => ?_)
      have gx11 := tl_rg x11
      have vx11 : x11.toInt = (M8Zq.1 1 2).toInt := tl_eq ex11
      refine li_iload 0 dX8_readTwo_45 rfl ?_
      refine li_if_ge 54 dX8_readTwo_47 (by decide) (fun c12Zq => ?_) (fun c12Zq => ?_)
      · have tc12 : 0 ≤ x7.toInt := tl_le c12Zq
        refine li_iconst 1 dX8_readTwo_54 (by decide) ?_
        refine li_isub dX8_readTwo_55 ?_
        refine li_top (fun x13 ex13 => ?_)
        have tx13 : (-2147483648 ≤ x11.toInt - 1 ∧ x11.toInt - 1 ≤ 2147483647) → x13.toInt = x11.toInt - 1 := tl_sub ex13
        refine li_puti (k := 2) (N := 3) (T := TX7) (C0 := RX7) dX8_readTwo_56 (by decide) sh_1 rfl rfl (by decide) li_in7 tyX7_ok nmX7 rfl rfl rfl rfl w_143 ?_
        refine li_nm (fun M14 eM14 => ?_)
        have hf := li_fr_ui hf (show 1 = 1 ∨ 1 = 8 ∨ 1 = 9 by omega) eM14
        have mM14_1_1 : (M14.1 1 1).toInt = (M8Zq.1 1 1).toInt := by rw [eM14, li_ui_at, if_pos rfl, if_neg (by decide)]
        have mM14_1_2 : (M14.1 1 2).toInt = x13.toInt := by rw [eM14, li_ui_at, if_pos rfl, if_pos rfl]
        have mM14_5_0 : (M14.1 5 0).toInt = (M8Zq.1 5 0).toInt := by rw [eM14, li_ui_at, if_neg (by decide)]
        have Psg_M14 : li_sg (M14.1 2)  := li_sg_tr (li_cell_ui eM14 (by decide))  Psg_M8
        have k15 : M14.1 1 2 = x13 := by rw [eM14, li_ui_at, if_pos rfl, if_pos rfl]
        refine li_iconst 0 dX8_readTwo_59 (by decide) ?_
        have z0 : (0 : Int32).toInt = 0 := rfl
        exact li_iret dX8_readTwo_60 rfl (li_nz (Or.inl rfl)) ⟨⟨_, rfl, Or.inl rfl, (by first | exact ⟨Or.inl ⟨rfl, ⟨f0Zq.1, f1Zq.1, ne1⟩, Int.le_antisymm (by omega) (by omega)⟩, Int.le_antisymm (by omega) (by omega), by omega, by omega⟩ | exact ⟨Or.inr ⟨rfl, fun h9 => e0Zq.1 h9.1⟩, Int.le_antisymm (by omega) (by omega), by omega, by omega⟩ | exact ⟨Or.inr ⟨rfl, fun h9 => h9.2.2 b2⟩, Int.le_antisymm (by omega) (by omega), by omega, by omega⟩ | exact ⟨Or.inr ⟨rfl, fun h9 => e1Zq.1 h9.2.1⟩, Int.le_antisymm (by omega) (by omega), by omega, by omega⟩)⟩, hf⟩
      · have tc12 : x7.toInt < 0 := tl_nle c12Zq
        refine li_iconst 0 dX8_readTwo_50 (by decide) ?_
        refine li_goto 55 dX8_readTwo_51 (by decide) ?_
        refine li_isub dX8_readTwo_55 ?_
        refine li_top (fun x16 ex16 => ?_)
        have tx16 : (-2147483648 ≤ x11.toInt - 0 ∧ x11.toInt - 0 ≤ 2147483647) → x16.toInt = x11.toInt - 0 := tl_sub ex16
        refine li_puti (k := 2) (N := 3) (T := TX7) (C0 := RX7) dX8_readTwo_56 (by decide) sh_1 rfl rfl (by decide) li_in7 tyX7_ok nmX7 rfl rfl rfl rfl w_143 ?_
        refine li_nm (fun M17 eM17 => ?_)
        have hf := li_fr_ui hf (show 1 = 1 ∨ 1 = 8 ∨ 1 = 9 by omega) eM17
        have mM17_1_1 : (M17.1 1 1).toInt = (M8Zq.1 1 1).toInt := by rw [eM17, li_ui_at, if_pos rfl, if_neg (by decide)]
        have mM17_1_2 : (M17.1 1 2).toInt = x16.toInt := by rw [eM17, li_ui_at, if_pos rfl, if_pos rfl]
        have mM17_5_0 : (M17.1 5 0).toInt = (M8Zq.1 5 0).toInt := by rw [eM17, li_ui_at, if_neg (by decide)]
        have Psg_M17 : li_sg (M17.1 2)  := li_sg_tr (li_cell_ui eM17 (by decide))  Psg_M8
        have k18 : M17.1 1 2 = x16 := by rw [eM17, li_ui_at, if_pos rfl, if_pos rfl]
        refine li_iconst 0 dX8_readTwo_59 (by decide) ?_
        have z0 : (0 : Int32).toInt = 0 := rfl
        exact li_iret dX8_readTwo_60 rfl (li_nz (Or.inl rfl)) ⟨⟨_, rfl, Or.inl rfl, (by first | exact ⟨Or.inl ⟨rfl, ⟨f0Zq.1, f1Zq.1, ne1⟩, Int.le_antisymm (by omega) (by omega)⟩, Int.le_antisymm (by omega) (by omega), by omega, by omega⟩ | exact ⟨Or.inr ⟨rfl, fun h9 => e0Zq.1 h9.1⟩, Int.le_antisymm (by omega) (by omega), by omega, by omega⟩ | exact ⟨Or.inr ⟨rfl, fun h9 => h9.2.2 b2⟩, Int.le_antisymm (by omega) (by omega), by omega, by omega⟩ | exact ⟨Or.inr ⟨rfl, fun h9 => e1Zq.1 h9.2.1⟩, Int.le_antisymm (by omega) (by omega), by omega, by omega⟩)⟩, hf⟩
    · have tc10 : 0 ≤ x7.toInt := tl_nlt c10Zq
      have f1Zq := qy24 (by omega)
      refine li_iload 0 dX8_readTwo_34 rfl ?_
      refine li_iload_n 1 dX8_readTwo_36 rfl ?_
      refine li_icmp_ne 61 dX8_readTwo_37 (by decide) (fun c19Zq => ?_) (fun c19Zq => ?_)
      · have tc19 : ¬ x7.toInt = x2Zq.toInt := tl_ne c19Zq
        have ne1 : ¬ rd_ch (M0.1 2) ((M0.1 1 1).toInt) ((M0.1 1 2).toInt + 1) = rd_ch (M0.1 2) ((M0.1 1 1).toInt) ((M0.1 1 2).toInt) := fun h9 => absurd (show (x7 : Int32).toInt = (x2Zq : Int32).toInt from Int.le_antisymm (by omega) (by omega)) (by assumption)
        refine li_aload_n 2 dX8_readTwo_61 rfl ?_
        refine li_getr (k := 4) (N := 9) (T := TX8) (C0 := RX8) dX8_readTwo_62 (by decide) sh_5 rfl rfl (by decide) (by decide) li_in8 w_188 ?_
        refine li_iload_n 4 dX8_readTwo_65 rfl ?_
        refine li_iload_n 1 dX8_readTwo_66 rfl ?_
        refine li_callN (n := 3) (As := [.ref (Z.2.2 8), .int p1Zq, .int x2Zq]) dX8_readTwo_67 (k_X11_put (d - 1) (by omega) (by decide) sh_8 (by decide) p1Zq x2Zq M8Zq) (by omega) (Nat.le_of_ble_eq_true rfl) nw_12 w_522 w_101 w_523 (by decide +kernel) rfl rfl (Nat.le_of_ble_eq_true rfl) (fun r M21 h22 => ?_)
        obtain ⟨rfl, h22⟩ := h22
        have hf := li_fr_trans hf h22 (fun i (hZq : i = 8) => (show i = 1 ∨ i = 8 ∨ i = 9 by omega))
        have mM21_1_1 : (M21.1 1 1).toInt = (M8Zq.1 1 1).toInt := by rw [h22.1 1 (show ¬ (1 = 8) by omega)]
        have mM21_1_2 : (M21.1 1 2).toInt = (M8Zq.1 1 2).toInt := by rw [h22.1 1 (show ¬ (1 = 8) by omega)]
        have mM21_5_0 : (M21.1 5 0).toInt = (M8Zq.1 5 0).toInt := by rw [h22.1 5 (show ¬ (5 = 8) by omega)]
        have Psg_M21 : li_sg (M21.1 2)  := li_sg_tr (h22.1 2 (fun hZq => by first | exact (hZq : False).elim | omega))  Psg_M8
        refine li_aload_n 2 dX8_readTwo_70 rfl ?_
        refine li_getr (k := 5) (N := 9) (T := TX8) (C0 := RX8) dX8_readTwo_71 (by decide) sh_5 rfl rfl (by decide) (by decide) li_in8 w_191 ?_
        refine li_iload_n 4 dX8_readTwo_74 rfl ?_
        refine li_iload 0 dX8_readTwo_75 rfl ?_
        refine li_callN (n := 3) (As := [.ref (Z.2.2 9), .int p1Zq, .int x7]) dX8_readTwo_77 (k_X11_put (d - 1) (by omega) (by decide) sh_9 (by decide) p1Zq x7 M21) (by omega) (Nat.le_of_ble_eq_true rfl) nw_12 w_522 w_101 w_523 (by decide +kernel) rfl rfl (Nat.le_of_ble_eq_true rfl) (fun r M24 h25 => ?_)
        obtain ⟨rfl, h25⟩ := h25
        have hf := li_fr_trans hf h25 (fun i (hZq : i = 9) => (show i = 1 ∨ i = 8 ∨ i = 9 by omega))
        have mM24_1_1 : (M24.1 1 1).toInt = (M21.1 1 1).toInt := by rw [h25.1 1 (show ¬ (1 = 9) by omega)]
        have mM24_1_2 : (M24.1 1 2).toInt = (M21.1 1 2).toInt := by rw [h25.1 1 (show ¬ (1 = 9) by omega)]
        have mM24_5_0 : (M24.1 5 0).toInt = (M21.1 5 0).toInt := by rw [h25.1 5 (show ¬ (5 = 9) by omega)]
        have Psg_M24 : li_sg (M24.1 2)  := li_sg_tr (h25.1 2 (fun hZq => by first | exact (hZq : False).elim | omega))  Psg_M21
        refine li_iconst 1 dX8_readTwo_80 (by decide) ?_
        have z1 : (1 : Int32).toInt = 1 := rfl
        exact li_iret dX8_readTwo_81 rfl (li_nz (Or.inr rfl)) ⟨⟨_, rfl, Or.inr rfl, (by first | exact ⟨Or.inl ⟨rfl, ⟨f0Zq.1, f1Zq.1, ne1⟩, Int.le_antisymm (by omega) (by omega)⟩, Int.le_antisymm (by omega) (by omega), by omega, by omega⟩ | exact ⟨Or.inr ⟨rfl, fun h9 => e0Zq.1 h9.1⟩, Int.le_antisymm (by omega) (by omega), by omega, by omega⟩ | exact ⟨Or.inr ⟨rfl, fun h9 => h9.2.2 b2⟩, Int.le_antisymm (by omega) (by omega), by omega, by omega⟩ | exact ⟨Or.inr ⟨rfl, fun h9 => e1Zq.1 h9.2.1⟩, Int.le_antisymm (by omega) (by omega), by omega, by omega⟩)⟩, hf⟩
      · have tc19 : x7.toInt = x2Zq.toInt := tl_eq c19Zq
        first | (have b2 : rd_ch (M0.1 2) ((M0.1 1 1).toInt) ((M0.1 1 2).toInt + 1) = rd_ch (M0.1 2) ((M0.1 1 1).toInt) ((M0.1 1 2).toInt) := by have h9 := f1Zq; exact Int.le_antisymm (by omega) (by omega)) | (have e1Zq := qn24 (by omega))
        clear qy24 qn24
        refine li_aload_n 3 dX8_readTwo_40 rfl ?_
        refine li_dup dX8_readTwo_41 rfl ?_
        refine li_geti (k := 2) (N := 3) (T := TX7) (C0 := RX7) dX8_readTwo_42 (by decide) sh_1 rfl rfl (by decide) li_in7 w_143 ?_
        refine li_top (fun x26 ex26 => ?_)
        have gx26 := tl_rg x26
        have vx26 : x26.toInt = (M8Zq.1 1 2).toInt := tl_eq ex26
        refine li_iload 0 dX8_readTwo_45 rfl ?_
        refine li_if_ge 54 dX8_readTwo_47 (by decide) (fun c27Zq => ?_) (fun c27Zq => ?_)
        · have tc27 : 0 ≤ x7.toInt := tl_le c27Zq
          refine li_iconst 1 dX8_readTwo_54 (by decide) ?_
          refine li_isub dX8_readTwo_55 ?_
          refine li_top (fun x28 ex28 => ?_)
          have tx28 : (-2147483648 ≤ x26.toInt - 1 ∧ x26.toInt - 1 ≤ 2147483647) → x28.toInt = x26.toInt - 1 := tl_sub ex28
          refine li_puti (k := 2) (N := 3) (T := TX7) (C0 := RX7) dX8_readTwo_56 (by decide) sh_1 rfl rfl (by decide) li_in7 tyX7_ok nmX7 rfl rfl rfl rfl w_143 ?_
          refine li_nm (fun M29 eM29 => ?_)
          have hf := li_fr_ui hf (show 1 = 1 ∨ 1 = 8 ∨ 1 = 9 by omega) eM29
          have mM29_1_1 : (M29.1 1 1).toInt = (M8Zq.1 1 1).toInt := by rw [eM29, li_ui_at, if_pos rfl, if_neg (by decide)]
          have mM29_1_2 : (M29.1 1 2).toInt = x28.toInt := by rw [eM29, li_ui_at, if_pos rfl, if_pos rfl]
          have mM29_5_0 : (M29.1 5 0).toInt = (M8Zq.1 5 0).toInt := by rw [eM29, li_ui_at, if_neg (by decide)]
          have Psg_M29 : li_sg (M29.1 2)  := li_sg_tr (li_cell_ui eM29 (by decide))  Psg_M8
          have k30 : M29.1 1 2 = x28 := by rw [eM29, li_ui_at, if_pos rfl, if_pos rfl]
          refine li_iconst 0 dX8_readTwo_59 (by decide) ?_
          have z0 : (0 : Int32).toInt = 0 := rfl
          exact li_iret dX8_readTwo_60 rfl (li_nz (Or.inl rfl)) ⟨⟨_, rfl, Or.inl rfl, (by first | exact ⟨Or.inl ⟨rfl, ⟨f0Zq.1, f1Zq.1, ne1⟩, Int.le_antisymm (by omega) (by omega)⟩, Int.le_antisymm (by omega) (by omega), by omega, by omega⟩ | exact ⟨Or.inr ⟨rfl, fun h9 => e0Zq.1 h9.1⟩, Int.le_antisymm (by omega) (by omega), by omega, by omega⟩ | exact ⟨Or.inr ⟨rfl, fun h9 => h9.2.2 b2⟩, Int.le_antisymm (by omega) (by omega), by omega, by omega⟩ | exact ⟨Or.inr ⟨rfl, fun h9 => e1Zq.1 h9.2.1⟩, Int.le_antisymm (by omega) (by omega), by omega, by omega⟩)⟩, hf⟩
        · have tc27 : x7.toInt < 0 := tl_nle c27Zq
          refine li_iconst 0 dX8_readTwo_50 (by decide) ?_
          refine li_goto 55 dX8_readTwo_51 (by decide) ?_
          refine li_isub dX8_readTwo_55 ?_
          refine li_top (fun x31 ex31 => ?_)
          have tx31 : (-2147483648 ≤ x26.toInt - 0 ∧ x26.toInt - 0 ≤ 2147483647) → x31.toInt = x26.toInt - 0 := tl_sub ex31
          refine li_puti (k := 2) (N := 3) (T := TX7) (C0 := RX7) dX8_readTwo_56 (by decide) sh_1 rfl rfl (by decide) li_in7 tyX7_ok nmX7 rfl rfl rfl rfl w_143 ?_
          refine li_nm (fun M32 eM32 => ?_)
          have hf := li_fr_ui hf (show 1 = 1 ∨ 1 = 8 ∨ 1 = 9 by omega) eM32
          have mM32_1_1 : (M32.1 1 1).toInt = (M8Zq.1 1 1).toInt := by rw [eM32, li_ui_at, if_pos rfl, if_neg (by decide)]
          have mM32_1_2 : (M32.1 1 2).toInt = x31.toInt := by rw [eM32, li_ui_at, if_pos rfl, if_pos rfl]
          have mM32_5_0 : (M32.1 5 0).toInt = (M8Zq.1 5 0).toInt := by rw [eM32, li_ui_at, if_neg (by decide)]
          have Psg_M32 : li_sg (M32.1 2)  := li_sg_tr (li_cell_ui eM32 (by decide))  Psg_M8
          have k33 : M32.1 1 2 = x31 := by rw [eM32, li_ui_at, if_pos rfl, if_pos rfl]
          refine li_iconst 0 dX8_readTwo_59 (by decide) ?_
          have z0 : (0 : Int32).toInt = 0 := rfl
          exact li_iret dX8_readTwo_60 rfl (li_nz (Or.inl rfl)) ⟨⟨_, rfl, Or.inl rfl, (by first | exact ⟨Or.inl ⟨rfl, ⟨f0Zq.1, f1Zq.1, ne1⟩, Int.le_antisymm (by omega) (by omega)⟩, Int.le_antisymm (by omega) (by omega), by omega, by omega⟩ | exact ⟨Or.inr ⟨rfl, fun h9 => e0Zq.1 h9.1⟩, Int.le_antisymm (by omega) (by omega), by omega, by omega⟩ | exact ⟨Or.inr ⟨rfl, fun h9 => h9.2.2 b2⟩, Int.le_antisymm (by omega) (by omega), by omega, by omega⟩ | exact ⟨Or.inr ⟨rfl, fun h9 => e1Zq.1 h9.2.1⟩, Int.le_antisymm (by omega) (by omega), by omega, by omega⟩)⟩, hf⟩
  · have tc5 : x2Zq.toInt < 0 := tl_nle c5Zq
    have e0Zq := qn7 (by omega)
    clear qy7 qn7
    refine li_iconst 0 dX8_readTwo_15 (by decide) ?_
    have z0 : (0 : Int32).toInt = 0 := rfl
    exact li_iret dX8_readTwo_16 rfl (li_nz (Or.inl rfl)) ⟨⟨_, rfl, Or.inl rfl, (by first | exact ⟨Or.inl ⟨rfl, ⟨f0Zq.1, f1Zq.1, ne1⟩, Int.le_antisymm (by omega) (by omega)⟩, Int.le_antisymm (by omega) (by omega), by omega, by omega⟩ | exact ⟨Or.inr ⟨rfl, fun h9 => e0Zq.1 h9.1⟩, Int.le_antisymm (by omega) (by omega), by omega, by omega⟩ | exact ⟨Or.inr ⟨rfl, fun h9 => h9.2.2 b2⟩, Int.le_antisymm (by omega) (by omega), by omega, by omega⟩ | exact ⟨Or.inr ⟨rfl, fun h9 => e1Zq.1 h9.2.1⟩, Int.le_antisymm (by omega) (by omega), by omega, by omega⟩)⟩, hf⟩
set_option maxRecDepth 100000 in
set_option maxHeartbeats 4000000 in
theorem k10_X8_readSeconds {l : Launch} {Z : li_Z} (d : Nat) (hdZq : 3 ≤ d) (p1Zq : Int32) (M0 : li_M) (h1 : 0 ≤ (M0.1 1 2).toInt ∧ (M0.1 1 2).toInt ≤ (M0.1 1 1).toInt ∧ (M0.1 1 1).toInt ≤ 80) (Psg_M0 : li_sg (M0.1 2)) (R1 Q1Zq : Int) (Pnq_M0 : li_nq (M0.1 2) ((M0.1 1 1).toInt) (2) (-1) ((M0.1 1 2).toInt) (R1) (Q1Zq)) : li_Met l Z YX8_readSeconds d [.ref (Z.2.2 5), .ref (Z.2.2 1), .int p1Zq] M0 (fun r M' => (∃ x : Int32, r = some (.int x) ∧ (x = 0 ∨ x = 1) ∧ (((x.toInt = 1 ∧ 0 < R1 ∧ rd_ch (M0.1 2) ((M0.1 1 1).toInt) (Q1Zq) = 45 ∧ (M'.1 1 2).toInt = Q1Zq + 1) ∨ (x.toInt = 0 ∧ ¬ (0 < R1 ∧ rd_ch (M0.1 2) ((M0.1 1 1).toInt) (Q1Zq) = 45))) ∧ (M'.1 1 1).toInt = (M0.1 1 1).toInt ∧ (M'.1 1 2).toInt ≤ (M0.1 1 1).toInt ∧ (M0.1 1 2).toInt - 1 ≤ (M'.1 1 2).toInt)) ∧ li_fr (fun i => i = 1 ∨ i = 10) M0 M') := by
  refine li_enter (by decide +kernel) (Nat.le_of_ble_eq_true rfl) ?_
  show li_T l Z YX8_readSeconds d 0 [(0, .ref (Z.2.2 5)), (1, .ref (Z.2.2 1)), (2, .int p1Zq)] [] M0 _
  have hf : li_fr (fun i => i = 1 ∨ i = 10) M0 M0 := li_fr_refl
  have gp1 := tl_rg p1Zq
  refine li_aload_n 1 dX8_readSeconds_0 rfl ?_
  refine li_geti (k := 2) (N := 3) (T := TX7) (C0 := RX7) dX8_readSeconds_1 (by decide) sh_1 rfl rfl (by decide) li_in7 w_143 ?_
  refine li_top (fun x1Zq ex1 => ?_)
  have gx1 := tl_rg x1Zq
  have vx1 : x1Zq.toInt = (M0.1 1 2).toInt := tl_eq ex1
  refine li_bipush 75 dX8_readSeconds_4 (by decide) ?_
  have J23 : ∀ (x3 : Int32) (M4Zq : li_M), li_fr (fun i => i = 1 ∨ i = 10) M0 M4Zq → (M4Zq.1 1 1).toInt = (M0.1 1 1).toInt ∧ (M4Zq.1 1 2).toInt = (M0.1 1 2).toInt → li_sg (M4Zq.1 2)  → li_nq (M4Zq.1 2) ((M0.1 1 1).toInt) (2) (-1) ((M0.1 1 2).toInt) (R1) (Q1Zq) → li_T l Z YX8_readSeconds d 23 [(0, .ref (Z.2.2 5)), (1, .ref (Z.2.2 1)), (2, .int p1Zq)] [.int x3] M4Zq (fun r M' => (∃ x : Int32, r = some (.int x) ∧ (x = 0 ∨ x = 1) ∧ (((x.toInt = 1 ∧ 0 < R1 ∧ rd_ch (M0.1 2) ((M0.1 1 1).toInt) (Q1Zq) = 45 ∧ (M'.1 1 2).toInt = Q1Zq + 1) ∨ (x.toInt = 0 ∧ ¬ (0 < R1 ∧ rd_ch (M0.1 2) ((M0.1 1 1).toInt) (Q1Zq) = 45))) ∧ (M'.1 1 1).toInt = (M0.1 1 1).toInt ∧ (M'.1 1 2).toInt ≤ (M0.1 1 1).toInt ∧ (M0.1 1 2).toInt - 1 ≤ (M'.1 1 2).toInt)) ∧ li_fr (fun i => i = 1 ∨ i = 10) M0 M') := by
    try clear vx1
    try clear gx1
    try clear ex1
    intro x3 M4Zq hf hiZq Psg_M4 Pnq_M4
    have gx3 := tl_rg x3
    refine li_istore_n [(3, .int x3), (0, .ref (Z.2.2 5)), (1, .ref (Z.2.2 1)), (2, .int p1Zq)] dX8_readSeconds_23 (by decide) rfl ?_
    refine li_aload_n 2 dX8_readSeconds_24 rfl ?_
    refine li_iconst 2 dX8_readSeconds_25 (by decide) ?_
    refine li_callV (n := 1) (As := [.int 2]) dX8_readSeconds_26 (k5_X7_takeNumber (d - 1) (by omega) 2 M4Zq (by omega) Psg_M4 (by decide) _ _ (li_nq_tr rfl (Int.le_antisymm (by omega) (by omega)) rfl rfl (Int.le_antisymm (by omega) (by omega)) rfl rfl Pnq_M4)) (by omega) (Nat.le_of_ble_eq_true rfl) w_676 w_635 w_636 w_102 w_637 (by decide +kernel) rfl (by decide) sh_1 rfl rfl (Nat.le_of_ble_eq_true rfl) (fun r M6Zq h7 => ?_)
    have z2 : (2 : Int32).toInt = 2 := rfl
    obtain ⟨⟨x5Zq, rfl, qx5⟩, h7⟩ := h7
    have gx5 := tl_rg x5Zq
    have hf := li_fr_trans hf h7 (fun i (hZq : i = 1) => (show i = 1 ∨ i = 10 by omega))
    have mM6_5_0 : (M6Zq.1 5 0).toInt = (M4Zq.1 5 0).toInt := by rw [h7.1 5 (show ¬ (5 = 1) by first | (simp; done) | omega)]
    have Psg_M6 : li_sg (M6Zq.1 2)  := li_sg_tr (h7.1 2 (fun hZq => by first | exact (hZq : False).elim | omega))  Psg_M4
    refine li_istore [(4, .int x5Zq), (3, .int x3), (0, .ref (Z.2.2 5)), (1, .ref (Z.2.2 1)), (2, .int p1Zq)] dX8_readSeconds_29 (by decide) rfl ?_
    refine li_iload 0 dX8_readSeconds_31 rfl ?_
    have J50 : ∀  (M9Zq : li_M), li_fr (fun i => i = 1 ∨ i = 10) M0 M9Zq → (M9Zq.1 1 1).toInt = (M0.1 1 1).toInt ∧ (x5Zq : Int32).toInt = R1 ∧ (0 < R1 → (M9Zq.1 1 2).toInt = Q1Zq) ∧ (M0.1 1 2).toInt - 1 ≤ (M9Zq.1 1 2).toInt ∧ (M9Zq.1 1 2).toInt ≤ (M0.1 1 1).toInt ∧ (0 < R1 → 0 ≤ (M9Zq.1 1 2).toInt) → li_sg (M9Zq.1 2)  → li_T l Z YX8_readSeconds d 50 [(4, .int x5Zq), (3, .int x3), (0, .ref (Z.2.2 5)), (1, .ref (Z.2.2 1)), (2, .int p1Zq)] [] M9Zq (fun r M' => (∃ x : Int32, r = some (.int x) ∧ (x = 0 ∨ x = 1) ∧ (((x.toInt = 1 ∧ 0 < R1 ∧ rd_ch (M0.1 2) ((M0.1 1 1).toInt) (Q1Zq) = 45 ∧ (M'.1 1 2).toInt = Q1Zq + 1) ∨ (x.toInt = 0 ∧ ¬ (0 < R1 ∧ rd_ch (M0.1 2) ((M0.1 1 1).toInt) (Q1Zq) = 45))) ∧ (M'.1 1 1).toInt = (M0.1 1 1).toInt ∧ (M'.1 1 2).toInt ≤ (M0.1 1 1).toInt ∧ (M0.1 1 2).toInt - 1 ≤ (M'.1 1 2).toInt)) ∧ li_fr (fun i => i = 1 ∨ i = 10) M0 M') := by
      try clear mM6_5_0
      try clear qx5
      try clear h7
      try clear vx1
      try clear gx1
      try clear ex1
      try clear hiZq
      intro  M9Zq hf hiZq Psg_M9
      refine li_aload_n 2 dX8_readSeconds_50 rfl ?_
      refine li_getr (k := 6) (N := 9) (T := TX8) (C0 := RX8) dX8_readSeconds_51 (by decide) sh_5 rfl rfl (by decide) (by decide) li_in8 w_194 ?_
      refine li_iload_n 4 dX8_readSeconds_54 rfl ?_
      refine li_iload 0 dX8_readSeconds_55 rfl ?_
      refine li_callN (n := 3) (As := [.ref (Z.2.2 10), .int p1Zq, .int x5Zq]) dX8_readSeconds_57 (k_X11_put (d - 1) (by omega) (by decide) sh_10 (by decide) p1Zq x5Zq M9Zq) (by omega) (Nat.le_of_ble_eq_true rfl) nw_12 w_522 w_101 w_523 (by decide +kernel) rfl rfl (Nat.le_of_ble_eq_true rfl) (fun r M11 h12 => ?_)
      obtain ⟨rfl, h12⟩ := h12
      have hf := li_fr_trans hf h12 (fun i (hZq : i = 10) => (show i = 1 ∨ i = 10 by omega))
      have mM11_1_1 : (M11.1 1 1).toInt = (M9Zq.1 1 1).toInt := by rw [h12.1 1 (show ¬ (1 = 10) by first | (simp; done) | omega)]
      have mM11_1_2 : (M11.1 1 2).toInt = (M9Zq.1 1 2).toInt := by rw [h12.1 1 (show ¬ (1 = 10) by first | (simp; done) | omega)]
      have mM11_5_0 : (M11.1 5 0).toInt = (M9Zq.1 5 0).toInt := by rw [h12.1 5 (show ¬ (5 = 10) by first | (simp; done) | omega)]
      have Psg_M11 : li_sg (M11.1 2)  := li_sg_tr (h12.1 2 (fun hZq => by first | exact (hZq : False).elim | omega))  Psg_M9
      refine li_iload 0 dX8_readSeconds_60 rfl ?_
      refine li_if_le 78 dX8_readSeconds_62 (by decide) (fun c13Zq => ?_) (fun c13Zq => ?_)
      · have tc13 : x5Zq.toInt ≤ 0 := tl_le c13Zq
        first | (have e68 := qn68 (by assumption)) | skip
        refine li_iconst 0 dX8_readSeconds_78 (by decide) ?_
        have z0 : (0 : Int32).toInt = 0 := rfl
        exact li_iret dX8_readSeconds_79 rfl (li_nz (Or.inl rfl)) ⟨⟨_, rfl, Or.inl rfl, (by first | exact ⟨Or.inr ⟨rfl, fun h9 => e68.1 h9.2⟩, Int.le_antisymm (by omega) (by omega), by omega, by omega⟩ | exact ⟨Or.inl ⟨rfl, by omega, f68.1, Int.le_antisymm (by omega) (by omega)⟩, Int.le_antisymm (by omega) (by omega), by omega, by omega⟩ | exact ⟨Or.inr ⟨rfl, fun h9 => absurd h9.1 (by omega)⟩, Int.le_antisymm (by omega) (by omega), by omega, by omega⟩)⟩, hf⟩
      · have tc13 : 0 < x5Zq.toInt := tl_nle c13Zq
        refine li_aload_n 3 dX8_readSeconds_65 rfl ?_
        refine li_bipush 45 dX8_readSeconds_66 (by decide) ?_
        have cp68 : rd_ch (M11.1 2) ((M11.1 1 1).toInt) ((M11.1 1 2).toInt) = rd_ch (M0.1 2) ((M0.1 1 1).toInt) (Q1Zq) := by rw [show M11.1 2 = M0.1 2 from hf.1 2 (by first | exact id | decide | omega), show (M11.1 1 1).toInt = (M0.1 1 1).toInt from Int.le_antisymm (by omega) (by omega), show (M11.1 1 2).toInt = Q1Zq from Int.le_antisymm (by omega) (by omega)]
        refine li_callV (n := 1) (As := [.int 45]) dX8_readSeconds_68 (k5_X7_skip (d - 1) (by omega) 45 M11 (by omega) Psg_M11 (by decide)) (by omega) (Nat.le_of_ble_eq_true rfl) w_677 w_565 w_566 w_102 w_567 (by decide +kernel) rfl (by decide) sh_1 rfl rfl (Nat.le_of_ble_eq_true rfl) (fun r M15 h16Zq => ?_)
        have z45Zq : (45 : Int32).toInt = 45 := rfl
        obtain ⟨⟨x14, rfl, bx14, qx14⟩, h16Zq⟩ := h16Zq
        have ux14 := tl_b bx14
        have hf := li_fr_trans hf h16Zq (fun i (hZq : i = 1) => (show i = 1 ∨ i = 10 by omega))
        have mM15_5_0 : (M15.1 5 0).toInt = (M11.1 5 0).toInt := by rw [h16Zq.1 5 (show ¬ (5 = 1) by first | (simp; done) | omega)]
        have Psg_M15 : li_sg (M15.1 2)  := li_sg_tr (h16Zq.1 2 (fun hZq => by first | exact (hZq : False).elim | omega))  Psg_M11
        have ln68 : (M15.1 1 1).toInt = (M0.1 1 1).toInt := qx14.2.trans (Int.le_antisymm (by omega) (by omega))
        have qy68 : ¬ x14.toInt = 0 → rd_ch (M0.1 2) ((M0.1 1 1).toInt) (Q1Zq) = 45 ∧ (M15.1 1 2).toInt = (M11.1 1 2).toInt + 1 ∧ (M11.1 1 2).toInt < (M0.1 1 1).toInt := fun h9 => by rcases qx14.1 with c | c; exact ⟨by omega, c.2.2.2, by omega⟩; exact absurd c.1 h9
        have qn68 : x14.toInt = 0 → ¬ rd_ch (M0.1 2) ((M0.1 1 1).toInt) (Q1Zq) = 45 ∧ (M15.1 1 2).toInt = (M11.1 1 2).toInt := fun h9 => by rcases qx14.1 with c | c; exact absurd (c.1.symm.trans h9) (by decide); exact ⟨fun h8 => c.2.1 (by omega), c.2.2⟩
        clear qx14
        refine li_if_eq 78 dX8_readSeconds_71 (by decide) (fun c17 => ?_) (fun c17 => ?_)
        · have tc17 : x14.toInt = 0 := tl_eq c17
          first | (have e68 := qn68 (by assumption)) | skip
          refine li_iconst 0 dX8_readSeconds_78 (by decide) ?_
          have z0 : (0 : Int32).toInt = 0 := rfl
          exact li_iret dX8_readSeconds_79 rfl (li_nz (Or.inl rfl)) ⟨⟨_, rfl, Or.inl rfl, (by first | exact ⟨Or.inr ⟨rfl, fun h9 => e68.1 h9.2⟩, Int.le_antisymm (by omega) (by omega), by omega, by omega⟩ | exact ⟨Or.inl ⟨rfl, by omega, f68.1, Int.le_antisymm (by omega) (by omega)⟩, Int.le_antisymm (by omega) (by omega), by omega, by omega⟩ | exact ⟨Or.inr ⟨rfl, fun h9 => absurd h9.1 (by omega)⟩, Int.le_antisymm (by omega) (by omega), by omega, by omega⟩)⟩, hf⟩
        · have tc17 : ¬ x14.toInt = 0 := tl_ne c17
          have f68 := qy68 (by assumption)
          refine li_iconst 1 dX8_readSeconds_74 (by decide) ?_
          refine li_goto 79 dX8_readSeconds_75 (by decide) ?_
          have z1 : (1 : Int32).toInt = 1 := rfl
          exact li_iret dX8_readSeconds_79 rfl (li_nz (Or.inr rfl)) ⟨⟨_, rfl, Or.inr rfl, (by first | exact ⟨Or.inr ⟨rfl, fun h9 => e68.1 h9.2⟩, Int.le_antisymm (by omega) (by omega), by omega, by omega⟩ | exact ⟨Or.inl ⟨rfl, by omega, f68.1, Int.le_antisymm (by omega) (by omega)⟩, Int.le_antisymm (by omega) (by omega), by omega, by omega⟩ | exact ⟨Or.inr ⟨rfl, fun h9 => absurd h9.1 (by omega)⟩, Int.le_antisymm (by omega) (by omega), by omega, by omega⟩)⟩, hf⟩
    refine li_if_ne 50 dX8_readSeconds_33 (by decide) (fun c8Zq => ?_) (fun c8Zq => ?_)
    · have tc8 : ¬ x5Zq.toInt = 0 := tl_ne c8Zq
      refine li_pick [0, 1, 2, 3, 4] [(4, .int x5Zq), (3, .int x3), (0, .ref (Z.2.2 5)), (1, .ref (Z.2.2 1)), (2, .int p1Zq)] rfl ?_
      exact J50  M6Zq hf ⟨(Int.le_antisymm (by omega) (by omega)), (Int.le_antisymm (by omega) (by omega)), (fun hq0 => (Int.le_antisymm (by omega) (by omega))), (by omega), (by omega), (fun hq0 => (by omega))⟩ (by first | exact li_sg_tr rfl  Psg_M6)
    · have tc8 : x5Zq.toInt = 0 := tl_eq c8Zq
      refine li_iload_n 1 dX8_readSeconds_36 rfl ?_
      refine li_if_ne 50 dX8_readSeconds_37 (by decide) (fun c18Zq => ?_) (fun c18Zq => ?_)
      · have tc18 : ¬ x3.toInt = 0 := tl_ne c18Zq
        refine li_pick [0, 1, 2, 3, 4] [(4, .int x5Zq), (3, .int x3), (0, .ref (Z.2.2 5)), (1, .ref (Z.2.2 1)), (2, .int p1Zq)] rfl ?_
        exact J50  M6Zq hf ⟨(Int.le_antisymm (by omega) (by omega)), (Int.le_antisymm (by omega) (by omega)), (fun hq0 => (Int.le_antisymm (by omega) (by omega))), (by omega), (by omega), (fun hq0 => (by omega))⟩ (by first | exact li_sg_tr rfl  Psg_M6)
      · have tc18 : x3.toInt = 0 := tl_eq c18Zq
        refine li_aload_n 3 dX8_readSeconds_40 rfl ?_
        refine li_dup dX8_readSeconds_41 rfl ?_
        refine li_geti (k := 2) (N := 3) (T := TX7) (C0 := RX7) dX8_readSeconds_42 (by decide) sh_1 rfl rfl (by decide) li_in7 w_143 ?_
        refine li_top (fun x19 ex19 => ?_)
        have gx19 := tl_rg x19
        have vx19 : x19.toInt = (M6Zq.1 1 2).toInt := tl_eq ex19
        refine li_iconst 1 dX8_readSeconds_45 (by decide) ?_
        refine li_isub dX8_readSeconds_46 ?_
        refine li_top (fun x20 ex20 => ?_)
        have tx20 : (-2147483648 ≤ x19.toInt - 1 ∧ x19.toInt - 1 ≤ 2147483647) → x20.toInt = x19.toInt - 1 := tl_sub ex20
        refine li_puti (k := 2) (N := 3) (T := TX7) (C0 := RX7) dX8_readSeconds_47 (by decide) sh_1 rfl rfl (by decide) li_in7 tyX7_ok nmX7 rfl rfl rfl rfl w_143 ?_
        refine li_nm (fun M21 eM21 => ?_)
        have hf := li_fr_ui hf (show 1 = 1 ∨ 1 = 10 by omega) eM21
        have mM21_1_1 : (M21.1 1 1).toInt = (M6Zq.1 1 1).toInt := by rw [eM21, li_ui_at, if_pos rfl, if_neg (by decide)]
        have mM21_1_2 : (M21.1 1 2).toInt = x20.toInt := by rw [eM21, li_ui_at, if_pos rfl, if_pos rfl]
        have mM21_5_0 : (M21.1 5 0).toInt = (M6Zq.1 5 0).toInt := by rw [eM21, li_ui_at, if_neg (by decide)]
        have Psg_M21 : li_sg (M21.1 2)  := li_sg_tr (li_cell_ui eM21 (by decide))  Psg_M6
        have k22 : M21.1 1 2 = x20 := by rw [eM21, li_ui_at, if_pos rfl, if_pos rfl]
        refine li_pick [0, 1, 2, 3, 4] [(4, .int x5Zq), (3, .int x3), (0, .ref (Z.2.2 5)), (1, .ref (Z.2.2 1)), (2, .int p1Zq)] rfl ?_
        exact J50  M21 hf ⟨(Int.le_antisymm (by omega) (by omega)), (Int.le_antisymm (by omega) (by omega)), (fun hq0 => (Int.le_antisymm (by omega) (by omega))), (by omega), (by omega), (fun hq0 => (by omega))⟩ (by first | exact li_sg_tr rfl  Psg_M21)
  refine li_icmp_ne 22 dX8_readSeconds_6 (by decide) (fun c2 => ?_) (fun c2 => ?_)
  · have tc2 : ¬ x1Zq.toInt = 75 := tl_ne c2
    refine li_iconst 0 dX8_readSeconds_22 (by decide) ?_
    refine li_pick [0, 1, 2] [(0, .ref (Z.2.2 5)), (1, .ref (Z.2.2 1)), (2, .int p1Zq)] rfl ?_
    have z0 : (0 : Int32).toInt = 0 := rfl
    exact J23 0 M0 hf ⟨(Int.le_antisymm (by omega) (by omega)), (Int.le_antisymm (by omega) (by omega))⟩ (by first | exact li_sg_tr rfl  Psg_M0) (by first | exact li_nq_tr rfl (by omega) (by omega) (by omega) (by omega) (by omega) (by omega) Pnq_M0)
  · have tc2 : x1Zq.toInt = 75 := tl_eq c2
    refine li_aload_n 1 dX8_readSeconds_9 rfl ?_
    refine li_geti (k := 1) (N := 3) (T := TX7) (C0 := RX7) dX8_readSeconds_10 (by decide) sh_1 rfl rfl (by decide) li_in7 w_141 ?_
    refine li_top (fun x23 ex23 => ?_)
    have gx23 := tl_rg x23
    have vx23 : x23.toInt = (M0.1 1 1).toInt := tl_eq ex23
    refine li_bipush 76 dX8_readSeconds_13 (by decide) ?_
    refine li_icmp_le 22 dX8_readSeconds_15 (by decide) (fun c24Zq => ?_) (fun c24Zq => ?_)
    · have tc24 : x23.toInt ≤ 76 := tl_le c24Zq
      refine li_iconst 0 dX8_readSeconds_22 (by decide) ?_
      refine li_pick [0, 1, 2] [(0, .ref (Z.2.2 5)), (1, .ref (Z.2.2 1)), (2, .int p1Zq)] rfl ?_
      have z0 : (0 : Int32).toInt = 0 := rfl
      exact J23 0 M0 hf ⟨(Int.le_antisymm (by omega) (by omega)), (Int.le_antisymm (by omega) (by omega))⟩ (by first | exact li_sg_tr rfl  Psg_M0) (by first | exact li_nq_tr rfl (by omega) (by omega) (by omega) (by omega) (by omega) (by omega) Pnq_M0)
    · have tc24 : 76 < x23.toInt := tl_nle c24Zq
      refine li_iconst 1 dX8_readSeconds_18 (by decide) ?_
      refine li_goto 23 dX8_readSeconds_19 (by decide) ?_
      refine li_pick [0, 1, 2] [(0, .ref (Z.2.2 5)), (1, .ref (Z.2.2 1)), (2, .int p1Zq)] rfl ?_
      have z1 : (1 : Int32).toInt = 1 := rfl
      exact J23 1 M0 hf ⟨(Int.le_antisymm (by omega) (by omega)), (Int.le_antisymm (by omega) (by omega))⟩ (by first | exact li_sg_tr rfl  Psg_M0) (by first | exact li_nq_tr rfl (by omega) (by omega) (by omega) (by omega) (by omega) (by omega) Pnq_M0)
set_option maxRecDepth 100000 in
set_option maxHeartbeats 4000000 in
theorem k10_X8_readDayAndWorth {l : Launch} {Z : li_Z} (d : Nat) (hdZq : 3 ≤ d) (p1Zq : Int32) (M0 : li_M) (h1 : 0 ≤ (M0.1 1 2).toInt ∧ (M0.1 1 2).toInt ≤ (M0.1 1 1).toInt ∧ (M0.1 1 1).toInt ≤ 80) (Psg_M0 : li_sg (M0.1 2)) (R2 Q2Zq : Int) (Pn2_M0 : li_n2 (M0.1 2) ((M0.1 1 1).toInt) (2) (-1) ((M0.1 1 2).toInt) (R2) (Q2Zq)) (R3 Q3 : Int) (Pn3_M0 : li_n3 (M0.1 2) ((M0.1 1 1).toInt) (2) (-1) (Q2Zq + 1) (R3) (Q3)) : li_Met l Z YX8_readDayAndWorth d [.ref (Z.2.2 5), .ref (Z.2.2 1), .int p1Zq] M0 (fun r M' => (∃ x : Int32, r = some (.int x) ∧ (x = 0 ∨ x = 1) ∧ (((x.toInt = 1 ∧ 0 ≤ R2 ∧ rd_ch (M0.1 2) ((M0.1 1 1).toInt) (Q2Zq) = 61 ∧ 0 ≤ R3 ∧ (M'.1 1 2).toInt = Q3) ∨ (x.toInt = 0 ∧ ¬ (0 ≤ R2 ∧ rd_ch (M0.1 2) ((M0.1 1 1).toInt) (Q2Zq) = 61 ∧ 0 ≤ R3))) ∧ (M'.1 1 1).toInt = (M0.1 1 1).toInt ∧ (M'.1 1 2).toInt ≤ (M0.1 1 1).toInt ∧ (M0.1 1 2).toInt ≤ (M'.1 1 2).toInt)) ∧ li_fr (fun i => i = 1 ∨ i = 11 ∨ i = 12) M0 M') := by
  refine li_enter (by decide +kernel) (Nat.le_of_ble_eq_true rfl) ?_
  show li_T l Z YX8_readDayAndWorth d 0 [(0, .ref (Z.2.2 5)), (1, .ref (Z.2.2 1)), (2, .int p1Zq)] [] M0 _
  have hf : li_fr (fun i => i = 1 ∨ i = 11 ∨ i = 12) M0 M0 := li_fr_refl
  have gp1 := tl_rg p1Zq
  refine li_aload_n 1 dX8_readDayAndWorth_0 rfl ?_
  refine li_iconst 2 dX8_readDayAndWorth_1 (by decide) ?_
  refine li_callV (n := 1) (As := [.int 2]) dX8_readDayAndWorth_2 (k5_X7_takeNumber (d - 1) (by omega) 2 M0 (by omega) Psg_M0 (by decide) _ _ (li_nq_tr rfl (Int.le_antisymm (by omega) (by omega)) rfl rfl (Int.le_antisymm (by omega) (by omega)) rfl rfl Pn2_M0)) (by omega) (Nat.le_of_ble_eq_true rfl) w_676 w_635 w_636 w_102 w_637 (by decide +kernel) rfl (by decide) sh_1 rfl rfl (Nat.le_of_ble_eq_true rfl) (fun r M2Zq h3 => ?_)
  have z2 : (2 : Int32).toInt = 2 := rfl
  obtain ⟨⟨x1Zq, rfl, qx1⟩, h3⟩ := h3
  have gx1 := tl_rg x1Zq
  have hf := li_fr_trans hf h3 (fun i (hZq : i = 1) => (show i = 1 ∨ i = 11 ∨ i = 12 by omega))
  have mM2_5_0 : (M2Zq.1 5 0).toInt = (M0.1 5 0).toInt := by rw [h3.1 5 (show ¬ (5 = 1) by omega)]
  have Psg_M2 : li_sg (M2Zq.1 2)  := li_sg_tr (h3.1 2 (fun hZq => by first | exact (hZq : False).elim | omega))  Psg_M0
  have Pn3_M2 : li_n3 (M2Zq.1 2) ((M2Zq.1 1 1).toInt) (2) (-1) (Q2Zq + 1) (R3) (Q3) := li_n3_tr (h3.1 2 (fun hZq => by first | exact (hZq : False).elim | omega)) (by omega) (by omega) (by omega) (by omega) (by omega) (by omega) Pn3_M0
  refine li_istore_n [(3, .int x1Zq), (0, .ref (Z.2.2 5)), (1, .ref (Z.2.2 1)), (2, .int p1Zq)] dX8_readDayAndWorth_5 (by decide) rfl ?_
  refine li_iload_n 0 dX8_readDayAndWorth_6 rfl ?_
  refine li_if_lt 19 dX8_readDayAndWorth_7 (by decide) (fun c4 => ?_) (fun c4 => ?_)
  · have tc4 : x1Zq.toInt < 0 := tl_lt c4
    first | (have e13Zq := qn13 (by assumption)) | skip
    refine li_iconst 0 dX8_readDayAndWorth_19 (by decide) ?_
    have z0 : (0 : Int32).toInt = 0 := rfl
    exact li_iret dX8_readDayAndWorth_20 rfl (li_nz (Or.inl rfl)) ⟨⟨_, rfl, Or.inl rfl, (by first | exact ⟨Or.inr ⟨rfl, fun h9 => e13Zq.1 h9.2.1⟩, Int.le_antisymm (by omega) (by omega), by omega, by omega⟩ | exact ⟨Or.inl ⟨rfl, by omega, f13.1, by omega, Int.le_antisymm (by omega) (by omega)⟩, Int.le_antisymm (by omega) (by omega), by omega, by omega⟩ | exact (f13.elim (fun _ _ => ⟨Or.inr ⟨rfl, fun h9 => absurd h9.2.2 (by omega)⟩, Int.le_antisymm (by omega) (by omega), by omega, by omega⟩)) | exact ⟨Or.inr ⟨rfl, fun h9 => absurd h9.1 (by omega)⟩, Int.le_antisymm (by omega) (by omega), by omega, by omega⟩)⟩, hf⟩
  · have tc4 : 0 ≤ x1Zq.toInt := tl_nlt c4
    refine li_aload_n 2 dX8_readDayAndWorth_10 rfl ?_
    refine li_bipush 61 dX8_readDayAndWorth_11 (by decide) ?_
    have cp13 : rd_ch (M2Zq.1 2) ((M2Zq.1 1 1).toInt) ((M2Zq.1 1 2).toInt) = rd_ch (M0.1 2) ((M0.1 1 1).toInt) (Q2Zq) := by rw [show M2Zq.1 2 = M0.1 2 from hf.1 2 (by first | exact id | decide | omega), show (M2Zq.1 1 1).toInt = (M0.1 1 1).toInt from Int.le_antisymm (by omega) (by omega), show (M2Zq.1 1 2).toInt = Q2Zq from Int.le_antisymm (by omega) (by omega)]
    refine li_callV (n := 1) (As := [.int 61]) dX8_readDayAndWorth_13 (k5_X7_skip (d - 1) (by omega) 61 M2Zq (by omega) Psg_M2 (by decide)) (by omega) (Nat.le_of_ble_eq_true rfl) w_677 w_565 w_566 w_102 w_567 (by decide +kernel) rfl (by decide) sh_1 rfl rfl (Nat.le_of_ble_eq_true rfl) (fun r M6Zq h7 => ?_)
    have z61Zq : (61 : Int32).toInt = 61 := rfl
    obtain ⟨⟨x5Zq, rfl, bx5, qx5⟩, h7⟩ := h7
    have ux5 := tl_b bx5
    have hf := li_fr_trans hf h7 (fun i (hZq : i = 1) => (show i = 1 ∨ i = 11 ∨ i = 12 by omega))
    have mM6_5_0 : (M6Zq.1 5 0).toInt = (M2Zq.1 5 0).toInt := by rw [h7.1 5 (show ¬ (5 = 1) by omega)]
    have Psg_M6 : li_sg (M6Zq.1 2)  := li_sg_tr (h7.1 2 (fun hZq => by first | exact (hZq : False).elim | omega))  Psg_M2
    have Pn3_M6 : li_n3 (M6Zq.1 2) ((M6Zq.1 1 1).toInt) (2) (-1) (Q2Zq + 1) (R3) (Q3) := li_n3_tr (h7.1 2 (fun hZq => by first | exact (hZq : False).elim | omega)) (by omega) (by omega) (by omega) (by omega) (by omega) (by omega) Pn3_M2
    have ln13 : (M6Zq.1 1 1).toInt = (M0.1 1 1).toInt := qx5.2.trans (Int.le_antisymm (by omega) (by omega))
    have qy13 : ¬ x5Zq.toInt = 0 → rd_ch (M0.1 2) ((M0.1 1 1).toInt) (Q2Zq) = 61 ∧ (M6Zq.1 1 2).toInt = (M2Zq.1 1 2).toInt + 1 ∧ (M2Zq.1 1 2).toInt < (M0.1 1 1).toInt := fun h9 => by rcases qx5.1 with c | c; exact ⟨by omega, c.2.2.2, by omega⟩; exact absurd c.1 h9
    have qn13 : x5Zq.toInt = 0 → ¬ rd_ch (M0.1 2) ((M0.1 1 1).toInt) (Q2Zq) = 61 ∧ (M6Zq.1 1 2).toInt = (M2Zq.1 1 2).toInt := fun h9 => by rcases qx5.1 with c | c; exact absurd (c.1.symm.trans h9) (by decide); exact ⟨fun h8 => c.2.1 (by omega), c.2.2⟩
    clear qx5
    refine li_if_ne 21 dX8_readDayAndWorth_16 (by decide) (fun c8Zq => ?_) (fun c8Zq => ?_)
    · have tc8 : ¬ x5Zq.toInt = 0 := tl_ne c8Zq
      have f13 := qy13 (by assumption)
      clear qy13 qn13
      refine li_aload_n 2 dX8_readDayAndWorth_21 rfl ?_
      refine li_iconst 2 dX8_readDayAndWorth_22 (by decide) ?_
      refine li_callV (n := 1) (As := [.int 2]) dX8_readDayAndWorth_23 (k5_X7_takeNumber (d - 1) (by omega) 2 M6Zq (by omega) Psg_M6 (by decide) _ _ (li_nq_tr rfl (Int.le_antisymm (by omega) (by omega)) rfl rfl (Int.le_antisymm (by omega) (by omega)) rfl rfl Pn3_M6)) (by omega) (Nat.le_of_ble_eq_true rfl) w_676 w_635 w_636 w_102 w_637 (by decide +kernel) rfl (by decide) sh_1 rfl rfl (Nat.le_of_ble_eq_true rfl) (fun r M10 h11 => ?_)
      have z2 : (2 : Int32).toInt = 2 := rfl
      obtain ⟨⟨x9, rfl, qx9⟩, h11⟩ := h11
      have gx9 := tl_rg x9
      have hf := li_fr_trans hf h11 (fun i (hZq : i = 1) => (show i = 1 ∨ i = 11 ∨ i = 12 by omega))
      have mM10_5_0 : (M10.1 5 0).toInt = (M6Zq.1 5 0).toInt := by rw [h11.1 5 (show ¬ (5 = 1) by omega)]
      have Psg_M10 : li_sg (M10.1 2)  := li_sg_tr (h11.1 2 (fun hZq => by first | exact (hZq : False).elim | omega))  Psg_M6
      refine li_istore [(4, .int x9), (3, .int x1Zq), (0, .ref (Z.2.2 5)), (1, .ref (Z.2.2 1)), (2, .int p1Zq)] dX8_readDayAndWorth_26 (by decide) rfl ?_
      refine li_aload_n 2 dX8_readDayAndWorth_28 rfl ?_
      refine li_getr (k := 7) (N := 9) (T := TX8) (C0 := RX8) dX8_readDayAndWorth_29 (by decide) sh_5 rfl rfl (by decide) (by decide) li_in8 w_197 ?_
      refine li_iload_n 4 dX8_readDayAndWorth_32 rfl ?_
      refine li_iload_n 1 dX8_readDayAndWorth_33 rfl ?_
      refine li_callN (n := 3) (As := [.ref (Z.2.2 11), .int p1Zq, .int x1Zq]) dX8_readDayAndWorth_34 (k_X11_put (d - 1) (by omega) (by decide) sh_11 (by decide) p1Zq x1Zq M10) (by omega) (Nat.le_of_ble_eq_true rfl) nw_12 w_522 w_101 w_523 (by decide +kernel) rfl rfl (Nat.le_of_ble_eq_true rfl) (fun r M13 h14 => ?_)
      obtain ⟨rfl, h14⟩ := h14
      have hf := li_fr_trans hf h14 (fun i (hZq : i = 11) => (show i = 1 ∨ i = 11 ∨ i = 12 by omega))
      have mM13_1_1 : (M13.1 1 1).toInt = (M10.1 1 1).toInt := by rw [h14.1 1 (show ¬ (1 = 11) by omega)]
      have mM13_1_2 : (M13.1 1 2).toInt = (M10.1 1 2).toInt := by rw [h14.1 1 (show ¬ (1 = 11) by omega)]
      have mM13_5_0 : (M13.1 5 0).toInt = (M10.1 5 0).toInt := by rw [h14.1 5 (show ¬ (5 = 11) by omega)]
      have Psg_M13 : li_sg (M13.1 2)  := li_sg_tr (h14.1 2 (fun hZq => by first | exact (hZq : False).elim | omega))  Psg_M10
      refine li_aload_n 2 dX8_readDayAndWorth_37 rfl ?_
      refine li_getr (k := 8) (N := 9) (T := TX8) (C0 := RX8) dX8_readDayAndWorth_38 (by decide) sh_5 rfl rfl (by decide) (by decide) li_in8 w_201 ?_
      refine li_iload_n 4 dX8_readDayAndWorth_41 rfl ?_
      refine li_iload 0 dX8_readDayAndWorth_42 rfl ?_
      refine li_callN (n := 3) (As := [.ref (Z.2.2 12), .int p1Zq, .int x9]) dX8_readDayAndWorth_44 (k_X11_put (d - 1) (by omega) (by decide) sh_12 (by decide) p1Zq x9 M13) (by omega) (Nat.le_of_ble_eq_true rfl) nw_12 w_522 w_101 w_523 (by decide +kernel) rfl rfl (Nat.le_of_ble_eq_true rfl) (fun r M16 h17 => ?_)
      obtain ⟨rfl, h17⟩ := h17
      have hf := li_fr_trans hf h17 (fun i (hZq : i = 12) => (show i = 1 ∨ i = 11 ∨ i = 12 by omega))
      have mM16_1_1 : (M16.1 1 1).toInt = (M13.1 1 1).toInt := by rw [h17.1 1 (show ¬ (1 = 12) by omega)]
      have mM16_1_2 : (M16.1 1 2).toInt = (M13.1 1 2).toInt := by rw [h17.1 1 (show ¬ (1 = 12) by omega)]
      have mM16_5_0 : (M16.1 5 0).toInt = (M13.1 5 0).toInt := by rw [h17.1 5 (show ¬ (5 = 12) by omega)]
      have Psg_M16 : li_sg (M16.1 2)  := li_sg_tr (h17.1 2 (fun hZq => by first | exact (hZq : False).elim | omega))  Psg_M13
      refine li_iload 0 dX8_readDayAndWorth_47 rfl ?_
      refine li_if_lt 56 dX8_readDayAndWorth_49 (by decide) (fun c18Zq => ?_) (fun c18Zq => ?_)
      · have tc18 : x9.toInt < 0 := tl_lt c18Zq
        refine li_iconst 0 dX8_readDayAndWorth_56 (by decide) ?_
        have z0 : (0 : Int32).toInt = 0 := rfl
        exact li_iret dX8_readDayAndWorth_57 rfl (li_nz (Or.inl rfl)) ⟨⟨_, rfl, Or.inl rfl, (by first | exact ⟨Or.inr ⟨rfl, fun h9 => e13Zq.1 h9.2.1⟩, Int.le_antisymm (by omega) (by omega), by omega, by omega⟩ | exact ⟨Or.inl ⟨rfl, by omega, f13.1, by omega, Int.le_antisymm (by omega) (by omega)⟩, Int.le_antisymm (by omega) (by omega), by omega, by omega⟩ | exact (f13.elim (fun _ _ => ⟨Or.inr ⟨rfl, fun h9 => absurd h9.2.2 (by omega)⟩, Int.le_antisymm (by omega) (by omega), by omega, by omega⟩)) | exact ⟨Or.inr ⟨rfl, fun h9 => absurd h9.1 (by omega)⟩, Int.le_antisymm (by omega) (by omega), by omega, by omega⟩)⟩, hf⟩
      · have tc18 : 0 ≤ x9.toInt := tl_nlt c18Zq
        refine li_iconst 1 dX8_readDayAndWorth_52 (by decide) ?_
        refine li_goto 57 dX8_readDayAndWorth_53 (by decide) ?_
        have z1 : (1 : Int32).toInt = 1 := rfl
        exact li_iret dX8_readDayAndWorth_57 rfl (li_nz (Or.inr rfl)) ⟨⟨_, rfl, Or.inr rfl, (by first | exact ⟨Or.inr ⟨rfl, fun h9 => e13Zq.1 h9.2.1⟩, Int.le_antisymm (by omega) (by omega), by omega, by omega⟩ | exact ⟨Or.inl ⟨rfl, by omega, f13.1, by omega, Int.le_antisymm (by omega) (by omega)⟩, Int.le_antisymm (by omega) (by omega), by omega, by omega⟩ | exact (f13.elim (fun _ _ => ⟨Or.inr ⟨rfl, fun h9 => absurd h9.2.2 (by omega)⟩, Int.le_antisymm (by omega) (by omega), by omega, by omega⟩)) | exact ⟨Or.inr ⟨rfl, fun h9 => absurd h9.1 (by omega)⟩, Int.le_antisymm (by omega) (by omega), by omega, by omega⟩)⟩, hf⟩
    · have tc8 : x5Zq.toInt = 0 := tl_eq c8Zq
      first | (have e13Zq := qn13 (by assumption)) | skip
      refine li_iconst 0 dX8_readDayAndWorth_19 (by decide) ?_
      have z0 : (0 : Int32).toInt = 0 := rfl
      exact li_iret dX8_readDayAndWorth_20 rfl (li_nz (Or.inl rfl)) ⟨⟨_, rfl, Or.inl rfl, (by first | exact ⟨Or.inr ⟨rfl, fun h9 => e13Zq.1 h9.2.1⟩, Int.le_antisymm (by omega) (by omega), by omega, by omega⟩ | exact ⟨Or.inl ⟨rfl, by omega, f13.1, by omega, Int.le_antisymm (by omega) (by omega)⟩, Int.le_antisymm (by omega) (by omega), by omega, by omega⟩ | exact (f13.elim (fun _ _ => ⟨Or.inr ⟨rfl, fun h9 => absurd h9.2.2 (by omega)⟩, Int.le_antisymm (by omega) (by omega), by omega, by omega⟩)) | exact ⟨Or.inr ⟨rfl, fun h9 => absurd h9.1 (by omega)⟩, Int.le_antisymm (by omega) (by omega), by omega, by omega⟩)⟩, hf⟩

set_option maxRecDepth 100000 in
set_option maxHeartbeats 4000000 in
theorem k10_X11_readWish {l : Launch} {Z : li_Z} (d : Nat) (hdZq : 4 ≤ d) (p1Zq : Int32) (M0 : li_M) (h1 : 0 ≤ (M0.1 1 2).toInt ∧ (M0.1 1 2).toInt ≤ (M0.1 1 1).toInt ∧ (M0.1 1 1).toInt ≤ 80) (Psg_M0 : li_sg (M0.1 2)) (hP5 : 0 ≤ (M0.1 5 0).toInt ∧ (M0.1 5 0).toInt ≤ 6) (A2 : Int) (hA2 : (M0.1 1 2).toInt + 2 = A2) (R1 Q1Zq : Int) (Pnq_M0 : li_nq (M0.1 2) ((M0.1 1 1).toInt) (2) (-1) (A2) (R1) (Q1Zq)) (R2 Q2Zq : Int) (Pn2_M0 : li_n2 (M0.1 2) ((M0.1 1 1).toInt) (2) (-1) (Q1Zq + 1) (R2) (Q2Zq)) (R3 Q3 : Int) (Pn3_M0 : li_n3 (M0.1 2) ((M0.1 1 1).toInt) (2) (-1) (Q2Zq + 1) (R3) (Q3)) : li_Met l Z YX11_readWish d [.ref (Z.2.2 0), .int p1Zq] M0 (fun r M' => (∃ x : Int32, r = some (.int x) ∧ (x = 0 ∨ x = 1) ∧ (((x.toInt = 1 ∧ ((97 ≤ rd_ch (M0.1 2) ((M0.1 1 1).toInt) ((M0.1 1 2).toInt) ∧ rd_ch (M0.1 2) ((M0.1 1 1).toInt) ((M0.1 1 2).toInt) ≤ 96 + (M0.1 5 0).toInt) ∧ (97 ≤ rd_ch (M0.1 2) ((M0.1 1 1).toInt) ((M0.1 1 2).toInt + 1) ∧ rd_ch (M0.1 2) ((M0.1 1 1).toInt) ((M0.1 1 2).toInt + 1) ≤ 96 + (M0.1 5 0).toInt) ∧ ¬ rd_ch (M0.1 2) ((M0.1 1 1).toInt) ((M0.1 1 2).toInt + 1) = rd_ch (M0.1 2) ((M0.1 1 1).toInt) ((M0.1 1 2).toInt) ∧ 0 < R1 ∧ rd_ch (M0.1 2) ((M0.1 1 1).toInt) (Q1Zq) = 45 ∧ 0 ≤ R2 ∧ rd_ch (M0.1 2) ((M0.1 1 1).toInt) (Q2Zq) = 61 ∧ 0 ≤ R3) ∧ (M'.1 1 2).toInt = Q3) ∨ (x.toInt = 0 ∧ ¬ ((97 ≤ rd_ch (M0.1 2) ((M0.1 1 1).toInt) ((M0.1 1 2).toInt) ∧ rd_ch (M0.1 2) ((M0.1 1 1).toInt) ((M0.1 1 2).toInt) ≤ 96 + (M0.1 5 0).toInt) ∧ (97 ≤ rd_ch (M0.1 2) ((M0.1 1 1).toInt) ((M0.1 1 2).toInt + 1) ∧ rd_ch (M0.1 2) ((M0.1 1 1).toInt) ((M0.1 1 2).toInt + 1) ≤ 96 + (M0.1 5 0).toInt) ∧ ¬ rd_ch (M0.1 2) ((M0.1 1 1).toInt) ((M0.1 1 2).toInt + 1) = rd_ch (M0.1 2) ((M0.1 1 1).toInt) ((M0.1 1 2).toInt) ∧ 0 < R1 ∧ rd_ch (M0.1 2) ((M0.1 1 1).toInt) (Q1Zq) = 45 ∧ 0 ≤ R2 ∧ rd_ch (M0.1 2) ((M0.1 1 1).toInt) (Q2Zq) = 61 ∧ 0 ≤ R3))) ∧ (M'.1 1 1).toInt = (M0.1 1 1).toInt ∧ (M'.1 1 2).toInt ≤ (M0.1 1 1).toInt ∧ 0 ≤ (M'.1 1 2).toInt)) ∧ li_fr (fun i => i = 1 ∨ i = 10 ∨ i = 11 ∨ i = 12 ∨ i = 8 ∨ i = 9) M0 M') := by
  refine li_enter (by decide +kernel) (Nat.le_of_ble_eq_true rfl) ?_
  show li_T l Z YX11_readWish d 0 [(0, .ref (Z.2.2 0)), (1, .int p1Zq)] [] M0 _
  have hf : li_fr (fun i => i = 1 ∨ i = 10 ∨ i = 11 ∨ i = 12 ∨ i = 8 ∨ i = 9) M0 M0 := li_fr_refl
  have gp1 := tl_rg p1Zq
  refine li_aload_n 0 dX11_readWish_0 rfl ?_
  refine li_getr (k := 2) (N := 13) (T := TX11) (C0 := RX11) dX11_readWish_1 (by decide) sh_0 rfl rfl (by decide) (by decide) li_in11 w_475 ?_
  refine li_aload_n 0 dX11_readWish_4 rfl ?_
  refine li_getr (k := 0) (N := 13) (T := TX11) (C0 := RX11) dX11_readWish_5 (by decide) sh_0 rfl rfl (by decide) (by decide) li_in11 w_473 ?_
  refine li_iload_n 1 dX11_readWish_8 rfl ?_
  refine li_callV (n := 2) (As := [.ref (Z.2.2 1), .int p1Zq]) dX11_readWish_9 (k10_X8_readTwo (d - 1) (by omega) p1Zq M0 (by omega) Psg_M0 (by omega)) (by omega) (Nat.le_of_ble_eq_true rfl) w_683 w_684 w_685 w_104 w_686 (by decide +kernel) rfl (by decide) sh_5 rfl rfl (Nat.le_of_ble_eq_true rfl) (fun r M2Zq h3 => ?_)
  obtain ⟨⟨x1Zq, rfl, bx1, qx1⟩, h3⟩ := h3
  have ux1 := tl_b bx1
  have hf := li_fr_trans hf h3 (fun i (hZq : i = 1 ∨ i = 8 ∨ i = 9) => (show i = 1 ∨ i = 10 ∨ i = 11 ∨ i = 12 ∨ i = 8 ∨ i = 9 by omega))
  have mM2_5_0 : (M2Zq.1 5 0).toInt = (M0.1 5 0).toInt := by rw [h3.1 5 (show ¬ (5 = 1 ∨ 5 = 8 ∨ 5 = 9) by omega)]
  have Psg_M2 : li_sg (M2Zq.1 2)  := li_sg_tr (h3.1 2 (fun hZq => by first | exact (hZq : False).elim | omega))  Psg_M0
  have Pnq_M2 : li_nq (M2Zq.1 2) ((M2Zq.1 1 1).toInt) (2) (-1) (A2) (R1) (Q1Zq) := li_nq_tr (h3.1 2 (fun hZq => by first | exact (hZq : False).elim | omega)) (by omega) (by omega) (by omega) (by omega) (by omega) (by omega) Pnq_M0
  have Pn2_M2 : li_n2 (M2Zq.1 2) ((M2Zq.1 1 1).toInt) (2) (-1) (Q1Zq + 1) (R2) (Q2Zq) := li_n2_tr (h3.1 2 (fun hZq => by first | exact (hZq : False).elim | omega)) (by omega) (by omega) (by omega) (by omega) (by omega) (by omega) Pn2_M0
  have Pn3_M2 : li_n3 (M2Zq.1 2) ((M2Zq.1 1 1).toInt) (2) (-1) (Q2Zq + 1) (R3) (Q3) := li_n3_tr (h3.1 2 (fun hZq => by first | exact (hZq : False).elim | omega)) (by omega) (by omega) (by omega) (by omega) (by omega) (by omega) Pn3_M0
  have qq9 := qx1.1
  have qr9 := qx1.2
  clear qx1
  refine li_if_eq 49 dX11_readWish_12 (by decide) (fun c4 => ?_) (fun c4 => ?_)
  · have tc4 : x1Zq.toInt = 0 := tl_eq c4
    first | (have e39 := qq39.resolve_left (fun h9 => absurd (h9.1.symm.trans (by assumption)) (by decide)); clear qq39) | (have e24Zq := qq24.resolve_left (fun h9 => absurd (h9.1.symm.trans (by assumption)) (by decide)); clear qq24) | (have e9Zq := qq9.resolve_left (fun h9 => absurd (h9.1.symm.trans (by assumption)) (by decide)); clear qq9)
    refine li_iconst 0 dX11_readWish_49 (by decide) ?_
    have z0 : (0 : Int32).toInt = 0 := rfl
    exact li_iret dX11_readWish_50 rfl (li_nz (Or.inl rfl)) ⟨⟨_, rfl, Or.inl rfl, (by first | exact ⟨Or.inr ⟨rfl, fun h9 => e39.2 ⟨h9.2.2.2.2.2.1, cq2.trans h9.2.2.2.2.2.2.1, h9.2.2.2.2.2.2.2⟩⟩, Int.le_antisymm (by omega) (by omega), by omega, by omega⟩ | exact ⟨Or.inr ⟨rfl, fun h9 => e24Zq.2 ⟨h9.2.2.2.1, cq1.trans h9.2.2.2.2.1⟩⟩, Int.le_antisymm (by omega) (by omega), by omega, by omega⟩ | exact ⟨Or.inr ⟨rfl, fun h9 => e9Zq.2 ⟨h9.1, h9.2.1, h9.2.2.1⟩⟩, Int.le_antisymm (by omega) (by omega), by omega, by omega⟩ | exact ⟨Or.inl ⟨rfl, ⟨f9Zq.2.1.1, f9Zq.2.1.2.1, f9Zq.2.1.2.2, f24.2.1, cq1.symm.trans f24.2.2.1, f39.2.1, cq2.symm.trans f39.2.2.1, f39.2.2.2.1⟩, Int.le_antisymm (by omega) (by omega)⟩, Int.le_antisymm (by omega) (by omega), by omega, by omega⟩)⟩, hf⟩
  · have tc4 : ¬ x1Zq.toInt = 0 := tl_ne c4
    have f9Zq := qq9.resolve_right (fun h9 => absurd h9.1 (by assumption))
    clear qq9
    refine li_aload_n 0 dX11_readWish_15 rfl ?_
    refine li_getr (k := 2) (N := 13) (T := TX11) (C0 := RX11) dX11_readWish_16 (by decide) sh_0 rfl rfl (by decide) (by decide) li_in11 w_475 ?_
    refine li_aload_n 0 dX11_readWish_19 rfl ?_
    refine li_getr (k := 0) (N := 13) (T := TX11) (C0 := RX11) dX11_readWish_20 (by decide) sh_0 rfl rfl (by decide) (by decide) li_in11 w_473 ?_
    refine li_iload_n 1 dX11_readWish_23 rfl ?_
    have cq1 : rd_ch (M2Zq.1 2) ((M2Zq.1 1 1).toInt) (Q1Zq) = rd_ch (M0.1 2) ((M0.1 1 1).toInt) (Q1Zq) := by rw [show M2Zq.1 2 = M0.1 2 from hf.1 2 (by first | decide | omega), show (M2Zq.1 1 1).toInt = (M0.1 1 1).toInt by omega]
    refine li_callV (n := 2) (As := [.ref (Z.2.2 1), .int p1Zq]) dX11_readWish_24 (k10_X8_readSeconds (d - 1) (by omega) p1Zq M2Zq ⟨by omega, by omega, by omega⟩ Psg_M2 R1 Q1Zq (li_nq_tr rfl (Int.le_antisymm (by omega) (by omega)) rfl rfl (Int.le_antisymm (by omega) (by omega)) rfl rfl Pnq_M2)) (by omega) (Nat.le_of_ble_eq_true rfl) w_688 w_689 w_690 w_104 w_691 (by decide +kernel) rfl (by decide) sh_5 rfl rfl (Nat.le_of_ble_eq_true rfl) (fun r M6Zq h7 => ?_)
    obtain ⟨⟨x5Zq, rfl, bx5, qx5⟩, h7⟩ := h7
    have ux5 := tl_b bx5
    have hf := li_fr_trans hf h7 (fun i (hZq : i = 1 ∨ i = 10) => (show i = 1 ∨ i = 10 ∨ i = 11 ∨ i = 12 ∨ i = 8 ∨ i = 9 by omega))
    have mM6_5_0 : (M6Zq.1 5 0).toInt = (M2Zq.1 5 0).toInt := by rw [h7.1 5 (show ¬ (5 = 1 ∨ 5 = 10) by omega)]
    have Psg_M6 : li_sg (M6Zq.1 2)  := li_sg_tr (h7.1 2 (fun hZq => by first | exact (hZq : False).elim | omega))  Psg_M2
    have Pnq_M6 : li_nq (M6Zq.1 2) ((M6Zq.1 1 1).toInt) (2) (-1) (A2) (R1) (Q1Zq) := li_nq_tr (h7.1 2 (fun hZq => by first | exact (hZq : False).elim | omega)) (by omega) (by omega) (by omega) (by omega) (by omega) (by omega) Pnq_M2
    have Pn2_M6 : li_n2 (M6Zq.1 2) ((M6Zq.1 1 1).toInt) (2) (-1) (Q1Zq + 1) (R2) (Q2Zq) := li_n2_tr (h7.1 2 (fun hZq => by first | exact (hZq : False).elim | omega)) (by omega) (by omega) (by omega) (by omega) (by omega) (by omega) Pn2_M2
    have Pn3_M6 : li_n3 (M6Zq.1 2) ((M6Zq.1 1 1).toInt) (2) (-1) (Q2Zq + 1) (R3) (Q3) := li_n3_tr (h7.1 2 (fun hZq => by first | exact (hZq : False).elim | omega)) (by omega) (by omega) (by omega) (by omega) (by omega) (by omega) Pn3_M2
    have qq24 := qx5.1
    have qr24 := qx5.2
    clear qx5
    refine li_if_eq 49 dX11_readWish_27 (by decide) (fun c8Zq => ?_) (fun c8Zq => ?_)
    · have tc8 : x5Zq.toInt = 0 := tl_eq c8Zq
      first | (have e39 := qq39.resolve_left (fun h9 => absurd (h9.1.symm.trans (by assumption)) (by decide)); clear qq39) | (have e24Zq := qq24.resolve_left (fun h9 => absurd (h9.1.symm.trans (by assumption)) (by decide)); clear qq24) | (have e9Zq := qq9.resolve_left (fun h9 => absurd (h9.1.symm.trans (by assumption)) (by decide)); clear qq9)
      refine li_iconst 0 dX11_readWish_49 (by decide) ?_
      have z0 : (0 : Int32).toInt = 0 := rfl
      exact li_iret dX11_readWish_50 rfl (li_nz (Or.inl rfl)) ⟨⟨_, rfl, Or.inl rfl, (by first | exact ⟨Or.inr ⟨rfl, fun h9 => e39.2 ⟨h9.2.2.2.2.2.1, cq2.trans h9.2.2.2.2.2.2.1, h9.2.2.2.2.2.2.2⟩⟩, Int.le_antisymm (by omega) (by omega), by omega, by omega⟩ | exact ⟨Or.inr ⟨rfl, fun h9 => e24Zq.2 ⟨h9.2.2.2.1, cq1.trans h9.2.2.2.2.1⟩⟩, Int.le_antisymm (by omega) (by omega), by omega, by omega⟩ | exact ⟨Or.inr ⟨rfl, fun h9 => e9Zq.2 ⟨h9.1, h9.2.1, h9.2.2.1⟩⟩, Int.le_antisymm (by omega) (by omega), by omega, by omega⟩ | exact ⟨Or.inl ⟨rfl, ⟨f9Zq.2.1.1, f9Zq.2.1.2.1, f9Zq.2.1.2.2, f24.2.1, cq1.symm.trans f24.2.2.1, f39.2.1, cq2.symm.trans f39.2.2.1, f39.2.2.2.1⟩, Int.le_antisymm (by omega) (by omega)⟩, Int.le_antisymm (by omega) (by omega), by omega, by omega⟩)⟩, hf⟩
    · have tc8 : ¬ x5Zq.toInt = 0 := tl_ne c8Zq
      have f24 := qq24.resolve_right (fun h9 => absurd h9.1 (by assumption))
      clear qq24
      refine li_aload_n 0 dX11_readWish_30 rfl ?_
      refine li_getr (k := 2) (N := 13) (T := TX11) (C0 := RX11) dX11_readWish_31 (by decide) sh_0 rfl rfl (by decide) (by decide) li_in11 w_475 ?_
      refine li_aload_n 0 dX11_readWish_34 rfl ?_
      refine li_getr (k := 0) (N := 13) (T := TX11) (C0 := RX11) dX11_readWish_35 (by decide) sh_0 rfl rfl (by decide) (by decide) li_in11 w_473 ?_
      refine li_iload_n 1 dX11_readWish_38 rfl ?_
      have cq2 : rd_ch (M6Zq.1 2) ((M6Zq.1 1 1).toInt) (Q2Zq) = rd_ch (M0.1 2) ((M0.1 1 1).toInt) (Q2Zq) := by rw [show M6Zq.1 2 = M0.1 2 from hf.1 2 (by first | decide | omega), show (M6Zq.1 1 1).toInt = (M0.1 1 1).toInt by omega]
      refine li_callV (n := 2) (As := [.ref (Z.2.2 1), .int p1Zq]) dX11_readWish_39 (k10_X8_readDayAndWorth (d - 1) (by omega) p1Zq M6Zq ⟨by omega, by omega, by omega⟩ Psg_M6 R2 Q2Zq (li_nq_tr rfl (Int.le_antisymm (by omega) (by omega)) rfl rfl (Int.le_antisymm (by omega) (by omega)) rfl rfl Pn2_M6) R3 Q3 (li_nq_tr rfl (Int.le_antisymm (by omega) (by omega)) rfl rfl rfl rfl rfl Pn3_M6)) (by omega) (Nat.le_of_ble_eq_true rfl) w_692 w_693 w_694 w_104 w_695 (by decide +kernel) rfl (by decide) sh_5 rfl rfl (Nat.le_of_ble_eq_true rfl) (fun r M10 h11 => ?_)
      obtain ⟨⟨x9, rfl, bx9, qx9⟩, h11⟩ := h11
      have ux9 := tl_b bx9
      have hf := li_fr_trans hf h11 (fun i (hZq : i = 1 ∨ i = 11 ∨ i = 12) => (show i = 1 ∨ i = 10 ∨ i = 11 ∨ i = 12 ∨ i = 8 ∨ i = 9 by omega))
      have mM10_5_0 : (M10.1 5 0).toInt = (M6Zq.1 5 0).toInt := by rw [h11.1 5 (show ¬ (5 = 1 ∨ 5 = 11 ∨ 5 = 12) by omega)]
      have Psg_M10 : li_sg (M10.1 2)  := li_sg_tr (h11.1 2 (fun hZq => by first | exact (hZq : False).elim | omega))  Psg_M6
      have Pnq_M10 : li_nq (M10.1 2) ((M10.1 1 1).toInt) (2) (-1) (A2) (R1) (Q1Zq) := li_nq_tr (h11.1 2 (fun hZq => by first | exact (hZq : False).elim | omega)) (by omega) (by omega) (by omega) (by omega) (by omega) (by omega) Pnq_M6
      have Pn2_M10 : li_n2 (M10.1 2) ((M10.1 1 1).toInt) (2) (-1) (Q1Zq + 1) (R2) (Q2Zq) := li_n2_tr (h11.1 2 (fun hZq => by first | exact (hZq : False).elim | omega)) (by omega) (by omega) (by omega) (by omega) (by omega) (by omega) Pn2_M6
      have Pn3_M10 : li_n3 (M10.1 2) ((M10.1 1 1).toInt) (2) (-1) (Q2Zq + 1) (R3) (Q3) := li_n3_tr (h11.1 2 (fun hZq => by first | exact (hZq : False).elim | omega)) (by omega) (by omega) (by omega) (by omega) (by omega) (by omega) Pn3_M6
      have qq39 := qx9.1
      have qr39 := qx9.2
      clear qx9
      refine li_if_eq 49 dX11_readWish_42 (by decide) (fun c12Zq => ?_) (fun c12Zq => ?_)
      · have tc12 : x9.toInt = 0 := tl_eq c12Zq
        first | (have e39 := qq39.resolve_left (fun h9 => absurd (h9.1.symm.trans (by assumption)) (by decide)); clear qq39) | (have e24Zq := qq24.resolve_left (fun h9 => absurd (h9.1.symm.trans (by assumption)) (by decide)); clear qq24) | (have e9Zq := qq9.resolve_left (fun h9 => absurd (h9.1.symm.trans (by assumption)) (by decide)); clear qq9)
        refine li_iconst 0 dX11_readWish_49 (by decide) ?_
        have z0 : (0 : Int32).toInt = 0 := rfl
        exact li_iret dX11_readWish_50 rfl (li_nz (Or.inl rfl)) ⟨⟨_, rfl, Or.inl rfl, (by first | exact ⟨Or.inr ⟨rfl, fun h9 => e39.2 ⟨h9.2.2.2.2.2.1, cq2.trans h9.2.2.2.2.2.2.1, h9.2.2.2.2.2.2.2⟩⟩, Int.le_antisymm (by omega) (by omega), by omega, by omega⟩ | exact ⟨Or.inr ⟨rfl, fun h9 => e24Zq.2 ⟨h9.2.2.2.1, cq1.trans h9.2.2.2.2.1⟩⟩, Int.le_antisymm (by omega) (by omega), by omega, by omega⟩ | exact ⟨Or.inr ⟨rfl, fun h9 => e9Zq.2 ⟨h9.1, h9.2.1, h9.2.2.1⟩⟩, Int.le_antisymm (by omega) (by omega), by omega, by omega⟩ | exact ⟨Or.inl ⟨rfl, ⟨f9Zq.2.1.1, f9Zq.2.1.2.1, f9Zq.2.1.2.2, f24.2.1, cq1.symm.trans f24.2.2.1, f39.2.1, cq2.symm.trans f39.2.2.1, f39.2.2.2.1⟩, Int.le_antisymm (by omega) (by omega)⟩, Int.le_antisymm (by omega) (by omega), by omega, by omega⟩)⟩, hf⟩
      · have tc12 : ¬ x9.toInt = 0 := tl_ne c12Zq
        have f39 := qq39.resolve_right (fun h9 => absurd h9.1 (by assumption))
        clear qq39
        refine li_iconst 1 dX11_readWish_45 (by decide) ?_
        refine li_goto 50 dX11_readWish_46 (by decide) ?_
        have z1 : (1 : Int32).toInt = 1 := rfl
        exact li_iret dX11_readWish_50 rfl (li_nz (Or.inr rfl)) ⟨⟨_, rfl, Or.inr rfl, (by first | exact ⟨Or.inr ⟨rfl, fun h9 => e39.2 ⟨h9.2.2.2.2.2.1, cq2.trans h9.2.2.2.2.2.2.1, h9.2.2.2.2.2.2.2⟩⟩, Int.le_antisymm (by omega) (by omega), by omega, by omega⟩ | exact ⟨Or.inr ⟨rfl, fun h9 => e24Zq.2 ⟨h9.2.2.2.1, cq1.trans h9.2.2.2.2.1⟩⟩, Int.le_antisymm (by omega) (by omega), by omega, by omega⟩ | exact ⟨Or.inr ⟨rfl, fun h9 => e9Zq.2 ⟨h9.1, h9.2.1, h9.2.2.1⟩⟩, Int.le_antisymm (by omega) (by omega), by omega, by omega⟩ | exact ⟨Or.inl ⟨rfl, ⟨f9Zq.2.1.1, f9Zq.2.1.2.1, f9Zq.2.1.2.2, f24.2.1, cq1.symm.trans f24.2.2.1, f39.2.1, cq2.symm.trans f39.2.2.1, f39.2.2.2.1⟩, Int.le_antisymm (by omega) (by omega)⟩, Int.le_antisymm (by omega) (by omega), by omega, by omega⟩)⟩, hf⟩

set_option maxRecDepth 100000 in
set_option maxHeartbeats 4000000 in
theorem k10_X11_readLine {l : Launch} {Z : li_Z} (d : Nat) (hdZq : 5 ≤ d) (p1Zq : Int32) (p2Zq : Int32) (M0 : li_M) (h1 : 0 ≤ (M0.1 1 2).toInt ∧ (M0.1 1 2).toInt ≤ (M0.1 1 1).toInt ∧ (M0.1 1 1).toInt ≤ 80) (Psg_M0 : li_sg (M0.1 2)) (hP5 : 0 ≤ (M0.1 5 0).toInt ∧ (M0.1 5 0).toInt ≤ 6) (A2 : Int) (hA2 : (M0.1 1 2).toInt + 2 = A2) (R1 Q1Zq : Int) (Pnq_M0 : li_nq (M0.1 2) ((M0.1 1 1).toInt) (2) (-1) (A2) (R1) (Q1Zq)) (R2 Q2Zq : Int) (Pn2_M0 : li_n2 (M0.1 2) ((M0.1 1 1).toInt) (2) (-1) (Q1Zq + 1) (R2) (Q2Zq)) (R3 Q3 : Int) (Pn3_M0 : li_n3 (M0.1 2) ((M0.1 1 1).toInt) (2) (-1) (Q2Zq + 1) (R3) (Q3)) (h2 : p1Zq.toInt = 1) : li_Met l Z YX11_readLine d [.ref (Z.2.2 0), .int p1Zq, .int p2Zq] M0 (fun r M' => (∃ x : Int32, r = some (.int x) ∧ (x = 0 ∨ x = 1) ∧ (((x.toInt = 1 ∧ ((97 ≤ rd_ch (M0.1 2) ((M0.1 1 1).toInt) ((M0.1 1 2).toInt) ∧ rd_ch (M0.1 2) ((M0.1 1 1).toInt) ((M0.1 1 2).toInt) ≤ 96 + (M0.1 5 0).toInt) ∧ (97 ≤ rd_ch (M0.1 2) ((M0.1 1 1).toInt) ((M0.1 1 2).toInt + 1) ∧ rd_ch (M0.1 2) ((M0.1 1 1).toInt) ((M0.1 1 2).toInt + 1) ≤ 96 + (M0.1 5 0).toInt) ∧ ¬ rd_ch (M0.1 2) ((M0.1 1 1).toInt) ((M0.1 1 2).toInt + 1) = rd_ch (M0.1 2) ((M0.1 1 1).toInt) ((M0.1 1 2).toInt) ∧ 0 < R1 ∧ rd_ch (M0.1 2) ((M0.1 1 1).toInt) (Q1Zq) = 45 ∧ 0 ≤ R2 ∧ rd_ch (M0.1 2) ((M0.1 1 1).toInt) (Q2Zq) = 61 ∧ 0 ≤ R3) ∧ (M'.1 1 2).toInt = Q3) ∨ (x.toInt = 0 ∧ ¬ ((97 ≤ rd_ch (M0.1 2) ((M0.1 1 1).toInt) ((M0.1 1 2).toInt) ∧ rd_ch (M0.1 2) ((M0.1 1 1).toInt) ((M0.1 1 2).toInt) ≤ 96 + (M0.1 5 0).toInt) ∧ (97 ≤ rd_ch (M0.1 2) ((M0.1 1 1).toInt) ((M0.1 1 2).toInt + 1) ∧ rd_ch (M0.1 2) ((M0.1 1 1).toInt) ((M0.1 1 2).toInt + 1) ≤ 96 + (M0.1 5 0).toInt) ∧ ¬ rd_ch (M0.1 2) ((M0.1 1 1).toInt) ((M0.1 1 2).toInt + 1) = rd_ch (M0.1 2) ((M0.1 1 1).toInt) ((M0.1 1 2).toInt) ∧ 0 < R1 ∧ rd_ch (M0.1 2) ((M0.1 1 1).toInt) (Q1Zq) = 45 ∧ 0 ≤ R2 ∧ rd_ch (M0.1 2) ((M0.1 1 1).toInt) (Q2Zq) = 61 ∧ 0 ≤ R3))) ∧ (M'.1 1 1).toInt = (M0.1 1 1).toInt ∧ (M'.1 1 2).toInt ≤ (M0.1 1 1).toInt ∧ 0 ≤ (M'.1 1 2).toInt)) ∧ li_fr (fun i => i = 1 ∨ i = 10 ∨ i = 11 ∨ i = 12 ∨ i = 8 ∨ i = 9) M0 M') := by
  refine li_enter (by decide +kernel) (Nat.le_of_ble_eq_true rfl) ?_
  show li_T l Z YX11_readLine d 0 [(0, .ref (Z.2.2 0)), (1, .int p1Zq), (2, .int p2Zq)] [] M0 _
  have hf : li_fr (fun i => i = 1 ∨ i = 10 ∨ i = 11 ∨ i = 12 ∨ i = 8 ∨ i = 9) M0 M0 := li_fr_refl
  have gp1 := tl_rg p1Zq
  have gp2 := tl_rg p2Zq
  refine li_iload_n 1 dX11_readLine_0 rfl ?_
  refine li_table dX11_readLine_1 69 (by decide) (fun c1 => ?_) (fun c1a c1b => ?_)
  · exfalso; omega
  · rcases (show (p1Zq : Int32).toInt = 0 ∨ (p1Zq : Int32).toInt = 1 ∨ (p1Zq : Int32).toInt = 2 by omega) with c1 | c1 | c1
    · exfalso; omega
    · refine ⟨48, 49, by rw [c1]; rfl, by decide, ?_⟩
      refine li_aload_n 0 dX11_readLine_49 rfl ?_
      refine li_aload_n 0 dX11_readLine_50 rfl ?_
      refine li_getr (k := 2) (N := 13) (T := TX11) (C0 := RX11) dX11_readLine_51 (by decide) sh_0 rfl rfl (by decide) (by decide) li_in11 w_475 ?_
      refine li_geti (k := 1) (N := 9) (T := TX8) (C0 := RX8) dX11_readLine_54 (by decide) sh_5 rfl rfl (by decide) li_in8 w_180 ?_
      refine li_top (fun x2Zq ex2Zq => ?_)
      have gx2 := tl_rg x2Zq
      refine li_iload_n 2 dX11_readLine_57 rfl ?_
      refine li_iadd dX11_readLine_58 ?_
      refine li_top (fun x3 ex3Zq => ?_)
      have tx3 : (-2147483648 ≤ x2Zq.toInt + p2Zq.toInt ∧ x2Zq.toInt + p2Zq.toInt ≤ 2147483647) → x3.toInt = x2Zq.toInt + p2Zq.toInt := tl_add ex3Zq
      refine li_callV (n := 1) (As := [.int x3]) dX11_readLine_59 (k10_X11_readWish (d - 1) (by omega) x3 M0 (by omega) Psg_M0 (by omega) A2 hA2 R1 Q1Zq Pnq_M0 R2 Q2Zq Pn2_M0 R3 Q3 Pn3_M0) (by omega) (Nat.le_of_ble_eq_true rfl) w_679 w_681 w_10 w_101 w_682 (by decide +kernel) rfl (by decide) sh_0 rfl rfl (Nat.le_of_ble_eq_true rfl) (fun r M5Zq h6 => ?_)
      obtain ⟨⟨x4Zq, rfl, bx4, qx4⟩, h6⟩ := h6
      have ux4 := tl_b bx4
      have hf := li_fr_trans hf h6 (fun i (hZq : i = 1 ∨ i = 10 ∨ i = 11 ∨ i = 12 ∨ i = 8 ∨ i = 9) => (show i = 1 ∨ i = 10 ∨ i = 11 ∨ i = 12 ∨ i = 8 ∨ i = 9 by omega))
      have mM5_5_0 : (M5Zq.1 5 0).toInt = (M0.1 5 0).toInt := by rw [h6.1 5 (show ¬ (5 = 1 ∨ 5 = 10 ∨ 5 = 11 ∨ 5 = 12 ∨ 5 = 8 ∨ 5 = 9) by omega)]
      have Psg_M5 : li_sg (M5Zq.1 2)  := li_sg_tr (h6.1 2 (fun hZq => by first | exact (hZq : False).elim | omega))  Psg_M0
      have Pnq_M5 : li_nq (M5Zq.1 2) ((M5Zq.1 1 1).toInt) (2) (-1) (A2) (R1) (Q1Zq) := li_nq_tr (h6.1 2 (fun hZq => by first | exact (hZq : False).elim | omega)) (by omega) (by omega) (by omega) (by omega) (by omega) (by omega) Pnq_M0
      have Pn2_M5 : li_n2 (M5Zq.1 2) ((M5Zq.1 1 1).toInt) (2) (-1) (Q1Zq + 1) (R2) (Q2Zq) := li_n2_tr (h6.1 2 (fun hZq => by first | exact (hZq : False).elim | omega)) (by omega) (by omega) (by omega) (by omega) (by omega) (by omega) Pn2_M0
      have Pn3_M5 : li_n3 (M5Zq.1 2) ((M5Zq.1 1 1).toInt) (2) (-1) (Q2Zq + 1) (R3) (Q3) := li_n3_tr (h6.1 2 (fun hZq => by first | exact (hZq : False).elim | omega)) (by omega) (by omega) (by omega) (by omega) (by omega) (by omega) Pn3_M0
      have qr := qx4
      exact li_iret dX11_readLine_62 rfl (li_nz (bx4)) ⟨⟨_, rfl, bx4, (by exact qr)⟩, hf⟩
    · exfalso; omega

set_option maxRecDepth 100000 in
set_option maxHeartbeats 4000000 in
theorem k10_X11_readLines {l : Launch} {Z : li_Z} (d : Nat) (hdZq : 6 ≤ d) (p1Zq : Int32) (p2Zq : Int32) (M0 : li_M) (h1 : 0 ≤ (M0.1 1 2).toInt ∧ (M0.1 1 2).toInt ≤ (M0.1 1 1).toInt ∧ (M0.1 1 1).toInt ≤ 80) (Psg_M0 : li_sg (M0.1 2)) (hP5 : 0 ≤ (M0.1 5 0).toInt ∧ (M0.1 5 0).toInt ≤ 6) (h2 : p1Zq.toInt = 1 ∧ p2Zq.toInt ≤ 100) (MM : Int) (Ptl_M0 : li_tl (M0.1 2) ((M0.1 1 1).toInt) ((M0.1 5 0).toInt) (p2Zq.toInt) ((M0.1 1 2).toInt) (0) (MM)) : li_Met l Z YX11_readLines d [.ref (Z.2.2 0), .int p1Zq, .int p2Zq] M0 (fun r M' => (∃ x : Int32, r = some (.int x) ∧ (((0 < MM ∧ x.toInt = MM) ∨ (MM = -1 ∧ x.toInt = -1)) ∧ 0 ≤ (M'.1 1 2).toInt ∧ (M'.1 1 2).toInt ≤ (M0.1 1 1).toInt ∧ (M'.1 1 1).toInt = (M0.1 1 1).toInt)) ∧ li_fr (fun i => i = 1 ∨ i = 10 ∨ i = 11 ∨ i = 12 ∨ i = 8 ∨ i = 9) M0 M') := by
  refine li_enter (by decide +kernel) (Nat.le_of_ble_eq_true rfl) ?_
  show li_T l Z YX11_readLines d 0 [(0, .ref (Z.2.2 0)), (1, .int p1Zq), (2, .int p2Zq)] [] M0 _
  have hf : li_fr (fun i => i = 1 ∨ i = 10 ∨ i = 11 ∨ i = 12 ∨ i = 8 ∨ i = 9) M0 M0 := li_fr_refl
  have gp1 := tl_rg p1Zq
  have gp2 := tl_rg p2Zq
  refine li_iconst 0 dX11_readLines_0 (by decide) ?_
  refine li_istore_n [(3, .int 0), (0, .ref (Z.2.2 0)), (1, .int p1Zq), (2, .int p2Zq)] dX11_readLines_1 (by decide) rfl ?_
  have L2Zq : ∀ (n : Nat) (x1Zq : Int32) (M2Zq : li_M), (p2Zq.toInt - (x1Zq : Int32).toInt).toNat < n → li_fr (fun i => i = 1 ∨ i = 10 ∨ i = 11 ∨ i = 12 ∨ i = 8 ∨ i = 9) M0 M2Zq → 0 ≤ (x1Zq : Int32).toInt ∧ 0 ≤ (M2Zq.1 1 2).toInt ∧ (M2Zq.1 1 2).toInt ≤ (M2Zq.1 1 1).toInt ∧ (M2Zq.1 1 1).toInt = (M0.1 1 1).toInt ∧ (M2Zq.1 5 0).toInt = (M0.1 5 0).toInt → li_sg (M2Zq.1 2)  → li_tl (M2Zq.1 2) ((M2Zq.1 1 1).toInt) ((M0.1 5 0).toInt) (p2Zq.toInt - (x1Zq : Int32).toInt) ((M2Zq.1 1 2).toInt) ((x1Zq : Int32).toInt) (MM) → li_T l Z YX11_readLines d 2 [(3, .int x1Zq), (0, .ref (Z.2.2 0)), (1, .int p1Zq), (2, .int p2Zq)] [] M2Zq (fun r M' => (∃ x : Int32, r = some (.int x) ∧ (((0 < MM ∧ x.toInt = MM) ∨ (MM = -1 ∧ x.toInt = -1)) ∧ 0 ≤ (M'.1 1 2).toInt ∧ (M'.1 1 2).toInt ≤ (M0.1 1 1).toInt ∧ (M'.1 1 1).toInt = (M0.1 1 1).toInt)) ∧ li_fr (fun i => i = 1 ∨ i = 10 ∨ i = 11 ∨ i = 12 ∨ i = 8 ∨ i = 9) M0 M') := by
    intro n
    induction n with
    | zero => intro x1Zq M2Zq hn; exact absurd hn (Nat.not_lt_zero _)
    | succ n ih2 =>
      intro x1Zq M2Zq hn hf hiZq Psg_M2 Ptl_M2
      have gx1 := tl_rg x1Zq
      refine li_iload_n 0 dX11_readLines_2 rfl ?_
      refine li_iload_n 3 dX11_readLines_3 rfl ?_
      refine li_icmp_ge 52 dX11_readLines_4 (by decide) (fun c3 => ?_) (fun c3 => ?_)
      · have tc3 : p2Zq.toInt ≤ x1Zq.toInt := tl_le c3
        refine li_iconst (-1) dX11_readLines_52 (by decide) ?_
        have zm1 : ((-1) : Int32).toInt = -1 := rfl
        exact li_iret dX11_readLines_53 rfl rfl ⟨⟨_, rfl, (by first | omega | (have zz := li_tl_z Ptl_M2 (by omega); omega))⟩, hf⟩
      · have tc3 : x1Zq.toInt < p2Zq.toInt := tl_nle c3
        refine li_aload_n 1 dX11_readLines_7 rfl ?_
        refine li_iload_n 2 dX11_readLines_8 rfl ?_
        refine li_iload_n 0 dX11_readLines_9 rfl ?_
        have hf0 := hf
        have tl0 := Ptl_M2
        obtain ⟨R1, Q1Zq, nq0⟩ : ∃ r q, li_nq (M2Zq.1 2) ((M2Zq.1 1 1).toInt) (2) (-1) ((M2Zq.1 1 2).toInt + 2) r q := li_nq_self
        obtain ⟨R2, Q2Zq, n20⟩ : ∃ r q, li_nq (M2Zq.1 2) ((M2Zq.1 1 1).toInt) (2) (-1) (Q1Zq + 1) r q := li_nq_self
        obtain ⟨R3, Q3, n30Zq⟩ : ∃ r q, li_nq (M2Zq.1 2) ((M2Zq.1 1 1).toInt) (2) (-1) (Q2Zq + 1) r q := li_nq_self
        obtain ⟨KZq, tk0⟩ : ∃ KZq, li_tk (M2Zq.1 2) ((M2Zq.1 1 1).toInt) ((M0.1 5 0).toInt) ((M2Zq.1 1 2).toInt) R1 Q1Zq R2 Q2Zq R3 KZq := li_tk_self
        have stq := li_tl_r2 tl0 (by omega) nq0 n20 n30Zq tk0
        refine li_callV (n := 2) (As := [.int p1Zq, .int x1Zq]) dX11_readLines_10 (k10_X11_readLine (d - 1) (by omega) p1Zq x1Zq M2Zq ⟨by omega, by omega, by omega⟩ Psg_M2 ⟨by omega, by omega⟩ _ rfl R1 Q1Zq nq0 R2 Q2Zq n20 R3 Q3 n30Zq (by omega)) (by omega) (Nat.le_of_ble_eq_true rfl) w_668 w_670 w_9 w_101 w_671 (by decide +kernel) rfl (by decide) sh_0 rfl rfl (Nat.le_of_ble_eq_true rfl) (fun r M5Zq h6 => ?_)
        obtain ⟨⟨x4Zq, rfl, bx4, qx4⟩, h6⟩ := h6
        have ux4 := tl_b bx4
        have hf := li_fr_trans hf h6 (fun i (hZq : i = 1 ∨ i = 10 ∨ i = 11 ∨ i = 12 ∨ i = 8 ∨ i = 9) => (show i = 1 ∨ i = 10 ∨ i = 11 ∨ i = 12 ∨ i = 8 ∨ i = 9 by omega))
        have mM5_5_0 : (M5Zq.1 5 0).toInt = (M2Zq.1 5 0).toInt := by rw [h6.1 5 (show ¬ (5 = 1 ∨ 5 = 10 ∨ 5 = 11 ∨ 5 = 12 ∨ 5 = 8 ∨ 5 = 9) by omega)]
        have Psg_M5 : li_sg (M5Zq.1 2)  := li_sg_tr (h6.1 2 (fun hZq => by first | exact (hZq : False).elim | omega))  Psg_M2
        rw [show (M2Zq.1 5 0).toInt = (M0.1 5 0).toInt from Int.le_antisymm (by omega) (by omega)] at qx4
        have rk := li_tk_eq tk0 qx4.1
        have rq := qx4.2
        clear qx4
        refine li_if_ne 18 dX11_readLines_13 (by decide) (fun c7Zq => ?_) (fun c7Zq => ?_)
        · have tc7 : ¬ x4Zq.toInt = 0 := tl_ne c7Zq
          have rp := rk.2 (by assumption)
          have rk := rk.1
          refine li_aload_n 1 dX11_readLines_18 rfl ?_
          refine li_getr (k := 0) (N := 13) (T := TX11) (C0 := RX11) dX11_readLines_19 (by decide) sh_0 rfl rfl (by decide) (by decide) li_in11 w_473 ?_
          refine li_callV (n := 0) (As := []) dX11_readLines_22 (k5_X7_atEnd (d - 1) (by omega) M5Zq) (by omega) (Nat.le_of_ble_eq_true rfl) w_663 w_545 w_546 w_102 w_547 (by decide +kernel) rfl (by decide) sh_1 rfl rfl (Nat.le_of_ble_eq_true rfl) (fun r M9Zq h10 => ?_)
          obtain ⟨⟨x8, rfl, bx8, qx8⟩, h10⟩ := h10
          have ux8 := tl_b bx8
          have hf := li_fr_trans hf h10 (fun i hZq => False.elim hZq)
          have mM9_1_1 : (M9Zq.1 1 1).toInt = (M5Zq.1 1 1).toInt := by rw [h10.1 1 id]
          have mM9_1_2 : (M9Zq.1 1 2).toInt = (M5Zq.1 1 2).toInt := by rw [h10.1 1 id]
          have mM9_5_0 : (M9Zq.1 5 0).toInt = (M5Zq.1 5 0).toInt := by rw [h10.1 5 id]
          have Psg_M9 : li_sg (M9Zq.1 2)  := li_sg_tr (h10.1 2 (fun hZq => by first | exact (hZq : False).elim | omega))  Psg_M5
          refine li_if_eq 32 dX11_readLines_25 (by decide) (fun c11Zq => ?_) (fun c11Zq => ?_)
          · have tc11 : x8.toInt = 0 := tl_eq c11Zq
            refine li_aload_n 1 dX11_readLines_32 rfl ?_
            refine li_getr (k := 0) (N := 13) (T := TX11) (C0 := RX11) dX11_readLines_33 (by decide) sh_0 rfl rfl (by decide) (by decide) li_in11 w_473 ?_
            refine li_bipush 59 dX11_readLines_36 (by decide) ?_
            have chs : rd_ch (M9Zq.1 2) ((M9Zq.1 1 1).toInt) ((M9Zq.1 1 2).toInt) = rd_ch (M2Zq.1 2) ((M2Zq.1 1 1).toInt) (Q3) := by rw [show M9Zq.1 2 = M2Zq.1 2 from (hf.1 2 (by omega)).trans (hf0.1 2 (by omega)).symm, show (M9Zq.1 1 1).toInt = (M2Zq.1 1 1).toInt from Int.le_antisymm (by omega) (by omega), show (M9Zq.1 1 2).toInt = Q3 from Int.le_antisymm (by omega) (by omega)]
            refine li_callV (n := 1) (As := [.int 59]) dX11_readLines_38 (k5_X7_skip (d - 1) (by omega) 59 M9Zq (by omega) Psg_M9 (by decide)) (by omega) (Nat.le_of_ble_eq_true rfl) w_700 w_565 w_566 w_102 w_567 (by decide +kernel) rfl (by decide) sh_1 rfl rfl (Nat.le_of_ble_eq_true rfl) (fun r M13 h14 => ?_)
            have z59Zq : (59 : Int32).toInt = 59 := rfl
            obtain ⟨⟨x12, rfl, bx12, qx12⟩, h14⟩ := h14
            have ux12 := tl_b bx12
            have hf := li_fr_trans hf h14 (fun i (hZq : i = 1) => (show i = 1 ∨ i = 10 ∨ i = 11 ∨ i = 12 ∨ i = 8 ∨ i = 9 by omega))
            have mM13_5_0 : (M13.1 5 0).toInt = (M9Zq.1 5 0).toInt := by rw [h14.1 5 (show ¬ (5 = 1) by omega)]
            have Psg_M13 : li_sg (M13.1 2)  := li_sg_tr (h14.1 2 (fun hZq => by first | exact (hZq : False).elim | omega))  Psg_M9
            refine li_if_ne 46 dX11_readLines_41 (by decide) (fun c15Zq => ?_) (fun c15Zq => ?_)
            · have tc15 : ¬ x12.toInt = 0 := tl_ne c15Zq
              obtain ⟨x16, ex16⟩ : ∃ y : Int32, y = x1Zq + 1 := ⟨_, rfl⟩
              have tx16 : (-2147483648 ≤ x1Zq.toInt + 1 ∧ x1Zq.toInt + 1 ≤ 2147483647) → x16.toInt = x1Zq.toInt + 1 := tl_add ex16
              refine li_iinc 0 [(3, .int x16), (0, .ref (Z.2.2 0)), (1, .int p1Zq), (2, .int p2Zq)] x16 dX11_readLines_46 rfl (by rw [ex16]; rfl) (by decide) rfl ?_
              refine li_goto 2 dX11_readLines_49 (by decide) ?_
              refine li_pick [0, 1, 2, 3] [(3, .int x16), (0, .ref (Z.2.2 0)), (1, .int p1Zq), (2, .int p2Zq)] rfl ?_
              exact ih2 x16 M13 (by omega) hf (by omega) (by first | exact li_sg_tr rfl  Psg_M13) (by first | exact li_tl_tr ((hf.1 2 (by omega)).trans (hf0.1 2 (by omega)).symm) (Int.le_antisymm (by omega) (by omega)) (Int.le_antisymm (by omega) (by omega)) (Int.le_antisymm (by omega) (by omega)) (Int.le_antisymm (by omega) (by omega)) (Int.le_antisymm (by omega) (by omega)) rfl (li_tl_go tl0 (by omega) nq0 n20 n30Zq ⟨li_tk_y tk0 (Int.le_antisymm (by omega) (by omega)), by omega, Int.le_antisymm (by omega) (by omega)⟩))
            · have tc15 : x12.toInt = 0 := tl_eq c15Zq
              refine li_iconst (-1) dX11_readLines_44 (by decide) ?_
              have zm1 : ((-1) : Int32).toInt = -1 := rfl
              exact li_iret dX11_readLines_45 rfl rfl ⟨⟨_, rfl, (by first | omega | (have zz := li_tl_z Ptl_M13 (by omega); omega))⟩, hf⟩
          · have tc11 : ¬ x8.toInt = 0 := tl_ne c11Zq
            refine li_iload_n 0 dX11_readLines_28 rfl ?_
            refine li_iconst 1 dX11_readLines_29 (by decide) ?_
            refine li_iadd dX11_readLines_30 ?_
            refine li_top (fun x17 ex17 => ?_)
            have tx17 : (-2147483648 ≤ x1Zq.toInt + 1 ∧ x1Zq.toInt + 1 ≤ 2147483647) → x17.toInt = x1Zq.toInt + 1 := tl_add ex17
            exact li_iret dX11_readLines_31 rfl rfl ⟨⟨_, rfl, (by first | omega | (have zz := li_tl_z Ptl_M9 (by omega); omega))⟩, hf⟩
        · have tc7 : x4Zq.toInt = 0 := tl_eq c7Zq
          refine li_iconst (-1) dX11_readLines_16 (by decide) ?_
          have zm1 : ((-1) : Int32).toInt = -1 := rfl
          exact li_iret dX11_readLines_17 rfl rfl ⟨⟨_, rfl, (by first | omega | (have zz := li_tl_z Ptl_M5 (by omega); omega))⟩, hf⟩
  have z0 : (0 : Int32).toInt = 0 := rfl
  exact L2Zq _ 0 M0 (Nat.lt_succ_self _) hf (by omega) (by first | exact li_sg_tr rfl  Psg_M0) (by first | exact li_tl_tr rfl (by omega) (by omega) (by omega) (by omega) (by omega) (by omega) Ptl_M0 | exact li_tl_tr ((hf.1 2 (by omega)).trans (hf0.1 2 (by omega)).symm) (Int.le_antisymm (by omega) (by omega)) (Int.le_antisymm (by omega) (by omega)) (Int.le_antisymm (by omega) (by omega)) (Int.le_antisymm (by omega) (by omega)) (Int.le_antisymm (by omega) (by omega)) rfl (li_tl_go tl0 (by omega) nq0 n20 n30Zq ⟨li_tk_y tk0 (Int.le_antisymm (by omega) (by omega)), by omega, Int.le_antisymm (by omega) (by omega)⟩))

