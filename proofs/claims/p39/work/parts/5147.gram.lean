set_option maxRecDepth 100000 in
set_option maxHeartbeats 4000000 in
theorem k7_X7_takeOneOf {l : Launch} {Z : li_Z} (d : Nat) (hd : 2 ≤ d) (p1 : Int32) (p2 : Int32) (M0 : li_M) (h1 : 0 ≤ (M0.1 1 2).toInt ∧ (M0.1 1 2).toInt ≤ (M0.1 1 1).toInt ∧ (M0.1 1 1).toInt ≤ 80) (Psg_M0 : li_sg (M0.1 2)) (h2 : 0 ≤ p1.toInt ∧ p1.toInt ≤ 200) (h3 : 0 ≤ p2.toInt ∧ p2.toInt ≤ 30) : li_Met l Z YX7_takeOneOf d [.ref (Z.2.2 1), .int p1, .int p2] M0 (fun r M' => (∃ x : Int32, r = some (.int x) ∧ (((p1.toInt ≤ rd_ch (M0.1 2) ((M0.1 1 1).toInt) ((M0.1 1 2).toInt) ∧ rd_ch (M0.1 2) ((M0.1 1 1).toInt) ((M0.1 1 2).toInt) ≤ p1.toInt + p2.toInt - 1 ∧ x.toInt = rd_ch (M0.1 2) ((M0.1 1 1).toInt) ((M0.1 1 2).toInt) - p1.toInt ∧ (M'.1 1 2).toInt = (M0.1 1 2).toInt + 1 ∧ (M0.1 1 2).toInt < (M0.1 1 1).toInt) ∨ (¬ (p1.toInt ≤ rd_ch (M0.1 2) ((M0.1 1 1).toInt) ((M0.1 1 2).toInt) ∧ rd_ch (M0.1 2) ((M0.1 1 1).toInt) ((M0.1 1 2).toInt) ≤ p1.toInt + p2.toInt - 1) ∧ x.toInt = -1 ∧ (M'.1 1 2).toInt = (M0.1 1 2).toInt)) ∧ (M'.1 1 1).toInt = (M0.1 1 1).toInt)) ∧ li_fr (fun i => i = 1) M0 M') := by
  refine li_enter (by decide +kernel) (Nat.le_of_ble_eq_true rfl) ?_
  show li_T l Z YX7_takeOneOf d 0 [(0, .ref (Z.2.2 1)), (1, .int p1), (2, .int p2)] [] M0 _
  have hf : li_fr (fun i => i = 1) M0 M0 := li_fr_refl
  have gp1 := tl_rg p1
  have gp2 := tl_rg p2
  refine li_aload_n 0 dX7_takeOneOf_0 rfl ?_
  refine li_geti (k := 2) (N := 3) (T := TX7) (C0 := RX7) dX7_takeOneOf_1 (by decide) sh_1 rfl rfl (by decide) li_in7 w_142 ?_
  refine li_top (fun x1 ex1 => ?_)
  have gx1 := tl_rg x1
  have vx1 : x1.toInt = (M0.1 1 2).toInt := tl_eq ex1
  refine li_aload_n 0 dX7_takeOneOf_4 rfl ?_
  refine li_geti (k := 1) (N := 3) (T := TX7) (C0 := RX7) dX7_takeOneOf_5 (by decide) sh_1 rfl rfl (by decide) li_in7 w_139 ?_
  refine li_top (fun x2 ex2 => ?_)
  have gx2 := tl_rg x2
  have vx2 : x2.toInt = (M0.1 1 1).toInt := tl_eq ex2
  refine li_icmp_lt 13 dX7_takeOneOf_8 (by decide) (fun c3 => ?_) (fun c3 => ?_)
  · have tc3 : x1.toInt < x2.toInt := tl_lt c3
    refine li_aload_n 0 dX7_takeOneOf_13 rfl ?_
    refine li_getr (k := 0) (N := 3) (T := TX7) (C0 := RX7) dX7_takeOneOf_14 (by decide) sh_1 rfl rfl (by decide) (by decide) li_in7 w_138 ?_
    refine li_aload_n 0 dX7_takeOneOf_17 rfl ?_
    refine li_geti (k := 2) (N := 3) (T := TX7) (C0 := RX7) dX7_takeOneOf_18 (by decide) sh_1 rfl rfl (by decide) li_in7 w_142 ?_
    refine li_top (fun x4 ex4 => ?_)
    have gx4 := tl_rg x4
    have vx4 : x4.toInt = (M0.1 1 2).toInt := tl_eq ex4
    have tvx4 : x4.toInt = x1.toInt := tl_eq (ex4.trans ex1.symm)
    refine li_callN (n := 2) (As := [.ref (Z.2.2 2), .int x4]) dX7_takeOneOf_21 (a_X11_at (d - 1) (by omega) (by decide) sh_2 (by decide) x4 M0) (by omega) (Nat.le_of_ble_eq_true rfl) nw_8 w_569 w_101 w_570 (by decide +kernel) rfl rfl (Nat.le_of_ble_eq_true rfl) (fun r M6 h7 => ?_)
    obtain ⟨⟨x5, rfl, qx5⟩, h7⟩ := h7
    have gx5 := tl_rg x5
    have hf := li_fr_trans hf h7 (fun i h => False.elim h)
    have mM6_1_1 : (M6.1 1 1).toInt = (M0.1 1 1).toInt := by rw [h7.1 1 id]
    have mM6_1_2 : (M6.1 1 2).toInt = (M0.1 1 2).toInt := by rw [h7.1 1 id]
    have Psg_M6 : li_sg (M6.1 2)  := li_sg_tr (h7.1 2 (fun h => by first | exact (h : False).elim | omega))  Psg_M0
    have sgq := li_sg_at Psg_M0 qx5
    have chq : rd_ch (M0.1 2) ((M0.1 1 1).toInt) ((M0.1 1 2).toInt) = x5.toInt := rd_ch_at qx5 (by omega) (by omega) (by omega) (by omega)
    refine li_iload_n 1 dX7_takeOneOf_24 rfl ?_
    refine li_isub dX7_takeOneOf_25 ?_
    refine li_top (fun x8 ex8 => ?_)
    have tx8 : (-2147483648 ≤ x5.toInt - p1.toInt ∧ x5.toInt - p1.toInt ≤ 2147483647) → x8.toInt = x5.toInt - p1.toInt := tl_sub ex8
    refine li_istore_n [(3, .int x8), (0, .ref (Z.2.2 1)), (1, .int p1), (2, .int p2)] dX7_takeOneOf_26 (by decide) rfl ?_
    refine li_iload_n 0 dX7_takeOneOf_27 rfl ?_
    refine li_if_lt 36 dX7_takeOneOf_28 (by decide) (fun c9 => ?_) (fun c9 => ?_)
    · have tc9 : x8.toInt < 0 := tl_lt c9
      refine li_iconst (-1) dX7_takeOneOf_36 (by decide) ?_
      have zm1 : ((-1) : Int32).toInt = -1 := rfl
      exact li_iret dX7_takeOneOf_37 rfl rfl ⟨⟨_, rfl, (by first | omega | (have zz := rd_no (g := M0.1 2) (len := (M0.1 1 1).toInt) (p := (M0.1 1 2).toInt) (by omega); omega))⟩, hf⟩
    · have tc9 : 0 ≤ x8.toInt := tl_nlt c9
      refine li_iload_n 0 dX7_takeOneOf_31 rfl ?_
      refine li_iload_n 3 dX7_takeOneOf_32 rfl ?_
      refine li_icmp_lt 38 dX7_takeOneOf_33 (by decide) (fun c10 => ?_) (fun c10 => ?_)
      · have tc10 : x8.toInt < p2.toInt := tl_lt c10
        refine li_aload_n 1 dX7_takeOneOf_38 rfl ?_
        refine li_dup dX7_takeOneOf_39 rfl ?_
        refine li_geti (k := 2) (N := 3) (T := TX7) (C0 := RX7) dX7_takeOneOf_40 (by decide) sh_1 rfl rfl (by decide) li_in7 w_142 ?_
        refine li_top (fun x11 ex11 => ?_)
        have gx11 := tl_rg x11
        have vx11 : x11.toInt = (M6.1 1 2).toInt := tl_eq ex11
        refine li_iconst 1 dX7_takeOneOf_43 (by decide) ?_
        refine li_iadd dX7_takeOneOf_44 ?_
        refine li_top (fun x12 ex12 => ?_)
        have tx12 : (-2147483648 ≤ x11.toInt + 1 ∧ x11.toInt + 1 ≤ 2147483647) → x12.toInt = x11.toInt + 1 := tl_add ex12
        refine li_puti (k := 2) (N := 3) (T := TX7) (C0 := RX7) dX7_takeOneOf_45 (by decide) sh_1 rfl rfl (by decide) li_in7 tyX7_ok nmX7 rfl rfl rfl rfl w_142 ?_
        refine li_nm (fun M13 eM13 => ?_)
        have hf := li_fr_ui hf (show 1 = 1 by omega) eM13
        have mM13_1_1 : (M13.1 1 1).toInt = (M6.1 1 1).toInt := by rw [eM13, li_ui_at, if_pos rfl, if_neg (by decide)]
        have mM13_1_2 : (M13.1 1 2).toInt = x12.toInt := by rw [eM13, li_ui_at, if_pos rfl, if_pos rfl]
        have Psg_M13 : li_sg (M13.1 2)  := li_sg_tr (li_cell_ui eM13 (by decide))  Psg_M6
        have k14 : M13.1 1 2 = x12 := by rw [eM13, li_ui_at, if_pos rfl, if_pos rfl]
        refine li_iload_n 0 dX7_takeOneOf_48 rfl ?_
        exact li_iret dX7_takeOneOf_49 rfl rfl ⟨⟨_, rfl, (by first | omega | (have zz := rd_no (g := M0.1 2) (len := (M0.1 1 1).toInt) (p := (M0.1 1 2).toInt) (by omega); omega))⟩, hf⟩
      · have tc10 : p2.toInt ≤ x8.toInt := tl_nlt c10
        refine li_iconst (-1) dX7_takeOneOf_36 (by decide) ?_
        have zm1 : ((-1) : Int32).toInt = -1 := rfl
        exact li_iret dX7_takeOneOf_37 rfl rfl ⟨⟨_, rfl, (by first | omega | (have zz := rd_no (g := M0.1 2) (len := (M0.1 1 1).toInt) (p := (M0.1 1 2).toInt) (by omega); omega))⟩, hf⟩
  · have tc3 : x2.toInt ≤ x1.toInt := tl_nlt c3
    refine li_iconst (-1) dX7_takeOneOf_11 (by decide) ?_
    have zm1 : ((-1) : Int32).toInt = -1 := rfl
    exact li_iret dX7_takeOneOf_12 rfl rfl ⟨⟨_, rfl, (by first | omega | (have zz := rd_no (g := M0.1 2) (len := (M0.1 1 1).toInt) (p := (M0.1 1 2).toInt) (by omega); omega))⟩, hf⟩
