set_option maxRecDepth 100000 in
set_option maxHeartbeats 4000000 in
theorem k5_X11_people {l : Launch} {Z : li_Z} (d : Nat) (hd : 7 ≤ d) (M0 : li_M) (h1 : 0 ≤ (M0.1 1 1).toInt ∧ (M0.1 1 1).toInt ≤ 80) (Psg_M0 : li_sg (M0.1 2)) (h2 : 0 ≤ (M0.1 5 0).toInt ∧ (M0.1 5 0).toInt ≤ 6) (OK QQ MM : Int) (Ppq_M0 : li_pq (M0.1 2) ((M0.1 1 1).toInt) (6 - (M0.1 5 0).toInt) (0) (0) (OK) (QQ) (MM)) : li_Met l Z YX11_people d [.ref (Z.2.2 0)] M0 (fun r M' => (∃ x : Int32, r = some (.int x) ∧ ((((M0.1 1 1).toInt = 0 ∧ x.toInt = 0) ∨ (0 < (M0.1 1 1).toInt ∧ OK = 1 ∧ (M0.1 1 1).toInt ≤ 76 ∧ x.toInt = MM ∧ 0 ≤ MM ∧ MM ≤ 100) ∨ (0 < (M0.1 1 1).toInt ∧ OK = 1 ∧ 76 < (M0.1 1 1).toInt ∧ x.toInt = -1 - 76) ∨ (0 < (M0.1 1 1).toInt ∧ OK = 0 ∧ 0 ≤ QQ ∧ QQ ≤ 76 ∧ x.toInt = -1 - QQ) ∨ (0 < (M0.1 1 1).toInt ∧ OK = 0 ∧ 76 < QQ ∧ x.toInt = -1 - 76)) ∧ (M'.1 1 1).toInt = 0 ∧ ((0 < x.toInt ∧ (M'.1 5 0).toInt = (M0.1 5 0).toInt + x.toInt) ∨ (x.toInt ≤ 0 ∧ (M'.1 5 0).toInt = (M0.1 5 0).toInt)))) ∧ li_fr (fun i => i = 1 ∨ i = 14 ∨ i = 21 ∨ i = 5 ∨ i = 6 ∨ i = 7) M0 M') := by
  refine li_enter (by decide +kernel) (Nat.le_of_ble_eq_true rfl) ?_
  show li_T l Z YX11_people d 0 [(0, .ref (Z.2.2 0))] [] M0 _
  have hf : li_fr (fun i => i = 1 ∨ i = 14 ∨ i = 21 ∨ i = 5 ∨ i = 6 ∨ i = 7) M0 M0 := li_fr_refl
  refine li_aload_n 0 dX11_people_0 rfl ?_
  refine li_iconst 0 dX11_people_1 (by decide) ?_
  refine li_bipush 6 dX11_people_2 (by decide) ?_
  refine li_aload_n 0 dX11_people_4 rfl ?_
  refine li_getr (k := 2) (N := 13) (T := TX11) (C0 := RX11) dX11_people_5 (by decide) sh_0 rfl rfl (by decide) (by decide) li_in11 w_475 ?_
  refine li_geti (k := 0) (N := 9) (T := TX8) (C0 := RX8) dX11_people_8 (by decide) sh_5 rfl rfl (by decide) li_in8 w_178 ?_
  refine li_top (fun x1 ex1 => ?_)
  have gx1 := tl_rg x1
  have vx1 : x1.toInt = (M0.1 5 0).toInt := tl_eq ex1
  refine li_isub dX11_people_11 ?_
  refine li_top (fun x2 ex2 => ?_)
  have tx2 : (-2147483648 ≤ 6 - x1.toInt ∧ 6 - x1.toInt ≤ 2147483647) → x2.toInt = 6 - x1.toInt := tl_sub ex2
  refine li_bipush 76 dX11_people_12 (by decide) ?_
  refine li_callV (n := 3) (As := [.int 0, .int x2, .int 76]) dX11_people_14 (k5_X11_readText (d - 1) (by omega) 0 x2 76 M0 (by omega) Psg_M0 ⟨rfl, by omega, by decide, by decide⟩ OK QQ MM (li_pq_tr rfl rfl (by omega) rfl rfl rfl rfl rfl Ppq_M0)) (by omega) (Nat.le_of_ble_eq_true rfl) w_536 w_538 w_0 w_101 w_539 (by decide +kernel) rfl (by decide) sh_0 rfl rfl (Nat.le_of_ble_eq_true rfl) (fun r M4 h5 => ?_)
  have z0 : (0 : Int32).toInt = 0 := rfl
  have z76 : (76 : Int32).toInt = 76 := rfl
  obtain ⟨⟨x3, rfl, qx3⟩, h5⟩ := h5
  have gx3 := tl_rg x3
  have hf := li_fr_trans hf h5 (fun i (h : i = 1 ∨ i = 6 ∨ i = 7) => (show i = 1 ∨ i = 14 ∨ i = 21 ∨ i = 5 ∨ i = 6 ∨ i = 7 by omega))
  have mM4_5_0 : (M4.1 5 0).toInt = (M0.1 5 0).toInt := by rw [h5.1 5 (show ¬ (5 = 1 ∨ 5 = 6 ∨ 5 = 7) by omega)]
  have qa := qx3.1
  rw [z76] at qa
  have qc := qx3.2
  clear qx3
  have qb : x3.toInt ≤ 100 := by omega
  refine li_istore_n [(1, .int x3), (0, .ref (Z.2.2 0))] dX11_people_17 (by decide) rfl ?_
  refine li_iload_n 0 dX11_people_18 rfl ?_
  refine li_if_le 54 dX11_people_19 (by decide) (fun c6 => ?_) (fun c6 => ?_)
  · have tc6 : x3.toInt ≤ 0 := tl_le c6
    refine li_iload_n 0 dX11_people_54 rfl ?_
    exact li_iret dX11_people_55 rfl rfl ⟨⟨_, rfl, (by refine ⟨by first | exact qa | omega, ?_, ?_⟩ <;> (clear qa; omega))⟩, hf⟩
  · have tc6 : 0 < x3.toInt := tl_nle c6
    refine li_aload_n 1 dX11_people_22 rfl ?_
    refine li_getr (k := 3) (N := 13) (T := TX11) (C0 := RX11) dX11_people_23 (by decide) sh_0 rfl rfl (by decide) (by decide) li_in11 w_476 ?_
    refine li_aload_n 1 dX11_people_26 rfl ?_
    refine li_getr (k := 2) (N := 13) (T := TX11) (C0 := RX11) dX11_people_27 (by decide) sh_0 rfl rfl (by decide) (by decide) li_in11 w_475 ?_
    refine li_iload_n 0 dX11_people_30 rfl ?_
    refine li_callV (n := 2) (As := [.ref (Z.2.2 5), .int x3]) dX11_people_31 (k_X4_welcome (d - 1) (by omega) x3 M4) (by omega) (Nat.le_of_ble_eq_true rfl) w_728 w_729 w_730 w_105 w_731 (by decide +kernel) rfl (by decide) sh_13 rfl rfl (Nat.le_of_ble_eq_true rfl) (fun r M8 h9 => ?_)
    obtain ⟨rfl, h9⟩ := h9
    have hf := li_fr_trans hf h9 (fun i (h : i = 14) => (show i = 1 ∨ i = 14 ∨ i = 21 ∨ i = 5 ∨ i = 6 ∨ i = 7 by omega))
    have mM8_1_1 : (M8.1 1 1).toInt = (M4.1 1 1).toInt := by rw [h9.1 1 (show ¬ (1 = 14) by omega)]
    have mM8_5_0 : (M8.1 5 0).toInt = (M4.1 5 0).toInt := by rw [h9.1 5 (show ¬ (5 = 14) by omega)]
    refine li_aload_n 1 dX11_people_34 rfl ?_
    refine li_getr (k := 2) (N := 13) (T := TX11) (C0 := RX11) dX11_people_35 (by decide) sh_0 rfl rfl (by decide) (by decide) li_in11 w_475 ?_
    refine li_dup dX11_people_38 rfl ?_
    refine li_geti (k := 0) (N := 9) (T := TX8) (C0 := RX8) dX11_people_39 (by decide) sh_5 rfl rfl (by decide) li_in8 w_178 ?_
    refine li_top (fun x10 ex10 => ?_)
    have gx10 := tl_rg x10
    have vx10 : x10.toInt = (M8.1 5 0).toInt := tl_eq ex10
    refine li_iload_n 0 dX11_people_42 rfl ?_
    refine li_iadd dX11_people_43 ?_
    refine li_top (fun x11 ex11 => ?_)
    have tx11 : (-2147483648 ≤ x10.toInt + x3.toInt ∧ x10.toInt + x3.toInt ≤ 2147483647) → x11.toInt = x10.toInt + x3.toInt := tl_add ex11
    refine li_puti (k := 0) (N := 9) (T := TX8) (C0 := RX8) dX11_people_44 (by decide) sh_5 rfl rfl (by decide) li_in8 tyX8_ok nmX8 rfl rfl rfl rfl w_178 ?_
    refine li_nm (fun M12 eM12 => ?_)
    have hf := li_fr_ui hf (show 5 = 1 ∨ 5 = 14 ∨ 5 = 21 ∨ 5 = 5 ∨ 5 = 6 ∨ 5 = 7 by omega) eM12
    have mM12_1_1 : (M12.1 1 1).toInt = (M8.1 1 1).toInt := by rw [eM12, li_ui_at, if_neg (by decide)]
    have mM12_5_0 : (M12.1 5 0).toInt = x11.toInt := by rw [eM12, li_ui_at, if_pos rfl, if_pos rfl]
    have k13 : M12.1 5 0 = x11 := by rw [eM12, li_ui_at, if_pos rfl, if_pos rfl]
    refine li_aload_n 1 dX11_people_47 rfl ?_
    refine li_getr (k := 4) (N := 13) (T := TX11) (C0 := RX11) dX11_people_48 (by decide) sh_0 rfl rfl (by decide) (by decide) li_in11 w_477 ?_
    refine li_callV (n := 0) (As := []) dX11_people_51 (k_X3_clearAll (d - 1) (by omega)  M12) (by omega) (Nat.le_of_ble_eq_true rfl) w_734 w_735 w_736 w_106 w_737 (by decide +kernel) rfl (by decide) sh_21 rfl rfl (Nat.le_of_ble_eq_true rfl) (fun r M15 h16 => ?_)
    obtain ⟨rfl, h16⟩ := h16
    have hf := li_fr_trans hf h16 (fun i (h : i = 21) => (show i = 1 ∨ i = 14 ∨ i = 21 ∨ i = 5 ∨ i = 6 ∨ i = 7 by omega))
    have mM15_1_1 : (M15.1 1 1).toInt = (M12.1 1 1).toInt := by rw [h16.1 1 (show ¬ (1 = 21) by omega)]
    have mM15_5_0 : (M15.1 5 0).toInt = (M12.1 5 0).toInt := by rw [h16.1 5 (show ¬ (5 = 21) by omega)]
    refine li_iload_n 0 dX11_people_54 rfl ?_
    exact li_iret dX11_people_55 rfl rfl ⟨⟨_, rfl, (by refine ⟨by first | exact qa | omega, ?_, ?_⟩ <;> (clear qa; omega))⟩, hf⟩
