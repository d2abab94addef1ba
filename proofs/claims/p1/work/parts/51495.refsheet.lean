set_option maxRecDepth 100000 in
set_option maxHeartbeats 4000000 in
theorem k9_X12_sheet {l : Launch} {Z : li_Z} (d : Nat) (hd : 2 ≤ d) (p1 p2 p3 p4 : Int32) (M0 : li_M) (hJ : li_J M0) (EN : Int) (hEN : (p1.toInt = 3 → EN = 0) ∧ (¬ p1.toInt = 3 → EN = p2.toInt)) : li_Met l Z YX12_sheet d [.ref (Z.2.2 175), .int p1, .int p2, .int p3, .int p4] M0 (fun r M' => (∃ x : Int32, r = some (.int x) ∧ ((x.toInt = -1 ∧ ¬ (0 ≤ p1.toInt ∧ p1.toInt ≤ 3 ∧ p2.toInt ≤ 6)) ∨ (x.toInt = -2 ∧ 0 ≤ p1.toInt ∧ p1.toInt ≤ 2 ∧ p2.toInt < 0) ∨ (x.toInt = -3 ∧ p1.toInt = 3 ∧ p2.toInt ≤ 6) ∨ (0 ≤ p1.toInt ∧ p1.toInt ≤ 2 ∧ 0 ≤ p2.toInt ∧ p2.toInt ≤ 6 ∧ x.toInt = sh_sum (p1.toInt) p3 p4 EN ((M0.1 175 1).toInt).toNat))) ∧ li_fs (fun i k => i = 176 ∨ (i = 175 ∧ k = 10)) M0 M' ∧ li_J M') := by
  refine li_enter (by decide +kernel) (Nat.le_of_ble_eq_true rfl) ?_
  show li_T l Z YX12_sheet d 0 [(0, .ref (Z.2.2 175)), (1, .int p1), (2, .int p2), (3, .int p3), (4, .int p4)] [] M0 _
  have hf : li_fs (fun i k => i = 176 ∨ (i = 175 ∧ k = 10)) M0 M0 := li_fs_refl
  have gp1 := tl_rg p1
  have gp2 := tl_rg p2
  have gp3 := tl_rg p3
  have gp4 := tl_rg p4
  have rM0_1 := J_sl1 (M := M0) hJ
  refine li_aload_n 0 dX12_sheet_0 rfl ?_
  refine li_iconst 0 dX12_sheet_1 (by decide) ?_
  refine li_puti (k := 10) (N := 52) (T := TX12) (C0 := RX12) dX12_sheet_2 (by decide) sh_175 rfl rfl (by decide) li_in12 tyX12_ok nmX12 rfl rfl rfl rfl w_1414 ?_
  refine li_nm (fun M1 eM1 => ?_)
  have hf := li_fs_ui hf (Or.inr (⟨rfl, rfl⟩)) eM1
  have z0 : (0 : Int32).toInt = 0 := rfl
  have hJ := hJ.put (k := 10) (by decide) (rg_free rfl) eM1
  have rM1_1 := J_sl1 (M := M1) hJ
  have mM1_1 : (M1.1 175 1).toInt = (M0.1 175 1).toInt := by rw [eM1, li_ui_at, if_pos rfl, if_neg (by decide)]
  refine li_iload_n 1 dX12_sheet_5 rfl ?_
  refine li_iconst 0 dX12_sheet_6 (by decide) ?_
  refine li_iconst 3 dX12_sheet_7 (by decide) ?_
  have z0 : (0 : Int32).toInt = 0 := rfl
  have z3 : (3 : Int32).toInt = 3 := rfl
  refine li_callS (n := 3) (As := [.int p1, .int 0, .int 3]) dX12_sheet_8 (k_X12_in (d - 1) (by omega) p1 0 3 M1 hJ ) (by omega) (Nat.le_of_ble_eq_true rfl) w_1574 w_1575 w_112 w_1576 (by decide +kernel) rfl rfl (Nat.le_of_ble_eq_true rfl) (fun r M3 h4 => ?_)
  obtain ⟨qx2, h4, jM3⟩ := h4
  have hf := li_fs_trans hf h4 (fun i k h => False.elim h)
  have hJ := jM3
  have rM3_1 := J_sl1 (M := M3) hJ
  have mM3_1 : (M3.1 175 1).toInt = (M1.1 175 1).toInt := tl_slot (h4.1 175 1 id)
  rcases qx2 with ⟨rfl, qx2⟩ | ⟨rfl, qx2⟩
  · skip
    refine li_if_eq 20 dX12_sheet_11 (by decide) (fun c => absurd c (by decide)) (fun c => ?_)
    refine li_iload_n 2 dX12_sheet_14 rfl ?_
    refine li_bipush 6 dX12_sheet_15 (by decide) ?_
    refine li_icmp_le 22 dX12_sheet_17 (by decide) (fun c6 => ?_) (fun c6 => ?_)
    · have tc6 : p2.toInt ≤ 6 := tl_le c6
      refine li_iload_n 1 dX12_sheet_22 rfl ?_
      refine li_iconst 3 dX12_sheet_23 (by decide) ?_
      refine li_icmp_ge 34 dX12_sheet_24 (by decide) (fun c7 => ?_) (fun c7 => ?_)
      · have tc7 : 3 ≤ p1.toInt := tl_le c7
        refine li_iconst 0 dX12_sheet_34 (by decide) ?_
        refine li_istore [(5, .int 0), (0, .ref (Z.2.2 175)), (1, .int p1), (2, .int p2), (3, .int p3), (4, .int p4)] dX12_sheet_35 (by decide) rfl ?_
        refine li_iload_n 4 dX12_sheet_37 rfl ?_
        refine li_istore [(6, .int p3), (5, .int 0), (0, .ref (Z.2.2 175)), (1, .int p1), (2, .int p2), (3, .int p3), (4, .int p4)] dX12_sheet_38 (by decide) rfl ?_
        refine li_iconst 0 dX12_sheet_40 (by decide) ?_
        refine li_istore [(7, .int 0), (6, .int p3), (5, .int 0), (0, .ref (Z.2.2 175)), (1, .int p1), (2, .int p2), (3, .int p3), (4, .int p4)] dX12_sheet_41 (by decide) rfl ?_
        have L43 : ∀ (n : Nat) (x8 : Int32) (x9 : Int32) (x10 : Int32) (M11 : li_M), (7 - (x8 : Int32).toInt).toNat < n → li_fs (fun i k => i = 176 ∨ (i = 175 ∧ k = 10)) M0 M11 → li_J M11 → 0 ≤ (x8 : Int32).toInt ∧ 0 ≤ (x10 : Int32).toInt ∧ (x10 : Int32).toInt ≤ 9999 * (x8 : Int32).toInt ∧ (M11.1 175 1).toInt = (M0.1 175 1).toInt ∧ (x8 : Int32).toInt ≤ (M0.1 175 1).toInt → li_vv (M11.1 180) ((x9 : Int32)) (p3) (p4) ((x8 : Int32).toInt) → li_sm (M11.1 180) ((x10 : Int32).toInt) (p1.toInt) (p3) (p4) (EN) ((x8 : Int32).toInt) → li_T l Z YX12_sheet d 43 [(7, .int x8), (6, .int x9), (5, .int x10), (0, .ref (Z.2.2 175)), (1, .int p1), (2, .int p2), (3, .int p3), (4, .int p4)] [] M11 (fun r M' => (∃ x : Int32, r = some (.int x) ∧ ((x.toInt = -1 ∧ ¬ (0 ≤ p1.toInt ∧ p1.toInt ≤ 3 ∧ p2.toInt ≤ 6)) ∨ (x.toInt = -2 ∧ 0 ≤ p1.toInt ∧ p1.toInt ≤ 2 ∧ p2.toInt < 0) ∨ (x.toInt = -3 ∧ p1.toInt = 3 ∧ p2.toInt ≤ 6) ∨ (0 ≤ p1.toInt ∧ p1.toInt ≤ 2 ∧ 0 ≤ p2.toInt ∧ p2.toInt ≤ 6 ∧ x.toInt = sh_sum (p1.toInt) p3 p4 EN ((M0.1 175 1).toInt).toNat))) ∧ li_fs (fun i k => i = 176 ∨ (i = 175 ∧ k = 10)) M0 M' ∧ li_J M') := by
          intro n
          induction n with
          | zero => intro x8 x9 x10 M11 hn; exact absurd hn (Nat.not_lt_zero _)
          | succ n ih43 =>
            intro x8 x9 x10 M11 hn hf hJ hi Pvv_M11 Psm_M11
            have gx8 := tl_rg x8
            have gx9 := tl_rg x9
            have gx10 := tl_rg x10
            have rM11_1 := J_sl1 (M := M11) hJ
            have mM11_1 : (M11.1 175 1).toInt = (M0.1 175 1).toInt := tl_slot (hf.1 175 1 (show ¬ (175 = 176 ∨ (175 = 175 ∧ 1 = 10)) by decide))
            refine li_iload 0 dX12_sheet_43 rfl ?_
            refine li_aload_n 3 dX12_sheet_45 rfl ?_
            refine li_geti (k := 1) (N := 52) (T := TX12) (C0 := RX12) dX12_sheet_46 (by decide) sh_175 rfl rfl (by decide) li_in12 w_1405 ?_
            refine li_top (fun x12 ex12 => ?_)
            have gx12 : 0 ≤ x12.toInt ∧ x12.toInt ≤ 6 := by rw [ex12]; exact J_sl1 hJ
            have mx12 : x12.toInt = (M11.1 175 1).toInt := tl_slot ex12
            have sx12 : x12.toInt = (M0.1 175 1).toInt := tl_slot (ex12.trans (hf.1 175 1 (show ¬ (175 = 176 ∨ (175 = 175 ∧ 1 = 10)) by decide)))
            refine li_icmp_ge 136 dX12_sheet_49 (by decide) (fun c13 => ?_) (fun c13 => ?_)
            · have tc13 : x12.toInt ≤ x8.toInt := tl_le c13
              refine li_iload_n 4 dX12_sheet_136 rfl ?_
              refine li_iconst 3 dX12_sheet_137 (by decide) ?_
              refine li_icmp_ne 146 dX12_sheet_138 (by decide) (fun c14 => ?_) (fun c14 => ?_)
              · have tc14 : ¬ p1.toInt = 3 := tl_ne c14
                refine li_iload 2 dX12_sheet_146 rfl ?_
                exact li_iret dX12_sheet_148 rfl rfl ⟨⟨_, rfl, (by first | omega | (have zq := li_sm_end (j' := (M0.1 175 1).toInt) Psm_M11 rfl (by omega); omega))⟩, hf, hJ⟩
              · have tc14 : p1.toInt = 3 := tl_eq c14
                refine li_bipush (-3) dX12_sheet_141 (by decide) ?_
                refine li_goto 148 dX12_sheet_143 (by decide) ?_
                have zm3 : ((-3) : Int32).toInt = -3 := rfl
                exact li_iret dX12_sheet_148 rfl rfl ⟨⟨_, rfl, (by first | omega | (have zq := li_sm_end (j' := (M0.1 175 1).toInt) Psm_M11 rfl (by omega); omega))⟩, hf, hJ⟩
            · have tc13 : x8.toInt < x12.toInt := tl_nle c13
              refine li_iload_n 4 dX12_sheet_52 rfl ?_
              have J75 : ∀ (x16 : Int32) (M17 : li_M), li_fs (fun i k => i = 176 ∨ (i = 175 ∧ k = 10)) M0 M17 → li_J M17 → 0 ≤ (x8 : Int32).toInt ∧ 0 ≤ (x10 : Int32).toInt ∧ (x10 : Int32).toInt ≤ 9999 * (x8 : Int32).toInt ∧ (M17.1 175 1).toInt = (M0.1 175 1).toInt ∧ (x8 : Int32).toInt < (M0.1 175 1).toInt ∧ (x16 : Int32).toInt = sh_en (p1.toInt) (x9 : Int32) → li_vv (M17.1 180) ((x9 : Int32)) (p3) (p4) ((x8 : Int32).toInt) → li_sm (M17.1 180) ((x10 : Int32).toInt) (p1.toInt) (p3) (p4) (EN) ((x8 : Int32).toInt) → li_T l Z YX12_sheet d 75 [(7, .int x8), (6, .int x9), (5, .int x10), (0, .ref (Z.2.2 175)), (1, .int p1), (2, .int p2), (3, .int p3), (4, .int p4)] [.int x16] M17 (fun r M' => (∃ x : Int32, r = some (.int x) ∧ ((x.toInt = -1 ∧ ¬ (0 ≤ p1.toInt ∧ p1.toInt ≤ 3 ∧ p2.toInt ≤ 6)) ∨ (x.toInt = -2 ∧ 0 ≤ p1.toInt ∧ p1.toInt ≤ 2 ∧ p2.toInt < 0) ∨ (x.toInt = -3 ∧ p1.toInt = 3 ∧ p2.toInt ≤ 6) ∨ (0 ≤ p1.toInt ∧ p1.toInt ≤ 2 ∧ 0 ≤ p2.toInt ∧ p2.toInt ≤ 6 ∧ x.toInt = sh_sum (p1.toInt) p3 p4 EN ((M0.1 175 1).toInt).toNat))) ∧ li_fs (fun i k => i = 176 ∨ (i = 175 ∧ k = 10)) M0 M' ∧ li_J M') := by
                intro x16 M17 hf hJ hi Pvv_M17 Psm_M17
                have gx16 := tl_rg x16
                have rM17_1 := J_sl1 (M := M17) hJ
                have mM17_1 : (M17.1 175 1).toInt = (M0.1 175 1).toInt := tl_slot (hf.1 175 1 (show ¬ (175 = 176 ∨ (175 = 175 ∧ 1 = 10)) by decide))
                refine li_istore [(8, .int x16), (7, .int x8), (6, .int x9), (5, .int x10), (0, .ref (Z.2.2 175)), (1, .int p1), (2, .int p2), (3, .int p3), (4, .int p4)] dX12_sheet_75 (by decide) rfl ?_
                refine li_aload_n 4 dX12_sheet_77 rfl ?_
                refine li_getr (k := 0) (N := 52) (T := TX12) (C0 := RX12) dX12_sheet_78 (by decide) sh_175 rfl rfl (by decide) (by decide) li_in12 w_1404 ?_
                refine li_iload 1 dX12_sheet_81 rfl ?_
                refine li_iload_n 5 dX12_sheet_83 rfl ?_
                refine li_iconst 3 dX12_sheet_84 (by decide) ?_
                have J110 : ∀ (x19 : Int32) (M20 : li_M), li_fs (fun i k => i = 176 ∨ (i = 175 ∧ k = 10)) M0 M20 → li_J M20 → 0 ≤ (x8 : Int32).toInt ∧ 0 ≤ (x10 : Int32).toInt ∧ (x10 : Int32).toInt ≤ 9999 * (x8 : Int32).toInt ∧ (M20.1 175 1).toInt = (M0.1 175 1).toInt ∧ (x8 : Int32).toInt < (M0.1 175 1).toInt ∧ (x19 : Int32).toInt = sh_at (p1.toInt) p3 p4 EN (x8 : Int32) → li_vv (M20.1 180) ((x9 : Int32)) (p3) (p4) ((x8 : Int32).toInt) → li_sm (M20.1 180) ((x10 : Int32).toInt) (p1.toInt) (p3) (p4) (EN) ((x8 : Int32).toInt) → li_T l Z YX12_sheet d 110 [(8, .int x16), (7, .int x8), (6, .int x9), (5, .int x10), (0, .ref (Z.2.2 175)), (1, .int p1), (2, .int p2), (3, .int p3), (4, .int p4)] [.int x19, .int x8, .ref (Z.2.2 176)] M20 (fun r M' => (∃ x : Int32, r = some (.int x) ∧ ((x.toInt = -1 ∧ ¬ (0 ≤ p1.toInt ∧ p1.toInt ≤ 3 ∧ p2.toInt ≤ 6)) ∨ (x.toInt = -2 ∧ 0 ≤ p1.toInt ∧ p1.toInt ≤ 2 ∧ p2.toInt < 0) ∨ (x.toInt = -3 ∧ p1.toInt = 3 ∧ p2.toInt ≤ 6) ∨ (0 ≤ p1.toInt ∧ p1.toInt ≤ 2 ∧ 0 ≤ p2.toInt ∧ p2.toInt ≤ 6 ∧ x.toInt = sh_sum (p1.toInt) p3 p4 EN ((M0.1 175 1).toInt).toNat))) ∧ li_fs (fun i k => i = 176 ∨ (i = 175 ∧ k = 10)) M0 M' ∧ li_J M') := by
                  intro x19 M20 hf hJ hi Pvv_M20 Psm_M20
                  have gx19 := tl_rg x19
                  have rM20_1 := J_sl1 (M := M20) hJ
                  have mM20_1 : (M20.1 175 1).toInt = (M0.1 175 1).toInt := tl_slot (hf.1 175 1 (show ¬ (175 = 176 ∨ (175 = 175 ∧ 1 = 10)) by decide))
                  refine li_iast dX12_sheet_110 (by decide) sh_176 (tl_in (by omega)) ?_
                  refine li_nm (fun M21 eM21 => ?_)
                  have hf := li_fs_ui hf (Or.inl rfl) eM21
                  try (have oM21 : (x8 : Int32).toInt % 51 = (x8 : Int32).toInt := by omega)
                  have hJ := hJ.st (by decide) (li_el_led (by unfold li_led; omega) (by omega) (show ((x8 : Int32).toInt % 51 = 20 → 0 ≤ (x19 : Int32).toInt ∧ (x19 : Int32).toInt ≤ 6) ∧ (21 ≤ (x8 : Int32).toInt % 51 → ((x8 : Int32).toInt % 51 - 21) % 5 < 2 → 0 ≤ (x19 : Int32).toInt ∧ (x19 : Int32).toInt ≤ 5) by omega)) eM21
                  have rM21_1 := J_sl1 (M := M21) hJ
                  have mM21_1 : (M21.1 175 1).toInt = (M20.1 175 1).toInt := by rw [eM21, li_ui_at, if_neg (by decide)]
                  have Pvv_M21 : li_vv (M21.1 180) ((x9 : Int32)) (p3) (p4) ((x8 : Int32).toInt) := li_vv_tr (li_cell_ui eM21 (by decide)) rfl rfl rfl (by omega) Pvv_M20
                  have Psm_M21 : li_sm (M21.1 180) ((x10 : Int32).toInt) (p1.toInt) (p3) (p4) (EN) ((x8 : Int32).toInt) := li_sm_tr (li_cell_ui eM21 (by decide)) (by omega) rfl rfl rfl rfl (by omega) Psm_M20
                  refine li_iload 3 dX12_sheet_111 rfl ?_
                  refine li_aload_n 4 dX12_sheet_113 rfl ?_
                  refine li_getr (k := 0) (N := 52) (T := TX12) (C0 := RX12) dX12_sheet_114 (by decide) sh_175 rfl rfl (by decide) (by decide) li_in12 w_1404 ?_
                  refine li_iload 1 dX12_sheet_117 rfl ?_
                  refine li_iald dX12_sheet_119 (by decide) sh_176 (tl_in (by omega)) ?_
                  refine li_top (fun x22 ex22 => ?_)
                  have gx22 := tl_rg x22
                  try (have ox22 : (x8 : Int32).toInt % 51 = (x8 : Int32).toInt := by omega)
                  have lx22 : ((x8 : Int32).toInt % 51 = 20 → 0 ≤ x22.toInt ∧ x22.toInt ≤ 6) ∧ (21 ≤ (x8 : Int32).toInt % 51 → ((x8 : Int32).toInt % 51 - 21) % 5 < 2 → 0 ≤ x22.toInt ∧ x22.toInt ≤ 5) := hJ.ldLed (by unfold li_led; omega) ex22 (by omega)
                  have wl : x22.toInt = (x19 : Int32).toInt := tl_slot (by rw [ex22, eM21, li_ui_at, if_pos rfl, if_pos rfl])
                  have sr := sh_at_rg (k := p1.toInt) (f := p3) (st := p4) (en := EN) (i := x8)
                  have Psm_M21 : li_sm (M21.1 180) ((x10 : Int32).toInt + x22.toInt) (p1.toInt) (p3) (p4) (EN) ((x8 : Int32).toInt + 1) := li_sm_st (x := x8) Psm_M21 (by omega) (by omega) (by omega) (by omega)
                  refine li_iadd dX12_sheet_120 ?_
                  refine li_top (fun x23 ex23 => ?_)
                  try (have tx23 : x23.toInt = (x10 : Int32).toInt + (x22 : Int32).toInt := tl_add ex23 (by omega))
                  refine li_istore [(5, .int x23), (8, .int x16), (7, .int x8), (6, .int x9), (0, .ref (Z.2.2 175)), (1, .int p1), (2, .int p2), (3, .int p3), (4, .int p4)] dX12_sheet_121 (by decide) rfl ?_
                  refine li_iload 3 dX12_sheet_123 rfl ?_
                  refine li_iload 8 dX12_sheet_125 rfl ?_
                  refine li_iadd dX12_sheet_127 ?_
                  refine li_top (fun x24 ex24 => ?_)
                  try (have tx24 : x24.toInt = (x9 : Int32).toInt + (p4 : Int32).toInt := tl_add ex24 (by omega))
                  refine li_istore [(6, .int x24), (5, .int x23), (8, .int x16), (7, .int x8), (0, .ref (Z.2.2 175)), (1, .int p1), (2, .int p2), (3, .int p3), (4, .int p4)] dX12_sheet_128 (by decide) rfl ?_
                  have Pvv_M21 : li_vv (M21.1 180) ((x24 : Int32)) (p3) (p4) ((x8 : Int32).toInt + 1) := li_vv_st Pvv_M21 ex24 (by omega) (by omega)
                  obtain ⟨x25, ex25⟩ : ∃ y : Int32, y = x8 + 1 := ⟨_, rfl⟩
                  have z1 : (1 : Int32).toInt = 1 := rfl
                  try (have tx25 : x25.toInt = (x8 : Int32).toInt + (1 : Int32).toInt := tl_add ex25 (by omega))
                  refine li_iinc 3 [(7, .int x25), (6, .int x24), (5, .int x23), (8, .int x16), (0, .ref (Z.2.2 175)), (1, .int p1), (2, .int p2), (3, .int p3), (4, .int p4)] x25 dX12_sheet_130 rfl (by rw [ex25]; rfl) (by decide) rfl ?_
                  refine li_goto 43 dX12_sheet_133 (by decide) ?_
                  refine li_pick [0, 1, 2, 4, 5, 6, 7, 8] [(7, .int x25), (6, .int x24), (5, .int x23), (0, .ref (Z.2.2 175)), (1, .int p1), (2, .int p2), (3, .int p3), (4, .int p4)] rfl ?_
                  exact ih43 x25 x24 x23 M21 (by omega) hf hJ (by omega) (by first | exact li_vv_tr rfl rfl rfl rfl (by omega) Pvv_M21 | exact li_vv_0 (by omega)) (by first | exact li_sm_tr rfl (by omega) rfl rfl rfl rfl (by omega) Psm_M21 | exact li_sm_0 (by omega) (by omega))
                refine li_icmp_eq 94 dX12_sheet_85 (by decide) (fun c18 => ?_) (fun c18 => ?_)
                · have tc18 : p1.toInt = 3 := tl_eq c18
                  have sv0 := sh_at_0 (k := p1.toInt) (f := p3) (st := p4) (show EN ≤ (x8 : Int32).toInt by omega)
                  refine li_iconst 0 dX12_sheet_94 (by decide) ?_
                  refine li_goto 110 dX12_sheet_95 (by decide) ?_
                  refine li_pick [0, 1, 2, 3, 4, 5, 6, 7, 8] [(8, .int x16), (7, .int x8), (6, .int x9), (5, .int x10), (0, .ref (Z.2.2 175)), (1, .int p1), (2, .int p2), (3, .int p3), (4, .int p4)] rfl ?_
                  have z0 : (0 : Int32).toInt = 0 := rfl
                  exact J110 0 M17 hf hJ (by omega) (by first | exact li_vv_tr rfl rfl rfl rfl (by omega) Pvv_M17 | exact li_vv_0 (by omega)) (by first | exact li_sm_tr rfl (by omega) rfl rfl rfl rfl (by omega) Psm_M17 | exact li_sm_0 (by omega) (by omega))
                · have tc18 : ¬ p1.toInt = 3 := tl_ne c18
                  refine li_iload 1 dX12_sheet_88 rfl ?_
                  refine li_iload_n 6 dX12_sheet_90 rfl ?_
                  refine li_icmp_lt 98 dX12_sheet_91 (by decide) (fun c26 => ?_) (fun c26 => ?_)
                  · have tc26 : x8.toInt < p2.toInt := tl_lt c26
                    have sv1 := sh_at_1 (k := p1.toInt) (show (x8 : Int32).toInt < EN by omega) (li_vv_at Pvv_M17 (show (x8 : Int32).toInt = (x8 : Int32).toInt from rfl) (by omega))
                    refine li_iconst 0 dX12_sheet_98 (by decide) ?_
                    refine li_sipush 9999 dX12_sheet_99 (by decide) ?_
                    refine li_iload 0 dX12_sheet_102 rfl ?_
                    refine li_mmin dX12_sheet_104 (by omega) w_1705 w_726 w_113 w_727 (Nat.le_of_ble_eq_true rfl) ?_
                    refine li_top (fun x27 ex27 => ?_)
                    have z9999 : (9999 : Int32).toInt = 9999 := rfl
                    have tx27 := tl_min2 ex27
                    refine li_mmax dX12_sheet_107 (by omega) w_1403 w_642 w_113 w_643 (Nat.le_of_ble_eq_true rfl) ?_
                    refine li_top (fun x28 ex28 => ?_)
                    have z0 : (0 : Int32).toInt = 0 := rfl
                    have tx28 := tl_max2 ex28
                    refine li_pick [0, 1, 2, 3, 4, 5, 6, 7, 8] [(8, .int x16), (7, .int x8), (6, .int x9), (5, .int x10), (0, .ref (Z.2.2 175)), (1, .int p1), (2, .int p2), (3, .int p3), (4, .int p4)] rfl ?_
                    exact J110 x28 M17 hf hJ (by omega) (by first | exact li_vv_tr rfl rfl rfl rfl (by omega) Pvv_M17 | exact li_vv_0 (by omega)) (by first | exact li_sm_tr rfl (by omega) rfl rfl rfl rfl (by omega) Psm_M17 | exact li_sm_0 (by omega) (by omega))
                  · have tc26 : p2.toInt ≤ x8.toInt := tl_nlt c26
                    have sv0 := sh_at_0 (k := p1.toInt) (f := p3) (st := p4) (show EN ≤ (x8 : Int32).toInt by omega)
                    refine li_iconst 0 dX12_sheet_94 (by decide) ?_
                    refine li_goto 110 dX12_sheet_95 (by decide) ?_
                    refine li_pick [0, 1, 2, 3, 4, 5, 6, 7, 8] [(8, .int x16), (7, .int x8), (6, .int x9), (5, .int x10), (0, .ref (Z.2.2 175)), (1, .int p1), (2, .int p2), (3, .int p3), (4, .int p4)] rfl ?_
                    have z0 : (0 : Int32).toInt = 0 := rfl
                    exact J110 0 M17 hf hJ (by omega) (by first | exact li_vv_tr rfl rfl rfl rfl (by omega) Pvv_M17 | exact li_vv_0 (by omega)) (by first | exact li_sm_tr rfl (by omega) rfl rfl rfl rfl (by omega) Psm_M17 | exact li_sm_0 (by omega) (by omega))
              refine li_if_ne 62 dX12_sheet_53 (by decide) (fun c15 => ?_) (fun c15 => ?_)
              · have tc15 : ¬ p1.toInt = 0 := tl_ne c15
                refine li_iload_n 4 dX12_sheet_62 rfl ?_
                refine li_iconst 1 dX12_sheet_63 (by decide) ?_
                refine li_icmp_ne 73 dX12_sheet_64 (by decide) (fun c29 => ?_) (fun c29 => ?_)
                · have tc29 : ¬ p1.toInt = 1 := tl_ne c29
                  have se : (x9 : Int32).toInt = sh_en (p1.toInt) x9 := sh_en_2 (by omega) (by omega)
                  refine li_iload 1 dX12_sheet_73 rfl ?_
                  refine li_pick [0, 1, 2, 3, 4, 5, 6, 7] [(7, .int x8), (6, .int x9), (5, .int x10), (0, .ref (Z.2.2 175)), (1, .int p1), (2, .int p2), (3, .int p3), (4, .int p4)] rfl ?_
                  exact J75 x9 M11 hf hJ (by omega) (by first | exact li_vv_tr rfl rfl rfl rfl (by omega) Pvv_M11 | exact li_vv_0 (by omega)) (by first | exact li_sm_tr rfl (by omega) rfl rfl rfl rfl (by omega) Psm_M11 | exact li_sm_0 (by omega) (by omega))
                · have tc29 : p1.toInt = 1 := tl_eq c29
                  refine li_iload 1 dX12_sheet_67 rfl ?_
                  refine li_i2s dX12_sheet_69 ?_
                  refine li_top (fun x30 ex30 => ?_)
                  have se : x30.toInt = sh_en (p1.toInt) x9 := sh_en_1 (by omega) ex30
                  refine li_goto 75 dX12_sheet_70 (by decide) ?_
                  refine li_pick [0, 1, 2, 3, 4, 5, 6, 7] [(7, .int x8), (6, .int x9), (5, .int x10), (0, .ref (Z.2.2 175)), (1, .int p1), (2, .int p2), (3, .int p3), (4, .int p4)] rfl ?_
                  exact J75 x30 M11 hf hJ (by omega) (by first | exact li_vv_tr rfl rfl rfl rfl (by omega) Pvv_M11 | exact li_vv_0 (by omega)) (by first | exact li_sm_tr rfl (by omega) rfl rfl rfl rfl (by omega) Psm_M11 | exact li_sm_0 (by omega) (by omega))
              · have tc15 : p1.toInt = 0 := tl_eq c15
                refine li_iload 1 dX12_sheet_56 rfl ?_
                refine li_i2b dX12_sheet_58 ?_
                refine li_top (fun x31 ex31 => ?_)
                have se : x31.toInt = sh_en (p1.toInt) x9 := sh_en_0 (by omega) ex31
                refine li_goto 75 dX12_sheet_59 (by decide) ?_
                refine li_pick [0, 1, 2, 3, 4, 5, 6, 7] [(7, .int x8), (6, .int x9), (5, .int x10), (0, .ref (Z.2.2 175)), (1, .int p1), (2, .int p2), (3, .int p3), (4, .int p4)] rfl ?_
                exact J75 x31 M11 hf hJ (by omega) (by first | exact li_vv_tr rfl rfl rfl rfl (by omega) Pvv_M11 | exact li_vv_0 (by omega)) (by first | exact li_sm_tr rfl (by omega) rfl rfl rfl rfl (by omega) Psm_M11 | exact li_sm_0 (by omega) (by omega))
        have z0 : (0 : Int32).toInt = 0 := rfl
        have z0 : (0 : Int32).toInt = 0 := rfl
        exact L43 _ 0 p3 0 M3 (Nat.lt_succ_self _) hf hJ (by omega) (by first | exact li_vv_0 (by omega)) (by first | exact li_sm_0 (by omega) (by omega))
      · have tc7 : p1.toInt < 3 := tl_nle c7
        refine li_iload_n 2 dX12_sheet_27 rfl ?_
        refine li_if_ge 34 dX12_sheet_28 (by decide) (fun c32 => ?_) (fun c32 => ?_)
        · have tc32 : 0 ≤ p2.toInt := tl_le c32
          refine li_iconst 0 dX12_sheet_34 (by decide) ?_
          refine li_istore [(5, .int 0), (0, .ref (Z.2.2 175)), (1, .int p1), (2, .int p2), (3, .int p3), (4, .int p4)] dX12_sheet_35 (by decide) rfl ?_
          refine li_iload_n 4 dX12_sheet_37 rfl ?_
          refine li_istore [(6, .int p3), (5, .int 0), (0, .ref (Z.2.2 175)), (1, .int p1), (2, .int p2), (3, .int p3), (4, .int p4)] dX12_sheet_38 (by decide) rfl ?_
          refine li_iconst 0 dX12_sheet_40 (by decide) ?_
          refine li_istore [(7, .int 0), (6, .int p3), (5, .int 0), (0, .ref (Z.2.2 175)), (1, .int p1), (2, .int p2), (3, .int p3), (4, .int p4)] dX12_sheet_41 (by decide) rfl ?_
          have L43 : ∀ (n : Nat) (x33 : Int32) (x34 : Int32) (x35 : Int32) (M36 : li_M), (7 - (x33 : Int32).toInt).toNat < n → li_fs (fun i k => i = 176 ∨ (i = 175 ∧ k = 10)) M0 M36 → li_J M36 → 0 ≤ (x33 : Int32).toInt ∧ 0 ≤ (x35 : Int32).toInt ∧ (x35 : Int32).toInt ≤ 9999 * (x33 : Int32).toInt ∧ (M36.1 175 1).toInt = (M0.1 175 1).toInt ∧ (x33 : Int32).toInt ≤ (M0.1 175 1).toInt → li_vv (M36.1 180) ((x34 : Int32)) (p3) (p4) ((x33 : Int32).toInt) → li_sm (M36.1 180) ((x35 : Int32).toInt) (p1.toInt) (p3) (p4) (EN) ((x33 : Int32).toInt) → li_T l Z YX12_sheet d 43 [(7, .int x33), (6, .int x34), (5, .int x35), (0, .ref (Z.2.2 175)), (1, .int p1), (2, .int p2), (3, .int p3), (4, .int p4)] [] M36 (fun r M' => (∃ x : Int32, r = some (.int x) ∧ ((x.toInt = -1 ∧ ¬ (0 ≤ p1.toInt ∧ p1.toInt ≤ 3 ∧ p2.toInt ≤ 6)) ∨ (x.toInt = -2 ∧ 0 ≤ p1.toInt ∧ p1.toInt ≤ 2 ∧ p2.toInt < 0) ∨ (x.toInt = -3 ∧ p1.toInt = 3 ∧ p2.toInt ≤ 6) ∨ (0 ≤ p1.toInt ∧ p1.toInt ≤ 2 ∧ 0 ≤ p2.toInt ∧ p2.toInt ≤ 6 ∧ x.toInt = sh_sum (p1.toInt) p3 p4 EN ((M0.1 175 1).toInt).toNat))) ∧ li_fs (fun i k => i = 176 ∨ (i = 175 ∧ k = 10)) M0 M' ∧ li_J M') := by
            intro n
            induction n with
            | zero => intro x33 x34 x35 M36 hn; exact absurd hn (Nat.not_lt_zero _)
            | succ n ih43 =>
              intro x33 x34 x35 M36 hn hf hJ hi Pvv_M36 Psm_M36
              have gx33 := tl_rg x33
              have gx34 := tl_rg x34
              have gx35 := tl_rg x35
              have rM36_1 := J_sl1 (M := M36) hJ
              have mM36_1 : (M36.1 175 1).toInt = (M0.1 175 1).toInt := tl_slot (hf.1 175 1 (show ¬ (175 = 176 ∨ (175 = 175 ∧ 1 = 10)) by decide))
              refine li_iload 0 dX12_sheet_43 rfl ?_
              refine li_aload_n 3 dX12_sheet_45 rfl ?_
              refine li_geti (k := 1) (N := 52) (T := TX12) (C0 := RX12) dX12_sheet_46 (by decide) sh_175 rfl rfl (by decide) li_in12 w_1405 ?_
              refine li_top (fun x37 ex37 => ?_)
              have gx37 : 0 ≤ x37.toInt ∧ x37.toInt ≤ 6 := by rw [ex37]; exact J_sl1 hJ
              have mx37 : x37.toInt = (M36.1 175 1).toInt := tl_slot ex37
              have sx37 : x37.toInt = (M0.1 175 1).toInt := tl_slot (ex37.trans (hf.1 175 1 (show ¬ (175 = 176 ∨ (175 = 175 ∧ 1 = 10)) by decide)))
              refine li_icmp_ge 136 dX12_sheet_49 (by decide) (fun c38 => ?_) (fun c38 => ?_)
              · have tc38 : x37.toInt ≤ x33.toInt := tl_le c38
                refine li_iload_n 4 dX12_sheet_136 rfl ?_
                refine li_iconst 3 dX12_sheet_137 (by decide) ?_
                refine li_icmp_ne 146 dX12_sheet_138 (by decide) (fun c39 => ?_) (fun c39 => ?_)
                · have tc39 : ¬ p1.toInt = 3 := tl_ne c39
                  refine li_iload 2 dX12_sheet_146 rfl ?_
                  exact li_iret dX12_sheet_148 rfl rfl ⟨⟨_, rfl, (by first | omega | (have zq := li_sm_end (j' := (M0.1 175 1).toInt) Psm_M36 rfl (by omega); omega))⟩, hf, hJ⟩
                · have tc39 : p1.toInt = 3 := tl_eq c39
                  refine li_bipush (-3) dX12_sheet_141 (by decide) ?_
                  refine li_goto 148 dX12_sheet_143 (by decide) ?_
                  have zm3 : ((-3) : Int32).toInt = -3 := rfl
                  exact li_iret dX12_sheet_148 rfl rfl ⟨⟨_, rfl, (by first | omega | (have zq := li_sm_end (j' := (M0.1 175 1).toInt) Psm_M36 rfl (by omega); omega))⟩, hf, hJ⟩
              · have tc38 : x33.toInt < x37.toInt := tl_nle c38
                refine li_iload_n 4 dX12_sheet_52 rfl ?_
                have J75 : ∀ (x41 : Int32) (M42 : li_M), li_fs (fun i k => i = 176 ∨ (i = 175 ∧ k = 10)) M0 M42 → li_J M42 → 0 ≤ (x33 : Int32).toInt ∧ 0 ≤ (x35 : Int32).toInt ∧ (x35 : Int32).toInt ≤ 9999 * (x33 : Int32).toInt ∧ (M42.1 175 1).toInt = (M0.1 175 1).toInt ∧ (x33 : Int32).toInt < (M0.1 175 1).toInt ∧ (x41 : Int32).toInt = sh_en (p1.toInt) (x34 : Int32) → li_vv (M42.1 180) ((x34 : Int32)) (p3) (p4) ((x33 : Int32).toInt) → li_sm (M42.1 180) ((x35 : Int32).toInt) (p1.toInt) (p3) (p4) (EN) ((x33 : Int32).toInt) → li_T l Z YX12_sheet d 75 [(7, .int x33), (6, .int x34), (5, .int x35), (0, .ref (Z.2.2 175)), (1, .int p1), (2, .int p2), (3, .int p3), (4, .int p4)] [.int x41] M42 (fun r M' => (∃ x : Int32, r = some (.int x) ∧ ((x.toInt = -1 ∧ ¬ (0 ≤ p1.toInt ∧ p1.toInt ≤ 3 ∧ p2.toInt ≤ 6)) ∨ (x.toInt = -2 ∧ 0 ≤ p1.toInt ∧ p1.toInt ≤ 2 ∧ p2.toInt < 0) ∨ (x.toInt = -3 ∧ p1.toInt = 3 ∧ p2.toInt ≤ 6) ∨ (0 ≤ p1.toInt ∧ p1.toInt ≤ 2 ∧ 0 ≤ p2.toInt ∧ p2.toInt ≤ 6 ∧ x.toInt = sh_sum (p1.toInt) p3 p4 EN ((M0.1 175 1).toInt).toNat))) ∧ li_fs (fun i k => i = 176 ∨ (i = 175 ∧ k = 10)) M0 M' ∧ li_J M') := by
                  intro x41 M42 hf hJ hi Pvv_M42 Psm_M42
                  have gx41 := tl_rg x41
                  have rM42_1 := J_sl1 (M := M42) hJ
                  have mM42_1 : (M42.1 175 1).toInt = (M0.1 175 1).toInt := tl_slot (hf.1 175 1 (show ¬ (175 = 176 ∨ (175 = 175 ∧ 1 = 10)) by decide))
                  refine li_istore [(8, .int x41), (7, .int x33), (6, .int x34), (5, .int x35), (0, .ref (Z.2.2 175)), (1, .int p1), (2, .int p2), (3, .int p3), (4, .int p4)] dX12_sheet_75 (by decide) rfl ?_
                  refine li_aload_n 4 dX12_sheet_77 rfl ?_
                  refine li_getr (k := 0) (N := 52) (T := TX12) (C0 := RX12) dX12_sheet_78 (by decide) sh_175 rfl rfl (by decide) (by decide) li_in12 w_1404 ?_
                  refine li_iload 1 dX12_sheet_81 rfl ?_
                  refine li_iload_n 5 dX12_sheet_83 rfl ?_
                  refine li_iconst 3 dX12_sheet_84 (by decide) ?_
                  have J110 : ∀ (x44 : Int32) (M45 : li_M), li_fs (fun i k => i = 176 ∨ (i = 175 ∧ k = 10)) M0 M45 → li_J M45 → 0 ≤ (x33 : Int32).toInt ∧ 0 ≤ (x35 : Int32).toInt ∧ (x35 : Int32).toInt ≤ 9999 * (x33 : Int32).toInt ∧ (M45.1 175 1).toInt = (M0.1 175 1).toInt ∧ (x33 : Int32).toInt < (M0.1 175 1).toInt ∧ (x44 : Int32).toInt = sh_at (p1.toInt) p3 p4 EN (x33 : Int32) → li_vv (M45.1 180) ((x34 : Int32)) (p3) (p4) ((x33 : Int32).toInt) → li_sm (M45.1 180) ((x35 : Int32).toInt) (p1.toInt) (p3) (p4) (EN) ((x33 : Int32).toInt) → li_T l Z YX12_sheet d 110 [(8, .int x41), (7, .int x33), (6, .int x34), (5, .int x35), (0, .ref (Z.2.2 175)), (1, .int p1), (2, .int p2), (3, .int p3), (4, .int p4)] [.int x44, .int x33, .ref (Z.2.2 176)] M45 (fun r M' => (∃ x : Int32, r = some (.int x) ∧ ((x.toInt = -1 ∧ ¬ (0 ≤ p1.toInt ∧ p1.toInt ≤ 3 ∧ p2.toInt ≤ 6)) ∨ (x.toInt = -2 ∧ 0 ≤ p1.toInt ∧ p1.toInt ≤ 2 ∧ p2.toInt < 0) ∨ (x.toInt = -3 ∧ p1.toInt = 3 ∧ p2.toInt ≤ 6) ∨ (0 ≤ p1.toInt ∧ p1.toInt ≤ 2 ∧ 0 ≤ p2.toInt ∧ p2.toInt ≤ 6 ∧ x.toInt = sh_sum (p1.toInt) p3 p4 EN ((M0.1 175 1).toInt).toNat))) ∧ li_fs (fun i k => i = 176 ∨ (i = 175 ∧ k = 10)) M0 M' ∧ li_J M') := by
                    intro x44 M45 hf hJ hi Pvv_M45 Psm_M45
                    have gx44 := tl_rg x44
                    have rM45_1 := J_sl1 (M := M45) hJ
                    have mM45_1 : (M45.1 175 1).toInt = (M0.1 175 1).toInt := tl_slot (hf.1 175 1 (show ¬ (175 = 176 ∨ (175 = 175 ∧ 1 = 10)) by decide))
                    refine li_iast dX12_sheet_110 (by decide) sh_176 (tl_in (by omega)) ?_
                    refine li_nm (fun M46 eM46 => ?_)
                    have hf := li_fs_ui hf (Or.inl rfl) eM46
                    try (have oM46 : (x33 : Int32).toInt % 51 = (x33 : Int32).toInt := by omega)
                    have hJ := hJ.st (by decide) (li_el_led (by unfold li_led; omega) (by omega) (show ((x33 : Int32).toInt % 51 = 20 → 0 ≤ (x44 : Int32).toInt ∧ (x44 : Int32).toInt ≤ 6) ∧ (21 ≤ (x33 : Int32).toInt % 51 → ((x33 : Int32).toInt % 51 - 21) % 5 < 2 → 0 ≤ (x44 : Int32).toInt ∧ (x44 : Int32).toInt ≤ 5) by omega)) eM46
                    have rM46_1 := J_sl1 (M := M46) hJ
                    have mM46_1 : (M46.1 175 1).toInt = (M45.1 175 1).toInt := by rw [eM46, li_ui_at, if_neg (by decide)]
                    have Pvv_M46 : li_vv (M46.1 180) ((x34 : Int32)) (p3) (p4) ((x33 : Int32).toInt) := li_vv_tr (li_cell_ui eM46 (by decide)) rfl rfl rfl (by omega) Pvv_M45
                    have Psm_M46 : li_sm (M46.1 180) ((x35 : Int32).toInt) (p1.toInt) (p3) (p4) (EN) ((x33 : Int32).toInt) := li_sm_tr (li_cell_ui eM46 (by decide)) (by omega) rfl rfl rfl rfl (by omega) Psm_M45
                    refine li_iload 3 dX12_sheet_111 rfl ?_
                    refine li_aload_n 4 dX12_sheet_113 rfl ?_
                    refine li_getr (k := 0) (N := 52) (T := TX12) (C0 := RX12) dX12_sheet_114 (by decide) sh_175 rfl rfl (by decide) (by decide) li_in12 w_1404 ?_
                    refine li_iload 1 dX12_sheet_117 rfl ?_
                    refine li_iald dX12_sheet_119 (by decide) sh_176 (tl_in (by omega)) ?_
                    refine li_top (fun x47 ex47 => ?_)
                    have gx47 := tl_rg x47
                    try (have ox47 : (x33 : Int32).toInt % 51 = (x33 : Int32).toInt := by omega)
                    have lx47 : ((x33 : Int32).toInt % 51 = 20 → 0 ≤ x47.toInt ∧ x47.toInt ≤ 6) ∧ (21 ≤ (x33 : Int32).toInt % 51 → ((x33 : Int32).toInt % 51 - 21) % 5 < 2 → 0 ≤ x47.toInt ∧ x47.toInt ≤ 5) := hJ.ldLed (by unfold li_led; omega) ex47 (by omega)
                    have wl : x47.toInt = (x44 : Int32).toInt := tl_slot (by rw [ex47, eM46, li_ui_at, if_pos rfl, if_pos rfl])
                    have sr := sh_at_rg (k := p1.toInt) (f := p3) (st := p4) (en := EN) (i := x33)
                    have Psm_M46 : li_sm (M46.1 180) ((x35 : Int32).toInt + x47.toInt) (p1.toInt) (p3) (p4) (EN) ((x33 : Int32).toInt + 1) := li_sm_st (x := x33) Psm_M46 (by omega) (by omega) (by omega) (by omega)
                    refine li_iadd dX12_sheet_120 ?_
                    refine li_top (fun x48 ex48 => ?_)
                    try (have tx48 : x48.toInt = (x35 : Int32).toInt + (x47 : Int32).toInt := tl_add ex48 (by omega))
                    refine li_istore [(5, .int x48), (8, .int x41), (7, .int x33), (6, .int x34), (0, .ref (Z.2.2 175)), (1, .int p1), (2, .int p2), (3, .int p3), (4, .int p4)] dX12_sheet_121 (by decide) rfl ?_
                    refine li_iload 3 dX12_sheet_123 rfl ?_
                    refine li_iload 8 dX12_sheet_125 rfl ?_
                    refine li_iadd dX12_sheet_127 ?_
                    refine li_top (fun x49 ex49 => ?_)
                    try (have tx49 : x49.toInt = (x34 : Int32).toInt + (p4 : Int32).toInt := tl_add ex49 (by omega))
                    refine li_istore [(6, .int x49), (5, .int x48), (8, .int x41), (7, .int x33), (0, .ref (Z.2.2 175)), (1, .int p1), (2, .int p2), (3, .int p3), (4, .int p4)] dX12_sheet_128 (by decide) rfl ?_
                    have Pvv_M46 : li_vv (M46.1 180) ((x49 : Int32)) (p3) (p4) ((x33 : Int32).toInt + 1) := li_vv_st Pvv_M46 ex49 (by omega) (by omega)
                    obtain ⟨x50, ex50⟩ : ∃ y : Int32, y = x33 + 1 := ⟨_, rfl⟩
                    have z1 : (1 : Int32).toInt = 1 := rfl
                    try (have tx50 : x50.toInt = (x33 : Int32).toInt + (1 : Int32).toInt := tl_add ex50 (by omega))
                    refine li_iinc 3 [(7, .int x50), (6, .int x49), (5, .int x48), (8, .int x41), (0, .ref (Z.2.2 175)), (1, .int p1), (2, .int p2), (3, .int p3), (4, .int p4)] x50 dX12_sheet_130 rfl (by rw [ex50]; rfl) (by decide) rfl ?_
                    refine li_goto 43 dX12_sheet_133 (by decide) ?_
                    refine li_pick [0, 1, 2, 4, 5, 6, 7, 8] [(7, .int x50), (6, .int x49), (5, .int x48), (0, .ref (Z.2.2 175)), (1, .int p1), (2, .int p2), (3, .int p3), (4, .int p4)] rfl ?_
                    exact ih43 x50 x49 x48 M46 (by omega) hf hJ (by omega) (by first | exact li_vv_tr rfl rfl rfl rfl (by omega) Pvv_M46 | exact li_vv_0 (by omega)) (by first | exact li_sm_tr rfl (by omega) rfl rfl rfl rfl (by omega) Psm_M46 | exact li_sm_0 (by omega) (by omega))
                  refine li_icmp_eq 94 dX12_sheet_85 (by decide) (fun c43 => ?_) (fun c43 => ?_)
                  · have tc43 : p1.toInt = 3 := tl_eq c43
                    have sv0 := sh_at_0 (k := p1.toInt) (f := p3) (st := p4) (show EN ≤ (x33 : Int32).toInt by omega)
                    refine li_iconst 0 dX12_sheet_94 (by decide) ?_
                    refine li_goto 110 dX12_sheet_95 (by decide) ?_
                    refine li_pick [0, 1, 2, 3, 4, 5, 6, 7, 8] [(8, .int x41), (7, .int x33), (6, .int x34), (5, .int x35), (0, .ref (Z.2.2 175)), (1, .int p1), (2, .int p2), (3, .int p3), (4, .int p4)] rfl ?_
                    have z0 : (0 : Int32).toInt = 0 := rfl
                    exact J110 0 M42 hf hJ (by omega) (by first | exact li_vv_tr rfl rfl rfl rfl (by omega) Pvv_M42 | exact li_vv_0 (by omega)) (by first | exact li_sm_tr rfl (by omega) rfl rfl rfl rfl (by omega) Psm_M42 | exact li_sm_0 (by omega) (by omega))
                  · have tc43 : ¬ p1.toInt = 3 := tl_ne c43
                    refine li_iload 1 dX12_sheet_88 rfl ?_
                    refine li_iload_n 6 dX12_sheet_90 rfl ?_
                    refine li_icmp_lt 98 dX12_sheet_91 (by decide) (fun c51 => ?_) (fun c51 => ?_)
                    · have tc51 : x33.toInt < p2.toInt := tl_lt c51
                      have sv1 := sh_at_1 (k := p1.toInt) (show (x33 : Int32).toInt < EN by omega) (li_vv_at Pvv_M42 (show (x33 : Int32).toInt = (x33 : Int32).toInt from rfl) (by omega))
                      refine li_iconst 0 dX12_sheet_98 (by decide) ?_
                      refine li_sipush 9999 dX12_sheet_99 (by decide) ?_
                      refine li_iload 0 dX12_sheet_102 rfl ?_
                      refine li_mmin dX12_sheet_104 (by omega) w_1705 w_726 w_113 w_727 (Nat.le_of_ble_eq_true rfl) ?_
                      refine li_top (fun x52 ex52 => ?_)
                      have z9999 : (9999 : Int32).toInt = 9999 := rfl
                      have tx52 := tl_min2 ex52
                      refine li_mmax dX12_sheet_107 (by omega) w_1403 w_642 w_113 w_643 (Nat.le_of_ble_eq_true rfl) ?_
                      refine li_top (fun x53 ex53 => ?_)
                      have z0 : (0 : Int32).toInt = 0 := rfl
                      have tx53 := tl_max2 ex53
                      refine li_pick [0, 1, 2, 3, 4, 5, 6, 7, 8] [(8, .int x41), (7, .int x33), (6, .int x34), (5, .int x35), (0, .ref (Z.2.2 175)), (1, .int p1), (2, .int p2), (3, .int p3), (4, .int p4)] rfl ?_
                      exact J110 x53 M42 hf hJ (by omega) (by first | exact li_vv_tr rfl rfl rfl rfl (by omega) Pvv_M42 | exact li_vv_0 (by omega)) (by first | exact li_sm_tr rfl (by omega) rfl rfl rfl rfl (by omega) Psm_M42 | exact li_sm_0 (by omega) (by omega))
                    · have tc51 : p2.toInt ≤ x33.toInt := tl_nlt c51
                      have sv0 := sh_at_0 (k := p1.toInt) (f := p3) (st := p4) (show EN ≤ (x33 : Int32).toInt by omega)
                      refine li_iconst 0 dX12_sheet_94 (by decide) ?_
                      refine li_goto 110 dX12_sheet_95 (by decide) ?_
                      refine li_pick [0, 1, 2, 3, 4, 5, 6, 7, 8] [(8, .int x41), (7, .int x33), (6, .int x34), (5, .int x35), (0, .ref (Z.2.2 175)), (1, .int p1), (2, .int p2), (3, .int p3), (4, .int p4)] rfl ?_
                      have z0 : (0 : Int32).toInt = 0 := rfl
                      exact J110 0 M42 hf hJ (by omega) (by first | exact li_vv_tr rfl rfl rfl rfl (by omega) Pvv_M42 | exact li_vv_0 (by omega)) (by first | exact li_sm_tr rfl (by omega) rfl rfl rfl rfl (by omega) Psm_M42 | exact li_sm_0 (by omega) (by omega))
                refine li_if_ne 62 dX12_sheet_53 (by decide) (fun c40 => ?_) (fun c40 => ?_)
                · have tc40 : ¬ p1.toInt = 0 := tl_ne c40
                  refine li_iload_n 4 dX12_sheet_62 rfl ?_
                  refine li_iconst 1 dX12_sheet_63 (by decide) ?_
                  refine li_icmp_ne 73 dX12_sheet_64 (by decide) (fun c54 => ?_) (fun c54 => ?_)
                  · have tc54 : ¬ p1.toInt = 1 := tl_ne c54
                    have se : (x34 : Int32).toInt = sh_en (p1.toInt) x34 := sh_en_2 (by omega) (by omega)
                    refine li_iload 1 dX12_sheet_73 rfl ?_
                    refine li_pick [0, 1, 2, 3, 4, 5, 6, 7] [(7, .int x33), (6, .int x34), (5, .int x35), (0, .ref (Z.2.2 175)), (1, .int p1), (2, .int p2), (3, .int p3), (4, .int p4)] rfl ?_
                    exact J75 x34 M36 hf hJ (by omega) (by first | exact li_vv_tr rfl rfl rfl rfl (by omega) Pvv_M36 | exact li_vv_0 (by omega)) (by first | exact li_sm_tr rfl (by omega) rfl rfl rfl rfl (by omega) Psm_M36 | exact li_sm_0 (by omega) (by omega))
                  · have tc54 : p1.toInt = 1 := tl_eq c54
                    refine li_iload 1 dX12_sheet_67 rfl ?_
                    refine li_i2s dX12_sheet_69 ?_
                    refine li_top (fun x55 ex55 => ?_)
                    have se : x55.toInt = sh_en (p1.toInt) x34 := sh_en_1 (by omega) ex55
                    refine li_goto 75 dX12_sheet_70 (by decide) ?_
                    refine li_pick [0, 1, 2, 3, 4, 5, 6, 7] [(7, .int x33), (6, .int x34), (5, .int x35), (0, .ref (Z.2.2 175)), (1, .int p1), (2, .int p2), (3, .int p3), (4, .int p4)] rfl ?_
                    exact J75 x55 M36 hf hJ (by omega) (by first | exact li_vv_tr rfl rfl rfl rfl (by omega) Pvv_M36 | exact li_vv_0 (by omega)) (by first | exact li_sm_tr rfl (by omega) rfl rfl rfl rfl (by omega) Psm_M36 | exact li_sm_0 (by omega) (by omega))
                · have tc40 : p1.toInt = 0 := tl_eq c40
                  refine li_iload 1 dX12_sheet_56 rfl ?_
                  refine li_i2b dX12_sheet_58 ?_
                  refine li_top (fun x56 ex56 => ?_)
                  have se : x56.toInt = sh_en (p1.toInt) x34 := sh_en_0 (by omega) ex56
                  refine li_goto 75 dX12_sheet_59 (by decide) ?_
                  refine li_pick [0, 1, 2, 3, 4, 5, 6, 7] [(7, .int x33), (6, .int x34), (5, .int x35), (0, .ref (Z.2.2 175)), (1, .int p1), (2, .int p2), (3, .int p3), (4, .int p4)] rfl ?_
                  exact J75 x56 M36 hf hJ (by omega) (by first | exact li_vv_tr rfl rfl rfl rfl (by omega) Pvv_M36 | exact li_vv_0 (by omega)) (by first | exact li_sm_tr rfl (by omega) rfl rfl rfl rfl (by omega) Psm_M36 | exact li_sm_0 (by omega) (by omega))
          have z0 : (0 : Int32).toInt = 0 := rfl
          have z0 : (0 : Int32).toInt = 0 := rfl
          exact L43 _ 0 p3 0 M3 (Nat.lt_succ_self _) hf hJ (by omega) (by first | exact li_vv_0 (by omega)) (by first | exact li_sm_0 (by omega) (by omega))
        · have tc32 : p2.toInt < 0 := tl_nle c32
          refine li_bipush (-2) dX12_sheet_31 (by decide) ?_
          have zm2 : ((-2) : Int32).toInt = -2 := rfl
          exact li_iret dX12_sheet_33 rfl rfl ⟨⟨_, rfl, (by first | omega | (have zq := li_sm_end (j' := (M0.1 175 1).toInt) Psm_M3 rfl (by omega); omega))⟩, hf, hJ⟩
    · have tc6 : 6 < p2.toInt := tl_nle c6
      refine li_iconst (-1) dX12_sheet_20 (by decide) ?_
      have zm1 : ((-1) : Int32).toInt = -1 := rfl
      exact li_iret dX12_sheet_21 rfl rfl ⟨⟨_, rfl, (by first | omega | (have zq := li_sm_end (j' := (M0.1 175 1).toInt) Psm_M3 rfl (by omega); omega))⟩, hf, hJ⟩
  · skip
    refine li_if_eq 20 dX12_sheet_11 (by decide) (fun c => ?_) (fun c => absurd rfl c)
    refine li_iconst (-1) dX12_sheet_20 (by decide) ?_
    have zm1 : ((-1) : Int32).toInt = -1 := rfl
    exact li_iret dX12_sheet_21 rfl rfl ⟨⟨_, rfl, (by first | omega | (have zq := li_sm_end (j' := (M0.1 175 1).toInt) Psm_M3 rfl (by omega); omega))⟩, hf, hJ⟩
