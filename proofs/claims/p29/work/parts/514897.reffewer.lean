set_option maxRecDepth 100000 in
set_option maxHeartbeats 4000000 in
theorem k14_X12_shorter {l : Launch} {Z : li_Z} (d : Nat) (hdZq : 4 ≤ d) (M0 : li_M) (hJ : li_J M0) (TY Q : Int) (hTY : TY = (M0.1 175 7).toInt) (Plr_M0 : li_lr (M0.1 180) (TY) (80) (0) (Q)) (GZq : Nat → Int32) (hG : M0.1 193 = GZq) (m : Int) (hmZq : m = (M0.1 175 38).toInt) (hmr : 0 ≤ m ∧ m ≤ 10) (hGr : ∀ i : Nat, (i : Int) < 3 * m → 0 ≤ (GZq i).toInt ∧ (GZq i).toInt ≤ 6) : li_Met l Z YX12_shorter d [.ref (Z.2.2 175)] M0 (fun r M' => (∃ x : Int32, r = some (.int x) ∧ ((((TY = 0 ∧ x.toInt = -1) ∨ (0 < TY ∧ Q < TY ∧ Q ≤ 14 ∧ x.toInt = -1 - Q) ∨ (0 < TY ∧ Q < TY ∧ 14 < Q ∧ x.toInt = -15) ∨ (0 < TY ∧ Q = TY ∧ 14 < TY ∧ x.toInt = -15)) ∧ x.toInt < 0) ∨ (0 < TY ∧ Q = TY ∧ TY ≤ 14 ∧ ∃ T FZq : Nat → Int32, x = FZq 0 ∧ li_fq FZq T (TY) 1000000 0 ∧ li_cy T GZq (fun i => M0.1 180 i - 97) m (TY) (TY + 1) 0))) ∧ li_fs (fun i k => i = 181 ∨ i = 195 ∨ i = 196 ∨ (i = 175 ∧ k = 10) ∨ (i = 175 ∧ k = 40) ∨ (i = 175 ∧ k = 7) ∨ (i = 175 ∧ k = 9)) M0 M' ∧ li_J M' ∧ (M'.1 175 7).toInt = 0) := by
  refine li_enter (by decide +kernel) (Nat.le_of_ble_eq_true rfl) ?_
  show li_T l Z YX12_shorter d 0 [(0, .ref (Z.2.2 175))] [] M0 _
  have hf : li_fs (fun i k => i = 181 ∨ i = 195 ∨ i = 196 ∨ (i = 175 ∧ k = 10) ∨ (i = 175 ∧ k = 40) ∨ (i = 175 ∧ k = 7) ∨ (i = 175 ∧ k = 9)) M0 M0 := li_fs_refl
  have rM0_7 := J_sl7 (M := M0) hJ
  have rM0_9 := J_sl9 (M := M0) hJ
  have rM0_38 := J_sl38 (M := M0) hJ
  have rM0_40 := J_sl40 (M := M0) hJ
  refine li_aload_n 0 dX12_shorter_0 rfl ?_
  refine li_iconst 0 dX12_shorter_1 (by decide) ?_
  refine li_puti (k := 10) (N := 52) (T := TX12) (C0 := RX12) dX12_shorter_2 (by decide) sh_175 rfl rfl (by decide) li_in12 tyX12_ok nmX12 rfl rfl rfl rfl w_1414 ?_
  refine li_nm (fun M1Zq eM1 => ?_)
  have hf := li_fs_ui hf (Or.inr (Or.inr (Or.inr (Or.inl ⟨rfl, rfl⟩)))) eM1
  have z0 : (0 : Int32).toInt = 0 := rfl
  have hJ := hJ.put (k := 10) (by decide) (rg_free rfl) eM1
  have rM1_7 := J_sl7 (M := M1Zq) hJ
  have rM1_9 := J_sl9 (M := M1Zq) hJ
  have rM1_38 := J_sl38 (M := M1Zq) hJ
  have rM1_40 := J_sl40 (M := M1Zq) hJ
  have mM1_7 : (M1Zq.1 175 7).toInt = (M0.1 175 7).toInt := by rw [eM1, li_ui_at, if_pos rfl, if_neg (by decide)]
  have mM1_9 : (M1Zq.1 175 9).toInt = (M0.1 175 9).toInt := by rw [eM1, li_ui_at, if_pos rfl, if_neg (by decide)]
  have mM1_38 : (M1Zq.1 175 38).toInt = (M0.1 175 38).toInt := by rw [eM1, li_ui_at, if_pos rfl, if_neg (by decide)]
  have mM1_40 : (M1Zq.1 175 40).toInt = (M0.1 175 40).toInt := by rw [eM1, li_ui_at, if_pos rfl, if_neg (by decide)]
  refine li_aload_n 0 dX12_shorter_5 rfl ?_
  refine li_callV (n := 0) (As := []) dX12_shorter_6 (k13_X12_readWording (d - 1) (by omega) M1Zq hJ TY Q (Int.le_antisymm (by omega) (by omega)) (li_lr_tr (funext fun i => hf.1 180 i (by omega)) rfl rfl rfl rfl Plr_M0) GZq ((funext fun i => hf.1 193 i (by omega)).trans hG) m (Int.le_antisymm (by omega) (by omega)) hmr hGr) (by omega) (Nat.le_of_ble_eq_true rfl) w_1906 w_1908 w_93 w_112 w_1909 (by decide +kernel) rfl (by decide) sh_175 rfl rfl (Nat.le_of_ble_eq_true rfl) (fun r M3Zq h4 => ?_)
  obtain ⟨⟨x2Zq, rfl, qx2⟩, h4, jM3, nM3⟩ := h4
  have gx2 := tl_rg x2Zq
  have hf := li_fs_trans hf h4 (fun i k => fun hZq => Or.elim hZq (fun hZq => Or.inr (Or.inl hZq)) (fun hZq => Or.elim hZq (fun hZq => Or.inr (Or.inr (Or.inr (Or.inr (Or.inl hZq))))) (fun hZq => Or.inr (Or.inr (Or.inr (Or.inr (Or.inr (Or.inl hZq))))))))
  have hJ := jM3
  have rM3_7 := J_sl7 (M := M3Zq) hJ
  have rM3_9 := J_sl9 (M := M3Zq) hJ
  have rM3_38 := J_sl38 (M := M3Zq) hJ
  have rM3_40 := J_sl40 (M := M3Zq) hJ
  have mM3_9 : (M3Zq.1 175 9).toInt = (M1Zq.1 175 9).toInt := tl_slot (h4.1 175 9 (show ¬ (175 = 195 ∨ (175 = 175 ∧ 9 = 40) ∨ (175 = 175 ∧ 9 = 7)) by decide))
  have mM3_38 : (M3Zq.1 175 38).toInt = (M1Zq.1 175 38).toInt := tl_slot (h4.1 175 38 (show ¬ (175 = 195 ∨ (175 = 175 ∧ 38 = 40) ∨ (175 = 175 ∧ 38 = 7)) by decide))
  have qa := qx2
  clear qx2
  have x180 : (fun i => M1Zq.1 180 i - 97) = (fun i => M0.1 180 i - 97) := by rw [show M1Zq.1 180 = M0.1 180 from funext fun i => (h4.1 180 i (by omega)).symm.trans (hf.1 180 i (by omega))]
  rw [x180] at qa
  obtain ⟨T0Zq, hT0⟩ : ∃ T0Zq, M3Zq.1 195 = T0Zq := ⟨_, rfl⟩
  rw [hT0] at qa
  have qy : 0 ≤ x2Zq.toInt → 0 < TY ∧ Q = TY ∧ TY ≤ 14 ∧ x2Zq.toInt = 0 ∧ (M3Zq.1 175 40).toInt = TY ∧ li_cy T0Zq GZq (fun i => M0.1 180 i - 97) m (TY) (TY + 1) 0 := fun h9 => qa.resolve_left (fun h8 => absurd h8.2 (by omega))
  have Ptpg_M3 : li_tpg (M3Zq.1 195) ((M3Zq.1 175 40).toInt) (x2Zq.toInt) := (fun h9 => li_tp_tr hT0 (by have h8 := (qy h9).2.2.2.2.1; omega) (cy_tp (qy h9).2.2.2.2.2))
  have Pt5_M3 : li_t5 (M3Zq.1 195) (T0Zq) := hT0
  refine li_istore_n [(1, .int x2Zq), (0, .ref (Z.2.2 175))] dX12_shorter_9 (by decide) rfl ?_
  refine li_iload_n 0 dX12_shorter_10 rfl ?_
  refine li_if_ge 16 dX12_shorter_11 (by decide) (fun c5Zq => ?_) (fun c5Zq => ?_)
  · have tc5 : 0 ≤ x2Zq.toInt := tl_le c5Zq
    have qb := qy (by omega)
    clear qy qa
    have q1Zq := qb.1
    have q2Zq := qb.2.2.1
    have q3 := qb.2.2.2.2.1
    refine li_bipush 15 dX12_shorter_16 (by decide) ?_
    refine li_istore_n [(2, .int 15), (1, .int x2Zq), (0, .ref (Z.2.2 175))] dX12_shorter_18 (by decide) rfl ?_
    refine li_aload_n 2 dX12_shorter_19 rfl ?_
    refine li_getr (k := 41) (N := 52) (T := TX12) (C0 := RX12) dX12_shorter_20 (by decide) sh_175 rfl rfl (by decide) (by decide) li_in12 w_1445 ?_
    refine li_aload_n 2 dX12_shorter_23 rfl ?_
    refine li_geti (k := 40) (N := 52) (T := TX12) (C0 := RX12) dX12_shorter_24 (by decide) sh_175 rfl rfl (by decide) li_in12 w_1444 ?_
    refine li_top (fun x6 ex6 => ?_)
    have gx6 : 0 ≤ x6.toInt ∧ x6.toInt ≤ 14 := by rw [ex6]; exact J_sl40 hJ
    have mx6 : x6.toInt = (M3Zq.1 175 40).toInt := tl_slot ex6
    refine li_iconst 0 dX12_shorter_27 (by decide) ?_
    have z0 : (0 : Int32).toInt = 0 := rfl
    refine li_iast dX12_shorter_28 (by decide) sh_196 (tl_in (by omega)) ?_
    refine li_nm (fun M7Zq eM7 => ?_)
    have hf := li_fs_ui hf (Or.inr (Or.inr (Or.inl rfl))) eM7
    have hJ := hJ.st (by decide) (li_el_free (by unfold li_led; omega) (by decide) (by decide) (by unfold li_rq; omega)) eM7
    have rM7_7 := J_sl7 (M := M7Zq) hJ
    have rM7_9 := J_sl9 (M := M7Zq) hJ
    have rM7_38 := J_sl38 (M := M7Zq) hJ
    have rM7_40 := J_sl40 (M := M7Zq) hJ
    have mM7_7 : (M7Zq.1 175 7).toInt = (M3Zq.1 175 7).toInt := by rw [eM7, li_ui_at, if_neg (by decide)]
    have mM7_9 : (M7Zq.1 175 9).toInt = (M3Zq.1 175 9).toInt := by rw [eM7, li_ui_at, if_neg (by decide)]
    have mM7_38 : (M7Zq.1 175 38).toInt = (M3Zq.1 175 38).toInt := by rw [eM7, li_ui_at, if_neg (by decide)]
    have mM7_40 : (M7Zq.1 175 40).toInt = (M3Zq.1 175 40).toInt := by rw [eM7, li_ui_at, if_neg (by decide)]
    have Ptpg_M7 : li_tpg (M7Zq.1 195) ((M7Zq.1 175 40).toInt) (x2Zq.toInt) := li_tpg_tr (li_cell_ui eM7 (by decide)) (by omega) (fun h9 => by omega) Ptpg_M3
    have Pt5_M7 : li_t5 (M7Zq.1 195) (T0Zq) := li_t5_tr (li_cell_ui eM7 (by decide)) rfl Pt5_M3
    have Pfw_M7 : li_fw (M7Zq.1 196) ((M7Zq.1 175 40).toInt) ((M7Zq.1 175 40).toInt) := li_fw_0 eM7 (by omega) (by omega) (by omega)
    have Pfq_M7 : li_fq (M7Zq.1 196) (T0Zq) (TY) (1000000) (TY) := li_fq_0 ((congrArg Int32.toInt (put_at (f := TY) (ui_is eM7) ((li_cl (by omega)).trans (Int.le_antisymm (by omega) (by omega))))).trans rfl) (by omega) (by omega)
    refine li_aload_n 2 dX12_shorter_29 rfl ?_
    refine li_geti (k := 40) (N := 52) (T := TX12) (C0 := RX12) dX12_shorter_30 (by decide) sh_175 rfl rfl (by decide) li_in12 w_1444 ?_
    refine li_top (fun x8 ex8 => ?_)
    have gx8 : 0 ≤ x8.toInt ∧ x8.toInt ≤ 14 := by rw [ex8]; exact J_sl40 hJ
    have mx8 : x8.toInt = (M7Zq.1 175 40).toInt := tl_slot ex8
    refine li_iconst 1 dX12_shorter_33 (by decide) ?_
    refine li_isub dX12_shorter_34 ?_
    refine li_top (fun x9 ex9 => ?_)
    have z1 : (1 : Int32).toInt = 1 := rfl
    try (have tx9 : x9.toInt = (x8 : Int32).toInt - (1 : Int32).toInt := tl_sub ex9 (by omega))
    refine li_istore_n [(3, .int x9), (2, .int 15), (1, .int x2Zq), (0, .ref (Z.2.2 175))] dX12_shorter_35 (by decide) rfl ?_
    have L36 : ∀ (n : Nat) (x10 : Int32) (M11 : li_M), ((x10 : Int32).toInt + 1).toNat < n → li_fs (fun i k => i = 181 ∨ i = 195 ∨ i = 196 ∨ (i = 175 ∧ k = 10) ∨ (i = 175 ∧ k = 40) ∨ (i = 175 ∧ k = 7) ∨ (i = 175 ∧ k = 9)) M0 M11 → li_J M11 → -1 ≤ (x10 : Int32).toInt ∧ (x10 : Int32).toInt ≤ (M11.1 175 40).toInt - 1 ∧ (M11.1 175 40).toInt = TY ∧ (M11.1 175 7).toInt = 0 → li_tpg (M11.1 195) ((M11.1 175 40).toInt) ((x2Zq : Int32).toInt) → li_fw (M11.1 196) ((x10 : Int32).toInt + 1) ((M11.1 175 40).toInt) → li_t5 (M11.1 195) (T0Zq) → li_fq (M11.1 196) (T0Zq) (TY) (1000000) ((x10 : Int32).toInt + 1) → li_T l Z YX12_shorter d 36 [(3, .int x10), (2, .int 15), (1, .int x2Zq), (0, .ref (Z.2.2 175))] [] M11 (fun r M' => (∃ x : Int32, r = some (.int x) ∧ ((((TY = 0 ∧ x.toInt = -1) ∨ (0 < TY ∧ Q < TY ∧ Q ≤ 14 ∧ x.toInt = -1 - Q) ∨ (0 < TY ∧ Q < TY ∧ 14 < Q ∧ x.toInt = -15) ∨ (0 < TY ∧ Q = TY ∧ 14 < TY ∧ x.toInt = -15)) ∧ x.toInt < 0) ∨ (0 < TY ∧ Q = TY ∧ TY ≤ 14 ∧ ∃ T FZq : Nat → Int32, x = FZq 0 ∧ li_fq FZq T (TY) 1000000 0 ∧ li_cy T GZq (fun i => M0.1 180 i - 97) m (TY) (TY + 1) 0))) ∧ li_fs (fun i k => i = 181 ∨ i = 195 ∨ i = 196 ∨ (i = 175 ∧ k = 10) ∨ (i = 175 ∧ k = 40) ∨ (i = 175 ∧ k = 7) ∨ (i = 175 ∧ k = 9)) M0 M' ∧ li_J M' ∧ (M'.1 175 7).toInt = 0) := by
      intro n
      induction n with
      | zero => intro x10 M11 hn; exact absurd hn (Nat.not_lt_zero _)
      | succ n ih36 =>
        intro x10 M11 hn hf hJ hiZq Ptpg_M11 Pfw_M11 Pt5_M11 Pfq_M11
        have gx10 := tl_rg x10
        have rM11_7 := J_sl7 (M := M11) hJ
        have rM11_9 := J_sl9 (M := M11) hJ
        have rM11_38 := J_sl38 (M := M11) hJ
        have rM11_40 := J_sl40 (M := M11) hJ
        have mM11_38 : (M11.1 175 38).toInt = (M0.1 175 38).toInt := tl_slot (hf.1 175 38 (show ¬ (175 = 181 ∨ 175 = 195 ∨ 175 = 196 ∨ (175 = 175 ∧ 38 = 10) ∨ (175 = 175 ∧ 38 = 40) ∨ (175 = 175 ∧ 38 = 7) ∨ (175 = 175 ∧ 38 = 9)) by decide))
        refine li_iload_n 0 dX12_shorter_36 rfl ?_
        refine li_if_lt 113 dX12_shorter_37 (by decide) (fun c12Zq => ?_) (fun c12Zq => ?_)
        · have tc12 : x10.toInt < 0 := tl_lt c12Zq
          refine li_aload_n 3 dX12_shorter_113 rfl ?_
          refine li_getr (k := 41) (N := 52) (T := TX12) (C0 := RX12) dX12_shorter_114 (by decide) sh_175 rfl rfl (by decide) (by decide) li_in12 w_1445 ?_
          refine li_iconst 0 dX12_shorter_117 (by decide) ?_
          have z0 : (0 : Int32).toInt = 0 := rfl
          refine li_iald dX12_shorter_118 (by decide) sh_196 (tl_in (by omega)) ?_
          refine li_top (fun x13 ex13 => ?_)
          have gx13 := tl_rg x13
          have wx13 := li_fw_ld Pfw_M11 ex13 (by omega) (by omega) (by omega)
          have shq : ∃ T FZq : Nat → Int32, x13 = FZq 0 ∧ li_fq FZq T (TY) 1000000 0 ∧ li_cy T GZq (fun i => M0.1 180 i - 97) m (TY) (TY + 1) 0 := ⟨T0Zq, M11.1 196, ex13, li_fq_tr rfl rfl rfl rfl (Int.le_antisymm (by omega) (by omega)) Pfq_M11, qb.2.2.2.2.2⟩
          refine li_istore_n [(3, .int x13), (2, .int 15), (1, .int x2Zq), (0, .ref (Z.2.2 175))] dX12_shorter_119 (by decide) rfl ?_
          refine li_iconst 1 dX12_shorter_120 (by decide) ?_
          refine li_istore [(4, .int 1), (3, .int x13), (2, .int 15), (1, .int x2Zq), (0, .ref (Z.2.2 175))] dX12_shorter_121 (by decide) rfl ?_
          refine li_aload_n 4 dX12_shorter_123 rfl ?_
          refine li_iconst 0 dX12_shorter_124 (by decide) ?_
          refine li_puti (k := 9) (N := 52) (T := TX12) (C0 := RX12) dX12_shorter_125 (by decide) sh_175 rfl rfl (by decide) li_in12 tyX12_ok nmX12 rfl rfl rfl rfl w_1413 ?_
          refine li_nm (fun M14 eM14 => ?_)
          have hf := li_fs_ui hf (Or.inr (Or.inr (Or.inr (Or.inr (Or.inr (Or.inr (⟨rfl, rfl⟩))))))) eM14
          have z0 : (0 : Int32).toInt = 0 := rfl
          have hJ := J_pt9 hJ (show 0 ≤ (0 : Int32).toInt ∧ (0 : Int32).toInt ≤ 20 by omega) eM14
          have rM14_7 := J_sl7 (M := M14) hJ
          have rM14_9 := J_sl9 (M := M14) hJ
          have rM14_38 := J_sl38 (M := M14) hJ
          have rM14_40 := J_sl40 (M := M14) hJ
          have mM14_7 : (M14.1 175 7).toInt = (M11.1 175 7).toInt := by rw [eM14, li_ui_at, if_pos rfl, if_neg (by decide)]
          have mM14_9 : (M14.1 175 9).toInt = 0 := by rw [eM14, li_ui_at, if_pos rfl, if_pos rfl]; rfl
          have mM14_38 : (M14.1 175 38).toInt = (M11.1 175 38).toInt := by rw [eM14, li_ui_at, if_pos rfl, if_neg (by decide)]
          have mM14_40 : (M14.1 175 40).toInt = (M11.1 175 40).toInt := by rw [eM14, li_ui_at, if_pos rfl, if_neg (by decide)]
          have Ptpg_M14 : li_tpg (M14.1 195) ((M14.1 175 40).toInt) ((x2Zq : Int32).toInt) := li_tpg_tr (li_cell_ui eM14 (by decide)) (by omega) (fun h9 => by omega) Ptpg_M11
          have Pfw_M14 : li_fw (M14.1 196) ((x10 : Int32).toInt + 1) ((M14.1 175 40).toInt) := li_fw_tr (li_cell_ui eM14 (by decide)) (by omega) (by omega) Pfw_M11
          have Pt5_M14 : li_t5 (M14.1 195) (T0Zq) := li_t5_tr (li_cell_ui eM14 (by decide)) rfl Pt5_M11
          have Pfq_M14 : li_fq (M14.1 196) (T0Zq) (TY) (1000000) ((x10 : Int32).toInt + 1) := li_fq_tr (li_cell_ui eM14 (by decide)) rfl rfl rfl (Int.le_antisymm (by omega) (by omega)) Pfq_M11
          refine li_iconst 0 dX12_shorter_128 (by decide) ?_
          refine li_istore [(5, .int 0), (4, .int 1), (3, .int x13), (2, .int 15), (1, .int x2Zq), (0, .ref (Z.2.2 175))] dX12_shorter_129 (by decide) rfl ?_
          have L131 : ∀ (n : Nat) (x15 : Int32) (x16 : Int32) (M17 : li_M), (15 - (x15 : Int32).toInt).toNat < n → li_fs (fun i k => i = 181 ∨ i = 195 ∨ i = 196 ∨ (i = 175 ∧ k = 10) ∨ (i = 175 ∧ k = 40) ∨ (i = 175 ∧ k = 7) ∨ (i = 175 ∧ k = 9)) M0 M17 → li_J M17 → 0 ≤ (x15 : Int32).toInt ∧ (M17.1 175 9).toInt = (x15 : Int32).toInt ∧ (M17.1 175 7).toInt = 0 → li_T l Z YX12_shorter d 131 [(5, .int x15), (4, .int x16), (3, .int x13), (2, .int 15), (1, .int x2Zq), (0, .ref (Z.2.2 175))] [] M17 (fun r M' => (∃ x : Int32, r = some (.int x) ∧ ((((TY = 0 ∧ x.toInt = -1) ∨ (0 < TY ∧ Q < TY ∧ Q ≤ 14 ∧ x.toInt = -1 - Q) ∨ (0 < TY ∧ Q < TY ∧ 14 < Q ∧ x.toInt = -15) ∨ (0 < TY ∧ Q = TY ∧ 14 < TY ∧ x.toInt = -15)) ∧ x.toInt < 0) ∨ (0 < TY ∧ Q = TY ∧ TY ≤ 14 ∧ ∃ T FZq : Nat → Int32, x = FZq 0 ∧ li_fq FZq T (TY) 1000000 0 ∧ li_cy T GZq (fun i => M0.1 180 i - 97) m (TY) (TY + 1) 0))) ∧ li_fs (fun i k => i = 181 ∨ i = 195 ∨ i = 196 ∨ (i = 175 ∧ k = 10) ∨ (i = 175 ∧ k = 40) ∨ (i = 175 ∧ k = 7) ∨ (i = 175 ∧ k = 9)) M0 M' ∧ li_J M' ∧ (M'.1 175 7).toInt = 0) := by
            intro n
            induction n with
            | zero => intro x15 x16 M17 hn; exact absurd hn (Nat.not_lt_zero _)
            | succ n ih131 =>
              intro x15 x16 M17 hn hf hJ hiZq
              have gx15 := tl_rg x15
              have gx16 := tl_rg x16
              have rM17_7 := J_sl7 (M := M17) hJ
              have rM17_9 := J_sl9 (M := M17) hJ
              have rM17_38 := J_sl38 (M := M17) hJ
              have rM17_40 := J_sl40 (M := M17) hJ
              have mM17_38 : (M17.1 175 38).toInt = (M0.1 175 38).toInt := tl_slot (hf.1 175 38 (show ¬ (175 = 181 ∨ 175 = 195 ∨ 175 = 196 ∨ (175 = 175 ∧ 38 = 10) ∨ (175 = 175 ∧ 38 = 40) ∨ (175 = 175 ∧ 38 = 7) ∨ (175 = 175 ∧ 38 = 9)) by decide))
              refine li_iload 0 dX12_shorter_131 rfl ?_
              refine li_iload_n 2 dX12_shorter_133 rfl ?_
              refine li_icmp_ge 302 dX12_shorter_134 (by decide) (fun c18Zq => ?_) (fun c18Zq => ?_)
              · have tc18 : x13.toInt ≤ x15.toInt := tl_le c18Zq
                refine li_iload_n 2 dX12_shorter_302 rfl ?_
                exact li_iret dX12_shorter_303 rfl rfl ⟨⟨_, rfl, (by first | exact Or.inr ⟨qb.1, qb.2.1, qb.2.2.1, shq⟩ | exact Or.inl qn)⟩, hf, hJ, (by omega)⟩
              · have tc18 : x15.toInt < x13.toInt := tl_nle c18Zq
                refine li_bipush 7 dX12_shorter_137 (by decide) ?_
                refine li_istore [(6, .int 7), (5, .int x15), (4, .int x16), (3, .int x13), (2, .int 15), (1, .int x2Zq), (0, .ref (Z.2.2 175))] dX12_shorter_139 (by decide) rfl ?_
                refine li_iconst 0 dX12_shorter_141 (by decide) ?_
                refine li_istore [(7, .int 0), (6, .int 7), (5, .int x15), (4, .int x16), (3, .int x13), (2, .int 15), (1, .int x2Zq), (0, .ref (Z.2.2 175))] dX12_shorter_142 (by decide) rfl ?_
                refine li_iconst 0 dX12_shorter_144 (by decide) ?_
                refine li_istore [(8, .int 0), (7, .int 0), (6, .int 7), (5, .int x15), (4, .int x16), (3, .int x13), (2, .int 15), (1, .int x2Zq), (0, .ref (Z.2.2 175))] dX12_shorter_145 (by decide) rfl ?_
                have L147 : ∀ (n : Nat) (x19 : Int32) (x20 : Int32) (x21 : Int32) (M22 : li_M), (15 - (x19 : Int32).toInt).toNat < n → li_fs (fun i k => i = 181 ∨ i = 195 ∨ i = 196 ∨ (i = 175 ∧ k = 10) ∨ (i = 175 ∧ k = 40) ∨ (i = 175 ∧ k = 7) ∨ (i = 175 ∧ k = 9)) M0 M22 → li_J M22 → 0 ≤ (x19 : Int32).toInt ∧ (M22.1 175 9).toInt = (x15 : Int32).toInt ∧ (M22.1 175 7).toInt = 0 → li_T l Z YX12_shorter d 147 [(8, .int x19), (7, .int x20), (6, .int x21), (5, .int x15), (4, .int x16), (3, .int x13), (2, .int 15), (1, .int x2Zq), (0, .ref (Z.2.2 175))] [] M22 (fun r M' => (∃ x : Int32, r = some (.int x) ∧ ((((TY = 0 ∧ x.toInt = -1) ∨ (0 < TY ∧ Q < TY ∧ Q ≤ 14 ∧ x.toInt = -1 - Q) ∨ (0 < TY ∧ Q < TY ∧ 14 < Q ∧ x.toInt = -15) ∨ (0 < TY ∧ Q = TY ∧ 14 < TY ∧ x.toInt = -15)) ∧ x.toInt < 0) ∨ (0 < TY ∧ Q = TY ∧ TY ≤ 14 ∧ ∃ T FZq : Nat → Int32, x = FZq 0 ∧ li_fq FZq T (TY) 1000000 0 ∧ li_cy T GZq (fun i => M0.1 180 i - 97) m (TY) (TY + 1) 0))) ∧ li_fs (fun i k => i = 181 ∨ i = 195 ∨ i = 196 ∨ (i = 175 ∧ k = 10) ∨ (i = 175 ∧ k = 40) ∨ (i = 175 ∧ k = 7) ∨ (i = 175 ∧ k = 9)) M0 M' ∧ li_J M' ∧ (M'.1 175 7).toInt = 0) := by
                  intro n
                  induction n with
                  | zero => intro x19 x20 x21 M22 hn; exact absurd hn (Nat.not_lt_zero _)
                  | succ n ih147 =>
                    intro x19 x20 x21 M22 hn hf hJ hiZq
                    have gx19 := tl_rg x19
                    have gx20 := tl_rg x20
                    have gx21 := tl_rg x21
                    have rM22_7 := J_sl7 (M := M22) hJ
                    have rM22_9 := J_sl9 (M := M22) hJ
                    have rM22_38 := J_sl38 (M := M22) hJ
                    have rM22_40 := J_sl40 (M := M22) hJ
                    have mM22_38 : (M22.1 175 38).toInt = (M0.1 175 38).toInt := tl_slot (hf.1 175 38 (show ¬ (175 = 181 ∨ 175 = 195 ∨ 175 = 196 ∨ (175 = 175 ∧ 38 = 10) ∨ (175 = 175 ∧ 38 = 40) ∨ (175 = 175 ∧ 38 = 7) ∨ (175 = 175 ∧ 38 = 9)) by decide))
                    refine li_iload 0 dX12_shorter_147 rfl ?_
                    refine li_aload_n 8 dX12_shorter_149 rfl ?_
                    refine li_geti (k := 40) (N := 52) (T := TX12) (C0 := RX12) dX12_shorter_150 (by decide) sh_175 rfl rfl (by decide) li_in12 w_1444 ?_
                    refine li_top (fun x23 ex23 => ?_)
                    have gx23 : 0 ≤ x23.toInt ∧ x23.toInt ≤ 14 := by rw [ex23]; exact J_sl40 hJ
                    have mx23 : x23.toInt = (M22.1 175 40).toInt := tl_slot ex23
                    refine li_icmp_ge 286 dX12_shorter_153 (by decide) (fun c24Zq => ?_) (fun c24Zq => ?_)
                    · have tc24 : x23.toInt ≤ x19.toInt := tl_le c24Zq
                      refine li_aload_n 8 dX12_shorter_286 rfl ?_
                      refine li_iload 2 dX12_shorter_287 rfl ?_
                      refine li_callV (n := 1) (As := [.int x21]) dX12_shorter_289 (k_X12_tell (d - 1) (by omega) x21 M22 hJ (by omega)) (by omega) (Nat.le_of_ble_eq_true rfl) w_1783 w_1785 w_77 w_112 w_1786 (by decide +kernel) rfl (by decide) sh_175 rfl rfl (Nat.le_of_ble_eq_true rfl) (fun r M26 h27 => ?_)
                      obtain ⟨rfl, h27, jM26, nM26⟩ := h27
                      have hf := li_fs_trans hf h27 (fun i k => fun hZq => Or.elim hZq (fun hZq => Or.inl hZq) (fun hZq => Or.inr (Or.inr (Or.inr (Or.inr (Or.inr (Or.inr hZq)))))))
                      have hJ := jM26
                      have rM26_7 := J_sl7 (M := M26) hJ
                      have rM26_9 := J_sl9 (M := M26) hJ
                      have rM26_38 := J_sl38 (M := M26) hJ
                      have rM26_40 := J_sl40 (M := M26) hJ
                      have mM26_7 : (M26.1 175 7).toInt = (M22.1 175 7).toInt := tl_slot (h27.1 175 7 (show ¬ (175 = 181 ∨ (175 = 175 ∧ 7 = 9)) by decide))
                      have mM26_38 : (M26.1 175 38).toInt = (M22.1 175 38).toInt := tl_slot (h27.1 175 38 (show ¬ (175 = 181 ∨ (175 = 175 ∧ 38 = 9)) by decide))
                      have mM26_40 : (M26.1 175 40).toInt = (M22.1 175 40).toInt := tl_slot (h27.1 175 40 (show ¬ (175 = 181 ∨ (175 = 175 ∧ 40 = 9)) by decide))
                      refine li_iload 1 dX12_shorter_292 rfl ?_
                      refine li_istore [(4, .int x20), (8, .int x19), (7, .int x20), (6, .int x21), (5, .int x15), (3, .int x13), (2, .int 15), (1, .int x2Zq), (0, .ref (Z.2.2 175))] dX12_shorter_294 (by decide) rfl ?_
                      obtain ⟨x28, ex28⟩ : ∃ y : Int32, y = x15 + 1 := ⟨_, rfl⟩
                      have z1 : (1 : Int32).toInt = 1 := rfl
                      try (have tx28 : x28.toInt = (x15 : Int32).toInt + (1 : Int32).toInt := tl_add ex28 (by omega))
                      refine li_iinc 4 [(5, .int x28), (4, .int x20), (8, .int x19), (7, .int x20), (6, .int x21), (3, .int x13), (2, .int 15), (1, .int x2Zq), (0, .ref (Z.2.2 175))] x28 dX12_shorter_296 rfl (by rw [ex28]; rfl) (by decide) rfl ?_
                      refine li_goto 131 dX12_shorter_299 (by decide) ?_
                      refine li_pick [0, 1, 5, 6, 7, 8] [(5, .int x28), (4, .int x20), (3, .int x13), (2, .int 15), (1, .int x2Zq), (0, .ref (Z.2.2 175))] rfl ?_
                      exact ih131 x28 x20 M26 (by omega) hf hJ (by omega)
                    · have tc24 : x19.toInt < x23.toInt := tl_nle c24Zq
                      refine li_iload 4 dX12_shorter_156 rfl ?_
                      refine li_iload 0 dX12_shorter_158 rfl ?_
                      refine li_callS (n := 2) (As := [.int x16, .int x19]) dX12_shorter_160 (k_X12_has (d - 1) (by omega) x16 x19 M22 hJ ) (by omega) (Nat.le_of_ble_eq_true rfl) w_1734 w_1735 w_112 w_1736 (by decide +kernel) rfl rfl (Nat.le_of_ble_eq_true rfl) (fun r M30 h31 => ?_)
                      obtain ⟨qx29, h31, jM30⟩ := h31
                      have hf := li_fs_trans hf h31 (fun i k hZq => False.elim hZq)
                      have hJ := jM30
                      have rM30_7 := J_sl7 (M := M30) hJ
                      have rM30_9 := J_sl9 (M := M30) hJ
                      have rM30_38 := J_sl38 (M := M30) hJ
                      have rM30_40 := J_sl40 (M := M30) hJ
                      have mM30_7 : (M30.1 175 7).toInt = (M22.1 175 7).toInt := tl_slot (h31.1 175 7 id)
                      have mM30_9 : (M30.1 175 9).toInt = (M22.1 175 9).toInt := tl_slot (h31.1 175 9 id)
                      have mM30_38 : (M30.1 175 38).toInt = (M22.1 175 38).toInt := tl_slot (h31.1 175 38 id)
                      have mM30_40 : (M30.1 175 40).toInt = (M22.1 175 40).toInt := tl_slot (h31.1 175 40 id)
                      rcases qx29 with ⟨rfl, qx29⟩ | ⟨rfl, qx29⟩
                      · skip
                        refine li_if_ne 169 dX12_shorter_163 (by decide) (fun c => ?_) (fun c => absurd c (by decide))
                        refine li_iload 0 dX12_shorter_169 rfl ?_
                        refine li_iconst 1 dX12_shorter_171 (by decide) ?_
                        refine li_iadd dX12_shorter_172 ?_
                        refine li_top (fun x33 ex33 => ?_)
                        have z1 : (1 : Int32).toInt = 1 := rfl
                        try (have tx33 : x33.toInt = (x19 : Int32).toInt + (1 : Int32).toInt := tl_add ex33 (by omega))
                        refine li_istore [(9, .int x33), (8, .int x19), (7, .int x20), (6, .int x21), (5, .int x15), (4, .int x16), (3, .int x13), (2, .int 15), (1, .int x2Zq), (0, .ref (Z.2.2 175))] dX12_shorter_173 (by decide) rfl ?_
                        have L175 : ∀ (n : Nat) (x34 : Int32) (x35 : Int32) (x36 : Int32) (M37 : li_M), (16 - (x34 : Int32).toInt).toNat < n → li_fs (fun i k => i = 181 ∨ i = 195 ∨ i = 196 ∨ (i = 175 ∧ k = 10) ∨ (i = 175 ∧ k = 40) ∨ (i = 175 ∧ k = 7) ∨ (i = 175 ∧ k = 9)) M0 M37 → li_J M37 → 0 ≤ (x34 : Int32).toInt ∧ (M37.1 175 9).toInt = (x15 : Int32).toInt ∧ (M37.1 175 7).toInt = 0 → li_T l Z YX12_shorter d 175 [(9, .int x34), (8, .int x19), (7, .int x35), (6, .int x36), (5, .int x15), (4, .int x16), (3, .int x13), (2, .int 15), (1, .int x2Zq), (0, .ref (Z.2.2 175))] [] M37 (fun r M' => (∃ x : Int32, r = some (.int x) ∧ ((((TY = 0 ∧ x.toInt = -1) ∨ (0 < TY ∧ Q < TY ∧ Q ≤ 14 ∧ x.toInt = -1 - Q) ∨ (0 < TY ∧ Q < TY ∧ 14 < Q ∧ x.toInt = -15) ∨ (0 < TY ∧ Q = TY ∧ 14 < TY ∧ x.toInt = -15)) ∧ x.toInt < 0) ∨ (0 < TY ∧ Q = TY ∧ TY ≤ 14 ∧ ∃ T FZq : Nat → Int32, x = FZq 0 ∧ li_fq FZq T (TY) 1000000 0 ∧ li_cy T GZq (fun i => M0.1 180 i - 97) m (TY) (TY + 1) 0))) ∧ li_fs (fun i k => i = 181 ∨ i = 195 ∨ i = 196 ∨ (i = 175 ∧ k = 10) ∨ (i = 175 ∧ k = 40) ∨ (i = 175 ∧ k = 7) ∨ (i = 175 ∧ k = 9)) M0 M' ∧ li_J M' ∧ (M'.1 175 7).toInt = 0) := by
                          intro n
                          induction n with
                          | zero => intro x34 x35 x36 M37 hn; exact absurd hn (Nat.not_lt_zero _)
                          | succ n ih175 =>
                            intro x34 x35 x36 M37 hn hf hJ hiZq
                            have gx34 := tl_rg x34
                            have gx35 := tl_rg x35
                            have gx36 := tl_rg x36
                            have rM37_7 := J_sl7 (M := M37) hJ
                            have rM37_9 := J_sl9 (M := M37) hJ
                            have rM37_38 := J_sl38 (M := M37) hJ
                            have rM37_40 := J_sl40 (M := M37) hJ
                            have mM37_38 : (M37.1 175 38).toInt = (M0.1 175 38).toInt := tl_slot (hf.1 175 38 (show ¬ (175 = 181 ∨ 175 = 195 ∨ 175 = 196 ∨ (175 = 175 ∧ 38 = 10) ∨ (175 = 175 ∧ 38 = 40) ∨ (175 = 175 ∧ 38 = 7) ∨ (175 = 175 ∧ 38 = 9)) by decide))
                            refine li_iload 0 dX12_shorter_175 rfl ?_
                            refine li_aload_n 9 dX12_shorter_177 rfl ?_
                            refine li_geti (k := 40) (N := 52) (T := TX12) (C0 := RX12) dX12_shorter_178 (by decide) sh_175 rfl rfl (by decide) li_in12 w_1444 ?_
                            refine li_top (fun x38 ex38 => ?_)
                            have gx38 : 0 ≤ x38.toInt ∧ x38.toInt ≤ 14 := by rw [ex38]; exact J_sl40 hJ
                            have mx38 : x38.toInt = (M37.1 175 40).toInt := tl_slot ex38
                            refine li_icmp_gt 280 dX12_shorter_181 (by decide) (fun c39Zq => ?_) (fun c39Zq => ?_)
                            · have tc39 : x38.toInt < x34.toInt := tl_lt c39Zq
                              obtain ⟨x40, ex40⟩ : ∃ y : Int32, y = x19 + 1 := ⟨_, rfl⟩
                              have z1 : (1 : Int32).toInt = 1 := rfl
                              try (have tx40 : x40.toInt = (x19 : Int32).toInt + (1 : Int32).toInt := tl_add ex40 (by omega))
                              refine li_iinc 1 [(8, .int x40), (9, .int x34), (7, .int x35), (6, .int x36), (5, .int x15), (4, .int x16), (3, .int x13), (2, .int 15), (1, .int x2Zq), (0, .ref (Z.2.2 175))] x40 dX12_shorter_280 rfl (by rw [ex40]; rfl) (by decide) rfl ?_
                              refine li_goto 147 dX12_shorter_283 (by decide) ?_
                              refine li_pick [0, 2, 3, 4, 5, 6, 7, 8, 9] [(8, .int x40), (7, .int x35), (6, .int x36), (5, .int x15), (4, .int x16), (3, .int x13), (2, .int 15), (1, .int x2Zq), (0, .ref (Z.2.2 175))] rfl ?_
                              exact ih147 x40 x35 x36 M37 (by omega) hf hJ (by omega)
                            · have tc39 : x34.toInt ≤ x38.toInt := tl_nlt c39Zq
                              refine li_aload_n 9 dX12_shorter_184 rfl ?_
                              refine li_getr (k := 39) (N := 52) (T := TX12) (C0 := RX12) dX12_shorter_185 (by decide) sh_175 rfl rfl (by decide) (by decide) li_in12 w_1443 ?_
                              refine li_iload_n 7 dX12_shorter_188 rfl ?_
                              refine li_iload 1 dX12_shorter_189 rfl ?_
                              refine li_imul dX12_shorter_191 ?_
                              refine li_top (fun x41 ex41 => ?_)
                              have z15 : (15 : Int32).toInt = 15 := rfl
                              try (have tx41 : x41.toInt = 15 * (x19 : Int32).toInt := tl_mul ex41 (show -2147483648 ≤ 15 * (x19 : Int32).toInt ∧ 15 * (x19 : Int32).toInt ≤ 2147483647 by omega))
                              refine li_iload 0 dX12_shorter_192 rfl ?_
                              refine li_iadd dX12_shorter_194 ?_
                              refine li_top (fun x42 ex42 => ?_)
                              try (have tx42 : x42.toInt = (x41 : Int32).toInt + (x34 : Int32).toInt := tl_add ex42 (by omega))
                              refine li_iald dX12_shorter_195 (by decide) sh_195 (tl_in (by omega)) ?_
                              refine li_top (fun x43 ex43 => ?_)
                              have gx43 := tl_rg x43
                              have J274 : ∀ (x45 : Int32) (x46 : Int32) (M47 : li_M), li_fs (fun i k => i = 181 ∨ i = 195 ∨ i = 196 ∨ (i = 175 ∧ k = 10) ∨ (i = 175 ∧ k = 40) ∨ (i = 175 ∧ k = 7) ∨ (i = 175 ∧ k = 9)) M0 M47 → li_J M47 → (M47.1 175 9).toInt = (x15 : Int32).toInt ∧ (M47.1 175 7).toInt = 0 → li_T l Z YX12_shorter d 274 [(9, .int x34), (8, .int x19), (7, .int x45), (6, .int x46), (5, .int x15), (4, .int x16), (3, .int x13), (2, .int 15), (1, .int x2Zq), (0, .ref (Z.2.2 175))] [] M47 (fun r M' => (∃ x : Int32, r = some (.int x) ∧ ((((TY = 0 ∧ x.toInt = -1) ∨ (0 < TY ∧ Q < TY ∧ Q ≤ 14 ∧ x.toInt = -1 - Q) ∨ (0 < TY ∧ Q < TY ∧ 14 < Q ∧ x.toInt = -15) ∨ (0 < TY ∧ Q = TY ∧ 14 < TY ∧ x.toInt = -15)) ∧ x.toInt < 0) ∨ (0 < TY ∧ Q = TY ∧ TY ≤ 14 ∧ ∃ T FZq : Nat → Int32, x = FZq 0 ∧ li_fq FZq T (TY) 1000000 0 ∧ li_cy T GZq (fun i => M0.1 180 i - 97) m (TY) (TY + 1) 0))) ∧ li_fs (fun i k => i = 181 ∨ i = 195 ∨ i = 196 ∨ (i = 175 ∧ k = 10) ∨ (i = 175 ∧ k = 40) ∨ (i = 175 ∧ k = 7) ∨ (i = 175 ∧ k = 9)) M0 M' ∧ li_J M' ∧ (M'.1 175 7).toInt = 0) := by
                                intro x45 x46 M47 hf hJ hiZq
                                have gx45 := tl_rg x45
                                have gx46 := tl_rg x46
                                have rM47_7 := J_sl7 (M := M47) hJ
                                have rM47_9 := J_sl9 (M := M47) hJ
                                have rM47_38 := J_sl38 (M := M47) hJ
                                have rM47_40 := J_sl40 (M := M47) hJ
                                have mM47_38 : (M47.1 175 38).toInt = (M0.1 175 38).toInt := tl_slot (hf.1 175 38 (show ¬ (175 = 181 ∨ 175 = 195 ∨ 175 = 196 ∨ (175 = 175 ∧ 38 = 10) ∨ (175 = 175 ∧ 38 = 40) ∨ (175 = 175 ∧ 38 = 7) ∨ (175 = 175 ∧ 38 = 9)) by decide))
                                obtain ⟨x48, ex48⟩ : ∃ y : Int32, y = x34 + 1 := ⟨_, rfl⟩
                                have z1 : (1 : Int32).toInt = 1 := rfl
                                try (have tx48 : x48.toInt = (x34 : Int32).toInt + (1 : Int32).toInt := tl_add ex48 (by omega))
                                refine li_iinc 0 [(9, .int x48), (8, .int x19), (7, .int x45), (6, .int x46), (5, .int x15), (4, .int x16), (3, .int x13), (2, .int 15), (1, .int x2Zq), (0, .ref (Z.2.2 175))] x48 dX12_shorter_274 rfl (by rw [ex48]; rfl) (by decide) rfl ?_
                                refine li_goto 175 dX12_shorter_277 (by decide) ?_
                                refine li_pick [0, 1, 2, 3, 4, 5, 6, 7, 8, 9] [(9, .int x48), (8, .int x19), (7, .int x45), (6, .int x46), (5, .int x15), (4, .int x16), (3, .int x13), (2, .int 15), (1, .int x2Zq), (0, .ref (Z.2.2 175))] rfl ?_
                                exact ih175 x48 x45 x46 M47 (by omega) hf hJ (by omega)
                              refine li_if_eq 274 dX12_shorter_196 (by decide) (fun c44Zq => ?_) (fun c44Zq => ?_)
                              · have tc44 : x43.toInt = 0 := tl_eq c44Zq
                                refine li_pick [0, 1, 2, 3, 4, 5, 6, 7, 8, 9] [(9, .int x34), (8, .int x19), (7, .int x35), (6, .int x36), (5, .int x15), (4, .int x16), (3, .int x13), (2, .int 15), (1, .int x2Zq), (0, .ref (Z.2.2 175))] rfl ?_
                                exact J274 x35 x36 M37 hf hJ (by omega)
                              · have tc44 : ¬ x43.toInt = 0 := tl_ne c44Zq
                                refine li_aload_n 9 dX12_shorter_199 rfl ?_
                                refine li_getr (k := 41) (N := 52) (T := TX12) (C0 := RX12) dX12_shorter_200 (by decide) sh_175 rfl rfl (by decide) (by decide) li_in12 w_1445 ?_
                                refine li_iload 0 dX12_shorter_203 rfl ?_
                                refine li_iald dX12_shorter_205 (by decide) sh_196 (tl_in (by omega)) ?_
                                refine li_top (fun x49 ex49 => ?_)
                                have gx49 := tl_rg x49
                                refine li_iload_n 6 dX12_shorter_206 rfl ?_
                                refine li_iload 4 dX12_shorter_207 rfl ?_
                                refine li_isub dX12_shorter_209 ?_
                                refine li_top (fun x50 ex50 => ?_)
                                try (have tx50 : x50.toInt = (x13 : Int32).toInt - (x15 : Int32).toInt := tl_sub ex50 (by omega))
                                refine li_iconst 1 dX12_shorter_210 (by decide) ?_
                                refine li_isub dX12_shorter_211 ?_
                                refine li_top (fun x51 ex51 => ?_)
                                have z1 : (1 : Int32).toInt = 1 := rfl
                                try (have tx51 : x51.toInt = (x50 : Int32).toInt - (1 : Int32).toInt := tl_sub ex51 (by omega))
                                refine li_icmp_eq 218 dX12_shorter_212 (by decide) (fun c52Zq => ?_) (fun c52Zq => ?_)
                                · have tc52 : x49.toInt = x51.toInt := tl_eq c52Zq
                                  refine li_aload_n 9 dX12_shorter_218 rfl ?_
                                  refine li_getr (k := 39) (N := 52) (T := TX12) (C0 := RX12) dX12_shorter_219 (by decide) sh_175 rfl rfl (by decide) (by decide) li_in12 w_1443 ?_
                                  refine li_iload_n 7 dX12_shorter_222 rfl ?_
                                  refine li_iload 1 dX12_shorter_223 rfl ?_
                                  refine li_imul dX12_shorter_225 ?_
                                  refine li_top (fun x53 ex53 => ?_)
                                  have z15 : (15 : Int32).toInt = 15 := rfl
                                  try (have tx53 : x53.toInt = 15 * (x19 : Int32).toInt := tl_mul ex53 (show -2147483648 ≤ 15 * (x19 : Int32).toInt ∧ 15 * (x19 : Int32).toInt ≤ 2147483647 by omega))
                                  refine li_iload 0 dX12_shorter_226 rfl ?_
                                  refine li_iadd dX12_shorter_228 ?_
                                  refine li_top (fun x54 ex54 => ?_)
                                  try (have tx54 : x54.toInt = (x53 : Int32).toInt + (x34 : Int32).toInt := tl_add ex54 (by omega))
                                  refine li_iald dX12_shorter_229 (by decide) sh_195 (tl_in (by omega)) ?_
                                  refine li_top (fun x55 ex55 => ?_)
                                  have gx55 := tl_rg x55
                                  refine li_callS (n := 1) (As := [.int x55]) dX12_shorter_230 (k_J6_numberOfTrailingZeros_0f7a4 (d - 1) (by omega) x55 M37) (by omega) (Nat.le_of_ble_eq_true rfl) w_1914 w_1148 w_123 w_1149 (by decide +kernel) rfl rfl (Nat.le_of_ble_eq_true rfl) (fun r M57 h58 => ?_)
                                  obtain ⟨⟨x56, rfl⟩, h58⟩ := h58
                                  have eM57 : M57 = M37 := li_fr_none h58
                                  have hf : li_fs (fun i k => i = 181 ∨ i = 195 ∨ i = 196 ∨ (i = 175 ∧ k = 10) ∨ (i = 175 ∧ k = 40) ∨ (i = 175 ∧ k = 7) ∨ (i = 175 ∧ k = 9)) M0 M57 := by rw [eM57]; exact hf
                                  have hJ : li_J M57 := by rw [eM57]; exact hJ
                                  have rM57_7 := J_sl7 (M := M57) hJ
                                  have rM57_9 := J_sl9 (M := M57) hJ
                                  have rM57_38 := J_sl38 (M := M57) hJ
                                  have rM57_40 := J_sl40 (M := M57) hJ
                                  have mM57_7 : (M57.1 175 7).toInt = (M37.1 175 7).toInt := by rw [eM57]
                                  have mM57_9 : (M57.1 175 9).toInt = (M37.1 175 9).toInt := by rw [eM57]
                                  have mM57_38 : (M57.1 175 38).toInt = (M37.1 175 38).toInt := by rw [eM57]
                                  have mM57_40 : (M57.1 175 40).toInt = (M37.1 175 40).toInt := by rw [eM57]
                                  have gx56 := tl_rg x56
                                  refine li_istore [(10, .int x56), (9, .int x34), (8, .int x19), (7, .int x35), (6, .int x36), (5, .int x15), (4, .int x16), (3, .int x13), (2, .int 15), (1, .int x2Zq), (0, .ref (Z.2.2 175))] dX12_shorter_233 (by decide) rfl ?_
                                  refine li_iload 0 dX12_shorter_235 rfl ?_
                                  refine li_iload 4 dX12_shorter_237 rfl ?_
                                  have J245 : ∀ (x60 : Int32) (M61 : li_M), li_fs (fun i k => i = 181 ∨ i = 195 ∨ i = 196 ∨ (i = 175 ∧ k = 10) ∨ (i = 175 ∧ k = 40) ∨ (i = 175 ∧ k = 7) ∨ (i = 175 ∧ k = 9)) M0 M61 → li_J M61 → (M61.1 175 9).toInt = (x15 : Int32).toInt ∧ (M61.1 175 7).toInt = 0 → li_T l Z YX12_shorter d 245 [(10, .int x56), (9, .int x34), (8, .int x19), (7, .int x60), (6, .int x36), (5, .int x15), (4, .int x16), (3, .int x13), (2, .int 15), (1, .int x2Zq), (0, .ref (Z.2.2 175))] [] M61 (fun r M' => (∃ x : Int32, r = some (.int x) ∧ ((((TY = 0 ∧ x.toInt = -1) ∨ (0 < TY ∧ Q < TY ∧ Q ≤ 14 ∧ x.toInt = -1 - Q) ∨ (0 < TY ∧ Q < TY ∧ 14 < Q ∧ x.toInt = -15) ∨ (0 < TY ∧ Q = TY ∧ 14 < TY ∧ x.toInt = -15)) ∧ x.toInt < 0) ∨ (0 < TY ∧ Q = TY ∧ TY ≤ 14 ∧ ∃ T FZq : Nat → Int32, x = FZq 0 ∧ li_fq FZq T (TY) 1000000 0 ∧ li_cy T GZq (fun i => M0.1 180 i - 97) m (TY) (TY + 1) 0))) ∧ li_fs (fun i k => i = 181 ∨ i = 195 ∨ i = 196 ∨ (i = 175 ∧ k = 10) ∨ (i = 175 ∧ k = 40) ∨ (i = 175 ∧ k = 7) ∨ (i = 175 ∧ k = 9)) M0 M' ∧ li_J M' ∧ (M'.1 175 7).toInt = 0) := by
                                    intro x60 M61 hf hJ hiZq
                                    have gx60 := tl_rg x60
                                    have rM61_7 := J_sl7 (M := M61) hJ
                                    have rM61_9 := J_sl9 (M := M61) hJ
                                    have rM61_38 := J_sl38 (M := M61) hJ
                                    have rM61_40 := J_sl40 (M := M61) hJ
                                    have mM61_38 : (M61.1 175 38).toInt = (M0.1 175 38).toInt := tl_slot (hf.1 175 38 (show ¬ (175 = 181 ∨ 175 = 195 ∨ 175 = 196 ∨ (175 = 175 ∧ 38 = 10) ∨ (175 = 175 ∧ 38 = 40) ∨ (175 = 175 ∧ 38 = 7) ∨ (175 = 175 ∧ 38 = 9)) by decide))
                                    refine li_iload 4 dX12_shorter_245 rfl ?_
                                    refine li_iload 0 dX12_shorter_247 rfl ?_
                                    refine li_mmin dX12_shorter_249 (by omega) w_1701 w_726 w_113 w_727 (Nat.le_of_ble_eq_true rfl) ?_
                                    refine li_top (fun x62 ex62 => ?_)
                                    have tx62 := tl_min2 ex62
                                    refine li_istore [(6, .int x62), (10, .int x56), (9, .int x34), (8, .int x19), (7, .int x60), (5, .int x15), (4, .int x16), (3, .int x13), (2, .int 15), (1, .int x2Zq), (0, .ref (Z.2.2 175))] dX12_shorter_252 (by decide) rfl ?_
                                    refine li_iload 4 dX12_shorter_254 rfl ?_
                                    refine li_iload 1 dX12_shorter_256 rfl ?_
                                    refine li_iload 0 dX12_shorter_258 rfl ?_
                                    have J271 : ∀ (x64 : Int32) (M65 : li_M), li_fs (fun i k => i = 181 ∨ i = 195 ∨ i = 196 ∨ (i = 175 ∧ k = 10) ∨ (i = 175 ∧ k = 40) ∨ (i = 175 ∧ k = 7) ∨ (i = 175 ∧ k = 9)) M0 M65 → li_J M65 → (M65.1 175 9).toInt = (x15 : Int32).toInt ∧ (M65.1 175 7).toInt = 0 → li_T l Z YX12_shorter d 271 [(6, .int x62), (10, .int x56), (9, .int x34), (8, .int x19), (7, .int x60), (5, .int x15), (4, .int x16), (3, .int x13), (2, .int 15), (1, .int x2Zq), (0, .ref (Z.2.2 175))] [.int x64, .int x60] M65 (fun r M' => (∃ x : Int32, r = some (.int x) ∧ ((((TY = 0 ∧ x.toInt = -1) ∨ (0 < TY ∧ Q < TY ∧ Q ≤ 14 ∧ x.toInt = -1 - Q) ∨ (0 < TY ∧ Q < TY ∧ 14 < Q ∧ x.toInt = -15) ∨ (0 < TY ∧ Q = TY ∧ 14 < TY ∧ x.toInt = -15)) ∧ x.toInt < 0) ∨ (0 < TY ∧ Q = TY ∧ TY ≤ 14 ∧ ∃ T FZq : Nat → Int32, x = FZq 0 ∧ li_fq FZq T (TY) 1000000 0 ∧ li_cy T GZq (fun i => M0.1 180 i - 97) m (TY) (TY + 1) 0))) ∧ li_fs (fun i k => i = 181 ∨ i = 195 ∨ i = 196 ∨ (i = 175 ∧ k = 10) ∨ (i = 175 ∧ k = 40) ∨ (i = 175 ∧ k = 7) ∨ (i = 175 ∧ k = 9)) M0 M' ∧ li_J M' ∧ (M'.1 175 7).toInt = 0) := by
                                      intro x64 M65 hf hJ hiZq
                                      have gx64 := tl_rg x64
                                      have rM65_7 := J_sl7 (M := M65) hJ
                                      have rM65_9 := J_sl9 (M := M65) hJ
                                      have rM65_38 := J_sl38 (M := M65) hJ
                                      have rM65_40 := J_sl40 (M := M65) hJ
                                      have mM65_38 : (M65.1 175 38).toInt = (M0.1 175 38).toInt := tl_slot (hf.1 175 38 (show ¬ (175 = 181 ∨ 175 = 195 ∨ 175 = 196 ∨ (175 = 175 ∧ 38 = 10) ∨ (175 = 175 ∧ 38 = 40) ∨ (175 = 175 ∧ 38 = 7) ∨ (175 = 175 ∧ 38 = 9)) by decide))
                                      refine li_ior dX12_shorter_271 ?_
                                      refine li_top (fun x66 ex66 => ?_)
                                      try (have tx66 := tl_or255 ex66 (by omega) (by omega))
                                      refine li_istore [(7, .int x66), (6, .int x62), (10, .int x56), (9, .int x34), (8, .int x19), (5, .int x15), (4, .int x16), (3, .int x13), (2, .int 15), (1, .int x2Zq), (0, .ref (Z.2.2 175))] dX12_shorter_272 (by decide) rfl ?_
                                      refine li_pick [3, 4, 0, 1, 5, 6, 7, 8, 9, 10] [(9, .int x34), (8, .int x19), (7, .int x66), (6, .int x62), (5, .int x15), (4, .int x16), (3, .int x13), (2, .int 15), (1, .int x2Zq), (0, .ref (Z.2.2 175))] rfl ?_
                                      exact J274 x66 x62 M65 hf hJ (by omega)
                                    refine li_icmp_ne 270 dX12_shorter_260 (by decide) (fun c63 => ?_) (fun c63 => ?_)
                                    · have tc63 : ¬ x56.toInt = x62.toInt := tl_ne c63
                                      refine li_iconst 0 dX12_shorter_270 (by decide) ?_
                                      refine li_pick [0, 1, 2, 3, 4, 5, 6, 7, 8, 9, 10] [(6, .int x62), (10, .int x56), (9, .int x34), (8, .int x19), (7, .int x60), (5, .int x15), (4, .int x16), (3, .int x13), (2, .int 15), (1, .int x2Zq), (0, .ref (Z.2.2 175))] rfl ?_
                                      have z0 : (0 : Int32).toInt = 0 := rfl
                                      exact J271 0 M61 hf hJ (by omega)
                                    · have tc63 : x56.toInt = x62.toInt := tl_eq c63
                                      refine li_iconst 1 dX12_shorter_263 (by decide) ?_
                                      refine li_iload 2 dX12_shorter_264 rfl ?_
                                      refine li_ishl dX12_shorter_266 ?_
                                      refine li_top (fun x67 ex67 => ?_)
                                      have z1 : (1 : Int32).toInt = 1 := rfl
                                      try (have tx67 := tl_shl255 ex67 (by omega))
                                      refine li_goto 271 dX12_shorter_267 (by decide) ?_
                                      refine li_pick [0, 1, 2, 3, 4, 5, 6, 7, 8, 9, 10] [(6, .int x62), (10, .int x56), (9, .int x34), (8, .int x19), (7, .int x60), (5, .int x15), (4, .int x16), (3, .int x13), (2, .int 15), (1, .int x2Zq), (0, .ref (Z.2.2 175))] rfl ?_
                                      exact J271 x67 M61 hf hJ (by omega)
                                  refine li_icmp_ge 245 dX12_shorter_239 (by decide) (fun c59 => ?_) (fun c59 => ?_)
                                  · have tc59 : x36.toInt ≤ x56.toInt := tl_le c59
                                    refine li_pick [0, 1, 2, 3, 4, 5, 6, 7, 8, 9, 10] [(10, .int x56), (9, .int x34), (8, .int x19), (7, .int x35), (6, .int x36), (5, .int x15), (4, .int x16), (3, .int x13), (2, .int 15), (1, .int x2Zq), (0, .ref (Z.2.2 175))] rfl ?_
                                    exact J245 x35 M57 hf hJ (by omega)
                                  · have tc59 : x56.toInt < x36.toInt := tl_nle c59
                                    refine li_iconst 0 dX12_shorter_242 (by decide) ?_
                                    refine li_istore [(7, .int 0), (10, .int x56), (9, .int x34), (8, .int x19), (6, .int x36), (5, .int x15), (4, .int x16), (3, .int x13), (2, .int 15), (1, .int x2Zq), (0, .ref (Z.2.2 175))] dX12_shorter_243 (by decide) rfl ?_
                                    refine li_pick [1, 2, 3, 0, 4, 5, 6, 7, 8, 9, 10] [(10, .int x56), (9, .int x34), (8, .int x19), (7, .int 0), (6, .int x36), (5, .int x15), (4, .int x16), (3, .int x13), (2, .int 15), (1, .int x2Zq), (0, .ref (Z.2.2 175))] rfl ?_
                                    have z0 : (0 : Int32).toInt = 0 := rfl
                                    exact J245 0 M57 hf hJ (by omega)
                                · have tc52 : ¬ x49.toInt = x51.toInt := tl_ne c52Zq
                                  refine li_goto 274 dX12_shorter_215 (by decide) ?_
                                  refine li_pick [0, 1, 2, 3, 4, 5, 6, 7, 8, 9] [(9, .int x34), (8, .int x19), (7, .int x35), (6, .int x36), (5, .int x15), (4, .int x16), (3, .int x13), (2, .int 15), (1, .int x2Zq), (0, .ref (Z.2.2 175))] rfl ?_
                                  exact J274 x35 x36 M37 hf hJ (by omega)
                        exact L175 _ x33 x20 x21 M30 (Nat.lt_succ_self _) hf hJ (by omega)
                      · skip
                        refine li_if_ne 169 dX12_shorter_163 (by decide) (fun c => absurd rfl c) (fun c => ?_)
                        refine li_goto 280 dX12_shorter_166 (by decide) ?_
                        obtain ⟨x69, ex69⟩ : ∃ y : Int32, y = x19 + 1 := ⟨_, rfl⟩
                        have z1 : (1 : Int32).toInt = 1 := rfl
                        try (have tx69 : x69.toInt = (x19 : Int32).toInt + (1 : Int32).toInt := tl_add ex69 (by omega))
                        refine li_iinc 0 [(8, .int x69), (7, .int x20), (6, .int x21), (5, .int x15), (4, .int x16), (3, .int x13), (2, .int 15), (1, .int x2Zq), (0, .ref (Z.2.2 175))] x69 dX12_shorter_280 rfl (by rw [ex69]; rfl) (by decide) rfl ?_
                        refine li_goto 147 dX12_shorter_283 (by decide) ?_
                        refine li_pick [0, 1, 2, 3, 4, 5, 6, 7, 8] [(8, .int x69), (7, .int x20), (6, .int x21), (5, .int x15), (4, .int x16), (3, .int x13), (2, .int 15), (1, .int x2Zq), (0, .ref (Z.2.2 175))] rfl ?_
                        exact ih147 x69 x20 x21 M30 (by omega) hf hJ (by omega)
                have z0 : (0 : Int32).toInt = 0 := rfl
                have z0 : (0 : Int32).toInt = 0 := rfl
                have z7 : (7 : Int32).toInt = 7 := rfl
                exact L147 _ 0 0 7 M17 (Nat.lt_succ_self _) hf hJ (by omega)
          have z0 : (0 : Int32).toInt = 0 := rfl
          have z1 : (1 : Int32).toInt = 1 := rfl
          exact L131 _ 0 1 M14 (Nat.lt_succ_self _) hf hJ (by omega)
        · have tc12 : 0 ≤ x10.toInt := tl_nlt c12Zq
          refine li_aload_n 3 dX12_shorter_40 rfl ?_
          refine li_getr (k := 41) (N := 52) (T := TX12) (C0 := RX12) dX12_shorter_41 (by decide) sh_175 rfl rfl (by decide) (by decide) li_in12 w_1445 ?_
          refine li_iload_n 0 dX12_shorter_44 rfl ?_
          refine li_ldcw 1000000 dX12_shorter_45 w_1859 ?_
          have z1000000 : (1000000 : Int32).toInt = 1000000 := rfl
          refine li_iast dX12_shorter_48 (by decide) sh_196 (tl_in (by omega)) ?_
          refine li_nm (fun M70 eM70 => ?_)
          have hf := li_fs_ui hf (Or.inr (Or.inr (Or.inl rfl))) eM70
          have hJ := hJ.st (by decide) (li_el_free (by unfold li_led; omega) (by decide) (by decide) (by unfold li_rq; omega)) eM70
          have rM70_7 := J_sl7 (M := M70) hJ
          have rM70_9 := J_sl9 (M := M70) hJ
          have rM70_38 := J_sl38 (M := M70) hJ
          have rM70_40 := J_sl40 (M := M70) hJ
          have mM70_7 : (M70.1 175 7).toInt = (M11.1 175 7).toInt := by rw [eM70, li_ui_at, if_neg (by decide)]
          have mM70_9 : (M70.1 175 9).toInt = (M11.1 175 9).toInt := by rw [eM70, li_ui_at, if_neg (by decide)]
          have mM70_38 : (M70.1 175 38).toInt = (M11.1 175 38).toInt := by rw [eM70, li_ui_at, if_neg (by decide)]
          have mM70_40 : (M70.1 175 40).toInt = (M11.1 175 40).toInt := by rw [eM70, li_ui_at, if_neg (by decide)]
          have Ptpg_M70 : li_tpg (M70.1 195) ((M70.1 175 40).toInt) ((x2Zq : Int32).toInt) := li_tpg_tr (li_cell_ui eM70 (by decide)) (by omega) (fun h9 => by omega) Ptpg_M11
          have Pt5_M70 : li_t5 (M70.1 195) (T0Zq) := li_t5_tr (li_cell_ui eM70 (by decide)) rfl Pt5_M11
          have Pfw_M70 : li_fw (M70.1 196) ((x10 : Int32).toInt + 1) ((M70.1 175 40).toInt) := li_fw_tr rfl (by omega) (by omega) (li_fw_st eM70 (by omega) (by omega) Pfw_M11)
          have Pfv_M70 : li_fv (M70.1 196) ((x10 : Int32).toInt) ((x10 : Int32).toInt + 1) ((M70.1 175 40).toInt) := li_fv_0 eM70 (by omega) (by omega) (by omega) (by omega)
          have Pfq_M70 : li_fq (M70.1 196) (T0Zq) (TY) (1000000) ((x10 : Int32).toInt + 1) := li_fq_up Pfq_M11 (f := (x10 : Int32).toInt) (by omega) (by omega) (put_ne (ui_is eM70) (li_cl (by omega)))
          have Pfn_M70 : li_fn (M70.1 196) (T0Zq) (1000000) ((x10 : Int32).toInt) (0) := li_fn_0 ((congrArg Int32.toInt (put_at (f := (x10 : Int32).toInt) (ui_is eM70) (li_cl (by omega)))).trans rfl) rfl (by omega)
          refine li_iload_n 0 dX12_shorter_49 rfl ?_
          refine li_iconst 1 dX12_shorter_50 (by decide) ?_
          refine li_iadd dX12_shorter_51 ?_
          refine li_top (fun x71 ex71 => ?_)
          have z1 : (1 : Int32).toInt = 1 := rfl
          try (have tx71 : x71.toInt = (x10 : Int32).toInt + (1 : Int32).toInt := tl_add ex71 (by omega))
          refine li_istore [(4, .int x71), (3, .int x10), (2, .int 15), (1, .int x2Zq), (0, .ref (Z.2.2 175))] dX12_shorter_52 (by decide) rfl ?_
          have L54 : ∀ (n : Nat) (x72 : Int32) (M73 : li_M), (16 - (x72 : Int32).toInt).toNat < n → li_fs (fun i k => i = 181 ∨ i = 195 ∨ i = 196 ∨ (i = 175 ∧ k = 10) ∨ (i = 175 ∧ k = 40) ∨ (i = 175 ∧ k = 7) ∨ (i = 175 ∧ k = 9)) M0 M73 → li_J M73 → (x10 : Int32).toInt + 1 ≤ (x72 : Int32).toInt ∧ (x72 : Int32).toInt ≤ (M73.1 175 40).toInt + 1 ∧ (x10 : Int32).toInt ≤ (M73.1 175 40).toInt - 1 ∧ (M73.1 175 40).toInt = TY ∧ (M73.1 175 7).toInt = 0 → li_tpg (M73.1 195) ((M73.1 175 40).toInt) ((x2Zq : Int32).toInt) → li_fw (M73.1 196) ((x10 : Int32).toInt + 1) ((M73.1 175 40).toInt) → li_t5 (M73.1 195) (T0Zq) → li_fq (M73.1 196) (T0Zq) (TY) (1000000) ((x10 : Int32).toInt + 1) → li_fv (M73.1 196) ((x10 : Int32).toInt) ((x72 : Int32).toInt) ((M73.1 175 40).toInt) → li_fn (M73.1 196) (T0Zq) (1000000) ((x10 : Int32).toInt) ((x72 : Int32).toInt - (x10 : Int32).toInt - 1) → li_T l Z YX12_shorter d 54 [(4, .int x72), (3, .int x10), (2, .int 15), (1, .int x2Zq), (0, .ref (Z.2.2 175))] [] M73 (fun r M' => (∃ x : Int32, r = some (.int x) ∧ ((((TY = 0 ∧ x.toInt = -1) ∨ (0 < TY ∧ Q < TY ∧ Q ≤ 14 ∧ x.toInt = -1 - Q) ∨ (0 < TY ∧ Q < TY ∧ 14 < Q ∧ x.toInt = -15) ∨ (0 < TY ∧ Q = TY ∧ 14 < TY ∧ x.toInt = -15)) ∧ x.toInt < 0) ∨ (0 < TY ∧ Q = TY ∧ TY ≤ 14 ∧ ∃ T FZq : Nat → Int32, x = FZq 0 ∧ li_fq FZq T (TY) 1000000 0 ∧ li_cy T GZq (fun i => M0.1 180 i - 97) m (TY) (TY + 1) 0))) ∧ li_fs (fun i k => i = 181 ∨ i = 195 ∨ i = 196 ∨ (i = 175 ∧ k = 10) ∨ (i = 175 ∧ k = 40) ∨ (i = 175 ∧ k = 7) ∨ (i = 175 ∧ k = 9)) M0 M' ∧ li_J M' ∧ (M'.1 175 7).toInt = 0) := by
            intro n
            induction n with
            | zero => intro x72 M73 hn; exact absurd hn (Nat.not_lt_zero _)
            | succ n ih54 =>
              intro x72 M73 hn hf hJ hiZq Ptpg_M73 Pfw_M73 Pt5_M73 Pfq_M73 Pfv_M73 Pfn_M73
              have gx72 := tl_rg x72
              have rM73_7 := J_sl7 (M := M73) hJ
              have rM73_9 := J_sl9 (M := M73) hJ
              have rM73_38 := J_sl38 (M := M73) hJ
              have rM73_40 := J_sl40 (M := M73) hJ
              have mM73_38 : (M73.1 175 38).toInt = (M0.1 175 38).toInt := tl_slot (hf.1 175 38 (show ¬ (175 = 181 ∨ 175 = 195 ∨ 175 = 196 ∨ (175 = 175 ∧ 38 = 10) ∨ (175 = 175 ∧ 38 = 40) ∨ (175 = 175 ∧ 38 = 7) ∨ (175 = 175 ∧ 38 = 9)) by decide))
              refine li_iload 0 dX12_shorter_54 rfl ?_
              refine li_aload_n 4 dX12_shorter_56 rfl ?_
              refine li_geti (k := 40) (N := 52) (T := TX12) (C0 := RX12) dX12_shorter_57 (by decide) sh_175 rfl rfl (by decide) li_in12 w_1444 ?_
              refine li_top (fun x74 ex74 => ?_)
              have gx74 : 0 ≤ x74.toInt ∧ x74.toInt ≤ 14 := by rw [ex74]; exact J_sl40 hJ
              have mx74 : x74.toInt = (M73.1 175 40).toInt := tl_slot ex74
              refine li_icmp_gt 107 dX12_shorter_60 (by decide) (fun c75 => ?_) (fun c75 => ?_)
              · have tc75 : x74.toInt < x72.toInt := tl_lt c75
                obtain ⟨x76, ex76⟩ : ∃ y : Int32, y = x10 + (-1) := ⟨_, rfl⟩
                have zm1 : ((-1) : Int32).toInt = -1 := rfl
                try (have tx76 : x76.toInt = (x10 : Int32).toInt + ((-1) : Int32).toInt := tl_add ex76 (by omega))
                refine li_iinc 1 [(3, .int x76), (4, .int x72), (2, .int 15), (1, .int x2Zq), (0, .ref (Z.2.2 175))] x76 dX12_shorter_107 rfl (by rw [ex76]; rfl) (by decide) rfl ?_
                refine li_goto 36 dX12_shorter_110 (by decide) ?_
                refine li_pick [0, 2, 3, 4] [(3, .int x76), (2, .int 15), (1, .int x2Zq), (0, .ref (Z.2.2 175))] rfl ?_
                exact ih36 x76 M73 (by omega) hf hJ (by omega) (by first | exact li_tpg_tr rfl (by omega) (fun h9 => by omega) Ptpg_M73) (by first | exact li_fw_tr rfl (by omega) (by omega) Pfw_M73 | exact li_fw_more Pfw_M73 Pfv_M73 (by omega) (by omega) (by omega)) (by first | exact li_t5_tr rfl rfl Pt5_M73) (by first | exact li_fq_tr rfl rfl rfl rfl (Int.le_antisymm (by omega) (by omega)) Pfq_M73 | exact li_fq_nx Pfq_M73 Pfn_M73 (by omega) (by omega) (Int.le_antisymm (by omega) (by omega)) (Int.le_antisymm (by omega) (by omega)))
              · have tc75 : x72.toInt ≤ x74.toInt := tl_nlt c75
                refine li_aload_n 4 dX12_shorter_63 rfl ?_
                refine li_getr (k := 39) (N := 52) (T := TX12) (C0 := RX12) dX12_shorter_64 (by decide) sh_175 rfl rfl (by decide) (by decide) li_in12 w_1443 ?_
                refine li_iload_n 2 dX12_shorter_67 rfl ?_
                refine li_iload_n 1 dX12_shorter_68 rfl ?_
                refine li_imul dX12_shorter_69 ?_
                refine li_top (fun x77 ex77 => ?_)
                have z15 : (15 : Int32).toInt = 15 := rfl
                try (have tx77 : x77.toInt = 15 * (x10 : Int32).toInt := tl_mul ex77 (show -2147483648 ≤ 15 * (x10 : Int32).toInt ∧ 15 * (x10 : Int32).toInt ≤ 2147483647 by omega))
                refine li_iload 0 dX12_shorter_70 rfl ?_
                refine li_iadd dX12_shorter_72 ?_
                refine li_top (fun x78 ex78 => ?_)
                try (have tx78 : x78.toInt = (x77 : Int32).toInt + (x72 : Int32).toInt := tl_add ex78 (by omega))
                refine li_iald dX12_shorter_73 (by decide) sh_195 (tl_in (by omega)) ?_
                refine li_top (fun x79 ex79 => ?_)
                have gx79 := tl_rg x79
                have wx79 : (x72 : Int32).toInt = (x10 : Int32).toInt + 1 → ¬ x79.toInt = 0 := fun h9 => li_tp_ld (Ptpg_M73 (by omega)) ex79 (f := (x10 : Int32).toInt) (by omega) (by omega) (by omega)
                have mk1 : x79 = T0Zq (16 * (x10 : Int32).toInt + ((x72 : Int32).toInt - (x10 : Int32).toInt - 1 + 1)).toNat := ex79.trans ((congrFun (show M73.1 195 = T0Zq from Pt5_M73) _).trans (nat_at (Int.le_antisymm (by omega) (by omega)) (by omega)))
                have J101 : ∀  (M81 : li_M), li_fs (fun i k => i = 181 ∨ i = 195 ∨ i = 196 ∨ (i = 175 ∧ k = 10) ∨ (i = 175 ∧ k = 40) ∨ (i = 175 ∧ k = 7) ∨ (i = 175 ∧ k = 9)) M0 M81 → li_J M81 → (x10 : Int32).toInt ≤ (M81.1 175 40).toInt - 1 ∧ (x72 : Int32).toInt ≤ (M81.1 175 40).toInt ∧ 0 ≤ (x10 : Int32).toInt ∧ (x10 : Int32).toInt + 1 ≤ (x72 : Int32).toInt ∧ (M81.1 175 40).toInt = TY ∧ (M81.1 175 7).toInt = 0 → li_tpg (M81.1 195) ((M81.1 175 40).toInt) ((x2Zq : Int32).toInt) → li_fw (M81.1 196) ((x10 : Int32).toInt + 1) ((M81.1 175 40).toInt) → li_t5 (M81.1 195) (T0Zq) → li_fq (M81.1 196) (T0Zq) (TY) (1000000) ((x10 : Int32).toInt + 1) → li_fv (M81.1 196) ((x10 : Int32).toInt) ((x72 : Int32).toInt + 1) ((M81.1 175 40).toInt) → li_fn (M81.1 196) (T0Zq) (1000000) ((x10 : Int32).toInt) ((x72 : Int32).toInt - (x10 : Int32).toInt - 1 + 1) → li_T l Z YX12_shorter d 101 [(4, .int x72), (3, .int x10), (2, .int 15), (1, .int x2Zq), (0, .ref (Z.2.2 175))] [] M81 (fun r M' => (∃ x : Int32, r = some (.int x) ∧ ((((TY = 0 ∧ x.toInt = -1) ∨ (0 < TY ∧ Q < TY ∧ Q ≤ 14 ∧ x.toInt = -1 - Q) ∨ (0 < TY ∧ Q < TY ∧ 14 < Q ∧ x.toInt = -15) ∨ (0 < TY ∧ Q = TY ∧ 14 < TY ∧ x.toInt = -15)) ∧ x.toInt < 0) ∨ (0 < TY ∧ Q = TY ∧ TY ≤ 14 ∧ ∃ T FZq : Nat → Int32, x = FZq 0 ∧ li_fq FZq T (TY) 1000000 0 ∧ li_cy T GZq (fun i => M0.1 180 i - 97) m (TY) (TY + 1) 0))) ∧ li_fs (fun i k => i = 181 ∨ i = 195 ∨ i = 196 ∨ (i = 175 ∧ k = 10) ∨ (i = 175 ∧ k = 40) ∨ (i = 175 ∧ k = 7) ∨ (i = 175 ∧ k = 9)) M0 M' ∧ li_J M' ∧ (M'.1 175 7).toInt = 0) := by
                  intro  M81 hf hJ hiZq Ptpg_M81 Pfw_M81 Pt5_M81 Pfq_M81 Pfv_M81 Pfn_M81
                  have rM81_7 := J_sl7 (M := M81) hJ
                  have rM81_9 := J_sl9 (M := M81) hJ
                  have rM81_38 := J_sl38 (M := M81) hJ
                  have rM81_40 := J_sl40 (M := M81) hJ
                  have mM81_38 : (M81.1 175 38).toInt = (M0.1 175 38).toInt := tl_slot (hf.1 175 38 (show ¬ (175 = 181 ∨ 175 = 195 ∨ 175 = 196 ∨ (175 = 175 ∧ 38 = 10) ∨ (175 = 175 ∧ 38 = 40) ∨ (175 = 175 ∧ 38 = 7) ∨ (175 = 175 ∧ 38 = 9)) by decide))
                  obtain ⟨x82, ex82⟩ : ∃ y : Int32, y = x72 + 1 := ⟨_, rfl⟩
                  have z1 : (1 : Int32).toInt = 1 := rfl
                  try (have tx82 : x82.toInt = (x72 : Int32).toInt + (1 : Int32).toInt := tl_add ex82 (by omega))
                  refine li_iinc 0 [(4, .int x82), (3, .int x10), (2, .int 15), (1, .int x2Zq), (0, .ref (Z.2.2 175))] x82 dX12_shorter_101 rfl (by rw [ex82]; rfl) (by decide) rfl ?_
                  refine li_goto 54 dX12_shorter_104 (by decide) ?_
                  refine li_pick [0, 1, 2, 3, 4] [(4, .int x82), (3, .int x10), (2, .int 15), (1, .int x2Zq), (0, .ref (Z.2.2 175))] rfl ?_
                  exact ih54 x82 M81 (by omega) hf hJ (by omega) (by first | exact li_tpg_tr rfl (by omega) (fun h9 => by omega) Ptpg_M81) (by first | exact li_fw_tr rfl (by omega) (by omega) Pfw_M81 | exact li_fw_more Pfw_M81 Pfv_M81 (by omega) (by omega) (by omega)) (by first | exact li_t5_tr rfl rfl Pt5_M81) (by first | exact li_fq_tr rfl rfl rfl rfl (Int.le_antisymm (by omega) (by omega)) Pfq_M81 | exact li_fq_nx Pfq_M81 Pfn_M81 (by omega) (by omega) (Int.le_antisymm (by omega) (by omega)) (Int.le_antisymm (by omega) (by omega))) (by first | exact li_fv_tr rfl (by omega) (by omega) (by omega) Pfv_M81 | exact li_fv_skip Pfv_M81 (by omega) (by omega)) (by first | exact li_fn_tr rfl rfl rfl rfl (Int.le_antisymm (by omega) (by omega)) Pfn_M81 | exact li_fn_no Pfn_M81 (by omega) (by omega) mk1 (by omega) (Int.le_antisymm (by omega) (by omega)))
                refine li_if_eq 101 dX12_shorter_74 (by decide) (fun c80 => ?_) (fun c80 => ?_)
                · have tc80 : x79.toInt = 0 := tl_eq c80
                  refine li_pick [0, 1, 2, 3, 4] [(4, .int x72), (3, .int x10), (2, .int 15), (1, .int x2Zq), (0, .ref (Z.2.2 175))] rfl ?_
                  exact J101  M73 hf hJ (by omega) (by first | exact li_tpg_tr rfl (by omega) (fun h9 => by omega) Ptpg_M73) (by first | exact li_fw_tr rfl (by omega) (by omega) Pfw_M73 | exact li_fw_more Pfw_M73 Pfv_M73 (by omega) (by omega) (by omega)) (by first | exact li_t5_tr rfl rfl Pt5_M73) (by first | exact li_fq_tr rfl rfl rfl rfl (Int.le_antisymm (by omega) (by omega)) Pfq_M73 | exact li_fq_nx Pfq_M73 Pfn_M73 (by omega) (by omega) (Int.le_antisymm (by omega) (by omega)) (Int.le_antisymm (by omega) (by omega))) (by first | exact li_fv_tr rfl (by omega) (by omega) (by omega) Pfv_M73 | exact li_fv_skip Pfv_M73 (by omega) (by omega)) (by first | exact li_fn_tr rfl rfl rfl rfl (Int.le_antisymm (by omega) (by omega)) Pfn_M73 | exact li_fn_no Pfn_M73 (by omega) (by omega) mk1 (by omega) (Int.le_antisymm (by omega) (by omega)))
                · have tc80 : ¬ x79.toInt = 0 := tl_ne c80
                  refine li_aload_n 4 dX12_shorter_77 rfl ?_
                  refine li_getr (k := 41) (N := 52) (T := TX12) (C0 := RX12) dX12_shorter_78 (by decide) sh_175 rfl rfl (by decide) (by decide) li_in12 w_1445 ?_
                  refine li_iload_n 1 dX12_shorter_81 rfl ?_
                  refine li_aload_n 4 dX12_shorter_82 rfl ?_
                  refine li_getr (k := 41) (N := 52) (T := TX12) (C0 := RX12) dX12_shorter_83 (by decide) sh_175 rfl rfl (by decide) (by decide) li_in12 w_1445 ?_
                  refine li_iload_n 1 dX12_shorter_86 rfl ?_
                  refine li_iald dX12_shorter_87 (by decide) sh_196 (tl_in (by omega)) ?_
                  refine li_top (fun x83 ex83 => ?_)
                  have gx83 := tl_rg x83
                  have wx83 := li_fv_ld Pfv_M73 ex83 (by omega) (by omega) (by omega)
                  have fa : x83 = M73.1 196 ((x10 : Int32).toInt).toNat := ex83.trans (nat_at rfl (by omega))
                  refine li_iconst 1 dX12_shorter_88 (by decide) ?_
                  refine li_aload_n 4 dX12_shorter_89 rfl ?_
                  refine li_getr (k := 41) (N := 52) (T := TX12) (C0 := RX12) dX12_shorter_90 (by decide) sh_175 rfl rfl (by decide) (by decide) li_in12 w_1445 ?_
                  refine li_iload 0 dX12_shorter_93 rfl ?_
                  refine li_iald dX12_shorter_95 (by decide) sh_196 (tl_in (by omega)) ?_
                  refine li_top (fun x84 ex84 => ?_)
                  have gx84 := tl_rg x84
                  have wx84 := li_fw_ld Pfw_M73 ex84 (by omega) (by omega) (by omega)
                  have fb : x84 = M73.1 196 ((x72 : Int32).toInt).toNat := ex84.trans (nat_at rfl (by omega))
                  refine li_iadd dX12_shorter_96 ?_
                  refine li_top (fun x85 ex85 => ?_)
                  have z1 : (1 : Int32).toInt = 1 := rfl
                  try (have tx85 : x85.toInt = (1 : Int32).toInt + (x84 : Int32).toInt := tl_add ex85 (by omega))
                  refine li_mmin dX12_shorter_97 (by omega) w_1701 w_726 w_113 w_727 (Nat.le_of_ble_eq_true rfl) ?_
                  refine li_top (fun x86 ex86 => ?_)
                  have tx86 := tl_min2 ex86
                  refine li_iast dX12_shorter_100 (by decide) sh_196 (tl_in (by omega)) ?_
                  refine li_nm (fun M87 eM87 => ?_)
                  have hf := li_fs_ui hf (Or.inr (Or.inr (Or.inl rfl))) eM87
                  have hJ := hJ.st (by decide) (li_el_free (by unfold li_led; omega) (by decide) (by decide) (by unfold li_rq; omega)) eM87
                  have rM87_7 := J_sl7 (M := M87) hJ
                  have rM87_9 := J_sl9 (M := M87) hJ
                  have rM87_38 := J_sl38 (M := M87) hJ
                  have rM87_40 := J_sl40 (M := M87) hJ
                  have mM87_7 : (M87.1 175 7).toInt = (M73.1 175 7).toInt := by rw [eM87, li_ui_at, if_neg (by decide)]
                  have mM87_9 : (M87.1 175 9).toInt = (M73.1 175 9).toInt := by rw [eM87, li_ui_at, if_neg (by decide)]
                  have mM87_38 : (M87.1 175 38).toInt = (M73.1 175 38).toInt := by rw [eM87, li_ui_at, if_neg (by decide)]
                  have mM87_40 : (M87.1 175 40).toInt = (M73.1 175 40).toInt := by rw [eM87, li_ui_at, if_neg (by decide)]
                  have Ptpg_M87 : li_tpg (M87.1 195) ((M87.1 175 40).toInt) ((x2Zq : Int32).toInt) := li_tpg_tr (li_cell_ui eM87 (by decide)) (by omega) (fun h9 => by omega) Ptpg_M73
                  have Pt5_M87 : li_t5 (M87.1 195) (T0Zq) := li_t5_tr (li_cell_ui eM87 (by decide)) rfl Pt5_M73
                  have Pfw_M87 : li_fw (M87.1 196) ((x10 : Int32).toInt + 1) ((M87.1 175 40).toInt) := li_fw_tr rfl (by omega) (by omega) (li_fw_st eM87 (by omega) (by omega) Pfw_M73)
                  have Pfv_M87 : li_fv (M87.1 196) ((x10 : Int32).toInt) ((x72 : Int32).toInt + 1) ((M87.1 175 40).toInt) := li_fv_st eM87 (by omega) (by omega) (by omega) (by omega)
                  have vmZq := fq_min ex86
                  rw [show (x85 : Int32).toInt = 1 + (x84 : Int32).toInt by omega, fa, fb] at vmZq
                  have Pfn_M87 : li_fn (M87.1 196) (T0Zq) (1000000) ((x10 : Int32).toInt) (((x72 : Int32).toInt - (x10 : Int32).toInt - 1) + 1) := li_fn_st Pfn_M73 Pfq_M73 (by omega) (by omega) (by omega) mk1 (by omega) (put_ne (ui_is eM87) (li_cl (by omega))) ((congrArg Int32.toInt (put_at (f := (x10 : Int32).toInt) (ui_is eM87) (li_cl (by omega)))).trans (by rw [show (x10 : Int32).toInt + (((x72 : Int32).toInt - (x10 : Int32).toInt - 1) + 1) = (x72 : Int32).toInt from Int.le_antisymm (by omega) (by omega)]; exact vmZq)) rfl
                  have Pfq_M87 : li_fq (M87.1 196) (T0Zq) (TY) (1000000) ((x10 : Int32).toInt + 1) := li_fq_up Pfq_M73 (f := (x10 : Int32).toInt) (by omega) (by omega) (put_ne (ui_is eM87) (li_cl (by omega)))
                  refine li_pick [0, 1, 2, 3, 4] [(4, .int x72), (3, .int x10), (2, .int 15), (1, .int x2Zq), (0, .ref (Z.2.2 175))] rfl ?_
                  exact J101  M87 hf hJ (by omega) (by first | exact li_tpg_tr rfl (by omega) (fun h9 => by omega) Ptpg_M87) (by first | exact li_fw_tr rfl (by omega) (by omega) Pfw_M87 | exact li_fw_more Pfw_M87 Pfv_M87 (by omega) (by omega) (by omega)) (by first | exact li_t5_tr rfl rfl Pt5_M87) (by first | exact li_fq_tr rfl rfl rfl rfl (Int.le_antisymm (by omega) (by omega)) Pfq_M87 | exact li_fq_nx Pfq_M87 Pfn_M87 (by omega) (by omega) (Int.le_antisymm (by omega) (by omega)) (Int.le_antisymm (by omega) (by omega))) (by first | exact li_fv_tr rfl (by omega) (by omega) (by omega) Pfv_M87 | exact li_fv_skip Pfv_M87 (by omega) (by omega)) (by first | exact li_fn_tr rfl rfl rfl rfl (Int.le_antisymm (by omega) (by omega)) Pfn_M87 | exact li_fn_no Pfn_M87 (by omega) (by omega) mk1 (by omega) (Int.le_antisymm (by omega) (by omega)))
          exact L54 _ x71 M70 (Nat.lt_succ_self _) hf hJ (by omega) (by first | exact li_tpg_tr rfl (by omega) (fun h9 => by omega) Ptpg_M70) (by first | exact li_fw_tr rfl (by omega) (by omega) Pfw_M70 | exact li_fw_more Pfw_M70 Pfv_M70 (by omega) (by omega) (by omega)) (by first | exact li_t5_tr rfl rfl Pt5_M70) (by first | exact li_fq_tr rfl rfl rfl rfl (Int.le_antisymm (by omega) (by omega)) Pfq_M70 | exact li_fq_nx Pfq_M70 Pfn_M70 (by omega) (by omega) (Int.le_antisymm (by omega) (by omega)) (Int.le_antisymm (by omega) (by omega))) (by first | exact li_fv_tr rfl (by omega) (by omega) (by omega) Pfv_M70 | exact li_fv_skip Pfv_M70 (by omega) (by omega)) (by first | exact li_fn_tr rfl rfl rfl rfl (Int.le_antisymm (by omega) (by omega)) Pfn_M70 | exact li_fn_no Pfn_M70 (by omega) (by omega) mk1 (by omega) (Int.le_antisymm (by omega) (by omega)))
    exact L36 _ x9 M7Zq (Nat.lt_succ_self _) hf hJ (by omega) (by first | exact li_tpg_tr rfl (by omega) (fun h9 => by omega) Ptpg_M7) (by first | exact li_fw_tr rfl (by omega) (by omega) Pfw_M7 | exact li_fw_more Pfw_M7 Pfv_M7 (by omega) (by omega) (by omega)) (by first | exact li_t5_tr rfl rfl Pt5_M7) (by first | exact li_fq_tr rfl rfl rfl rfl (Int.le_antisymm (by omega) (by omega)) Pfq_M7 | exact li_fq_nx Pfq_M7 Pfn_M7 (by omega) (by omega) (Int.le_antisymm (by omega) (by omega)) (Int.le_antisymm (by omega) (by omega)))
  · have tc5 : x2Zq.toInt < 0 := tl_nle c5Zq
    have qn := qa.resolve_right (fun h9 => absurd h9.2.2.2.1 (by omega))
    clear qy qa
    refine li_iload_n 0 dX12_shorter_14 rfl ?_
    exact li_iret dX12_shorter_15 rfl rfl ⟨⟨_, rfl, (by first | exact Or.inr ⟨qb.1, qb.2.1, qb.2.2.1, shq⟩ | exact Or.inl qn)⟩, hf, hJ, (by omega)⟩
