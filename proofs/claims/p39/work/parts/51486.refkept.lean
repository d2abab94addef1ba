set_option maxRecDepth 100000 in
set_option maxHeartbeats 4000000 in
theorem k11_X12_keep {l : Launch} {Z : li_Z} (d : Nat) (hdZq : 2 ≤ d) (p1Zq : Int32) (M0 : li_M) (hJ : li_J M0) (g2 : Nat → Int32) (hg2 : M0.1 202 = g2) (g3Zq : Nat → Int32) (hg3 : M0.1 203 = g3Zq) : li_Met l Z YX12_keep d [.ref (Z.2.2 175), .int p1Zq] M0 (fun r M' => ((r = some (.int 1) ∧ (0 ≤ p1Zq.toInt ∧ p1Zq.toInt ≤ 1 ∧ li_k2 (M'.1 202) g2 p1Zq ∧ li_k3 (M'.1 203) g3Zq p1Zq (M0.1 175 48))) ∨ (r = some (.int 0) ∧ (¬ (0 ≤ p1Zq.toInt ∧ p1Zq.toInt ≤ 1) ∧ M'.1 202 = g2 ∧ M'.1 203 = g3Zq))) ∧ li_fs (fun i k => i = 201 ∨ i = 202 ∨ i = 203 ∨ (i = 175 ∧ k = 10)) M0 M' ∧ li_J M') := by
  refine li_enter (by decide +kernel) (Nat.le_of_ble_eq_true rfl) ?_
  show li_T l Z YX12_keep d 0 [(0, .ref (Z.2.2 175)), (1, .int p1Zq)] [] M0 _
  have hf : li_fs (fun i k => i = 201 ∨ i = 202 ∨ i = 203 ∨ (i = 175 ∧ k = 10)) M0 M0 := li_fs_refl
  have gp1 := tl_rg p1Zq
  have Pc3_M0 : li_c3 (M0.1 202) (g2) := hg2
  have Pc4_M0 : li_c4 (M0.1 203) (g3Zq) := hg3
  refine li_aload_n 0 dX12_keep_0 rfl ?_
  refine li_iconst 0 dX12_keep_1 (by decide) ?_
  refine li_puti (k := 10) (N := 52) (T := TX12) (C0 := RX12) dX12_keep_2 (by decide) sh_175 rfl rfl (by decide) li_in12 tyX12_ok nmX12 rfl rfl rfl rfl w_1414 ?_
  refine li_nm (fun M1Zq eM1 => ?_)
  have hf := li_fs_ui hf (Or.inr (Or.inr (Or.inr (⟨rfl, rfl⟩)))) eM1
  have z0 : (0 : Int32).toInt = 0 := rfl
  have hJ := hJ.put (k := 10) (by decide) (rg_free rfl) eM1
  have Pc3_M1 : li_c3 (M1Zq.1 202) (g2) := li_c3_tr (li_cell_ui eM1 (by decide)) rfl Pc3_M0
  have Pc4_M1 : li_c4 (M1Zq.1 203) (g3Zq) := li_c4_tr (li_cell_ui eM1 (by decide)) rfl Pc4_M0
  refine li_iload_n 1 dX12_keep_5 rfl ?_
  refine li_iconst 0 dX12_keep_6 (by decide) ?_
  refine li_iconst 1 dX12_keep_7 (by decide) ?_
  have z0 : (0 : Int32).toInt = 0 := rfl
  have z1 : (1 : Int32).toInt = 1 := rfl
  refine li_callS (n := 3) (As := [.int p1Zq, .int 0, .int 1]) dX12_keep_8 (k_X12_in (d - 1) (by omega) p1Zq 0 1 M1Zq hJ ) (by omega) (Nat.le_of_ble_eq_true rfl) w_1570 w_1571 w_112 w_1572 (by decide +kernel) rfl rfl (Nat.le_of_ble_eq_true rfl) (fun r M3Zq h4 => ?_)
  obtain ⟨qx2, h4, jM3⟩ := h4
  have hf := li_fs_trans hf h4 (fun i k hZq => False.elim hZq)
  have hJ := jM3
  have Pc3_M3 : li_c3 (M3Zq.1 202) (g2) := li_c3_tr (funext fun i => h4.1 202 i id) rfl Pc3_M1
  have Pc4_M3 : li_c4 (M3Zq.1 203) (g3Zq) := li_c4_tr (funext fun i => h4.1 203 i id) rfl Pc4_M1
  rcases qx2 with ⟨rfl, qx2⟩ | ⟨rfl, qx2⟩
  · skip
    refine li_if_ne 16 dX12_keep_11 (by decide) (fun c => ?_) (fun c => absurd c (by decide))
    refine li_aload_n 0 dX12_keep_16 rfl ?_
    refine li_getr (k := 50) (N := 52) (T := TX12) (C0 := RX12) dX12_keep_17 (by decide) sh_175 rfl rfl (by decide) (by decide) li_in12 w_1454 ?_
    refine li_iload_n 1 dX12_keep_20 rfl ?_
    refine li_iconst 1 dX12_keep_21 (by decide) ?_
    have z1 : (1 : Int32).toInt = 1 := rfl
    refine li_zast dX12_keep_22 (by decide) sh_202 (tl_in (by omega)) (Or.inr rfl) ?_
    refine li_nm (fun M6Zq eM6 => ?_)
    have hf := li_fs_ui hf (Or.inr (Or.inl rfl)) eM6
    have hJ := hJ.st (by decide) (li_el_free (by unfold li_led; omega) (by decide) (by decide) (by unfold li_rq; omega)) eM6
    have Pc4_M6 : li_c4 (M6Zq.1 203) (g3Zq) := li_c4_tr (li_cell_ui eM6 (by decide)) rfl Pc4_M3
    have Pk2_M6 : li_k2 (M6Zq.1 202) (g2) (p1Zq) := fun k => by rw [eM6, li_ui_at, if_pos rfl, ← (show M3Zq.1 202 = g2 from Pc3_M3)]
    refine li_aload_n 0 dX12_keep_23 rfl ?_
    refine li_getr (k := 51) (N := 52) (T := TX12) (C0 := RX12) dX12_keep_24 (by decide) sh_175 rfl rfl (by decide) (by decide) li_in12 w_1455 ?_
    refine li_iload_n 1 dX12_keep_27 rfl ?_
    refine li_aload_n 0 dX12_keep_28 rfl ?_
    refine li_geti (k := 48) (N := 52) (T := TX12) (C0 := RX12) dX12_keep_29 (by decide) sh_175 rfl rfl (by decide) li_in12 w_1452 ?_
    refine li_top (fun x7 ex7 => ?_)
    have gx7 := tl_rg x7
    have sx7 : x7.toInt = (M0.1 175 48).toInt := tl_slot (ex7.trans (hf.1 175 48 (show ¬ (175 = 201 ∨ 175 = 202 ∨ 175 = 203 ∨ (175 = 175 ∧ 48 = 10)) by decide)))
    refine li_iast dX12_keep_32 (by decide) sh_203 (tl_in (by omega)) ?_
    refine li_nm (fun M8Zq eM8 => ?_)
    have hf := li_fs_ui hf (Or.inr (Or.inr (Or.inl rfl))) eM8
    have hJ := hJ.st (by decide) (li_el_free (by unfold li_led; omega) (by decide) (by decide) (by unfold li_rq; omega)) eM8
    have Pk2_M8 : li_k2 (M8Zq.1 202) (g2) (p1Zq) := li_k2_tr (li_cell_ui eM8 (by decide)) rfl rfl Pk2_M6
    have Pk3_M8 : li_k3 (M8Zq.1 203) (g3Zq) (p1Zq) (M0.1 175 48) := fun k => by rw [eM8, li_ui_at, if_pos rfl, ← (show M6Zq.1 203 = g3Zq from Pc4_M6), show x7 = M0.1 175 48 from Int32.toInt_inj.mp sx7]
    refine li_aload_n 0 dX12_keep_33 rfl ?_
    refine li_getr (k := 0) (N := 52) (T := TX12) (C0 := RX12) dX12_keep_34 (by decide) sh_175 rfl rfl (by decide) (by decide) li_in12 w_1404 ?_
    refine li_aload_n 0 dX12_keep_37 rfl ?_
    refine li_getr (k := 49) (N := 52) (T := TX12) (C0 := RX12) dX12_keep_38 (by decide) sh_175 rfl rfl (by decide) (by decide) li_in12 w_1453 ?_
    refine li_bipush 51 dX12_keep_41 (by decide) ?_
    refine li_iload_n 1 dX12_keep_43 rfl ?_
    refine li_imul dX12_keep_44 ?_
    refine li_top (fun x9 ex9 => ?_)
    have z51 : (51 : Int32).toInt = 51 := rfl
    try (have tx9 : x9.toInt = 51 * (p1Zq : Int32).toInt := tl_mul ex9 (show -2147483648 ≤ 51 * (p1Zq : Int32).toInt ∧ 51 * (p1Zq : Int32).toInt ≤ 2147483647 by omega))
    refine li_callS (n := 3) (As := [.ref (Z.2.2 176), .ref (Z.2.2 201), .int x9]) dX12_keep_45 (k_X12_lay_nk (d - 1) (by omega) x9 M8Zq hJ (by omega)) (by omega) (Nat.le_of_ble_eq_true rfl) w_1745 w_1746 w_112 w_1747 (by decide +kernel) rfl rfl (Nat.le_of_ble_eq_true rfl) (fun r M11 h12 => ?_)
    obtain ⟨rfl, h12, jM11⟩ := h12
    have hf := li_fs_trans hf h12 (fun i k => fun hZq => Or.inl hZq)
    have hJ := jM11
    have Pk2_M11 : li_k2 (M11.1 202) (g2) (p1Zq) := li_k2_tr (funext fun i => h12.1 202 i (show ¬ (202 = 201) by omega)) rfl rfl Pk2_M8
    have Pk3_M11 : li_k3 (M11.1 203) (g3Zq) (p1Zq) (M0.1 175 48) := li_k3_tr (funext fun i => h12.1 203 i (show ¬ (203 = 201) by omega)) rfl rfl rfl Pk3_M8
    refine li_iconst 1 dX12_keep_48 (by decide) ?_
    have z1 : (1 : Int32).toInt = 1 := rfl
    exact li_iret dX12_keep_49 rfl (li_nz (Or.inr rfl)) ⟨Or.inl ⟨rfl, (by first | exact ⟨by omega, by omega, Pk2_M11, Pk3_M11⟩ | exact ⟨by omega, Pc3_M11, Pc4_M11⟩)⟩, hf, hJ⟩
  · skip
    refine li_if_ne 16 dX12_keep_11 (by decide) (fun c => absurd rfl c) (fun c => ?_)
    refine li_iconst 0 dX12_keep_14 (by decide) ?_
    have z0 : (0 : Int32).toInt = 0 := rfl
    exact li_iret dX12_keep_15 rfl (li_nz (Or.inl rfl)) ⟨Or.inr ⟨rfl, (by first | exact ⟨by omega, by omega, Pk2_M3, Pk3_M3⟩ | exact ⟨by omega, Pc3_M3, Pc4_M3⟩)⟩, hf, hJ⟩
set_option maxRecDepth 100000 in
set_option maxHeartbeats 4000000 in
theorem k11_X12_again {l : Launch} {Z : li_Z} (d : Nat) (hdZq : 2 ≤ d) (p1Zq : Int32) (M0 : li_M) (hJ : li_J M0) : li_Met l Z YX12_again d [.ref (Z.2.2 175), .int p1Zq] M0 (fun r M' => ((r = some (.int 1) ∧ (0 ≤ p1Zq.toInt ∧ p1Zq.toInt ≤ 1 ∧ ¬ (M0.1 202 p1Zq.toNatClampNeg).toInt = 0 ∧ (M0.1 203 p1Zq.toNatClampNeg).toInt = (M0.1 175 48).toInt)) ∨ (r = some (.int 0) ∧ (¬ (0 ≤ p1Zq.toInt ∧ p1Zq.toInt ≤ 1 ∧ ¬ (M0.1 202 p1Zq.toNatClampNeg).toInt = 0 ∧ (M0.1 203 p1Zq.toNatClampNeg).toInt = (M0.1 175 48).toInt)))) ∧ li_fs (fun i k => i = 176 ∨ (i = 175 ∧ k = 10) ∨ (i = 175 ∧ k = 23)) M0 M' ∧ li_J M') := by
  refine li_enter (by decide +kernel) (Nat.le_of_ble_eq_true rfl) ?_
  show li_T l Z YX12_again d 0 [(0, .ref (Z.2.2 175)), (1, .int p1Zq)] [] M0 _
  have hf : li_fs (fun i k => i = 176 ∨ (i = 175 ∧ k = 10) ∨ (i = 175 ∧ k = 23)) M0 M0 := li_fs_refl
  have gp1 := tl_rg p1Zq
  refine li_aload_n 0 dX12_again_0 rfl ?_
  refine li_iconst 0 dX12_again_1 (by decide) ?_
  refine li_puti (k := 10) (N := 52) (T := TX12) (C0 := RX12) dX12_again_2 (by decide) sh_175 rfl rfl (by decide) li_in12 tyX12_ok nmX12 rfl rfl rfl rfl w_1414 ?_
  refine li_nm (fun M1Zq eM1 => ?_)
  have hf := li_fs_ui hf (Or.inr (Or.inl ⟨rfl, rfl⟩)) eM1
  have z0 : (0 : Int32).toInt = 0 := rfl
  have hJ := hJ.put (k := 10) (by decide) (rg_free rfl) eM1
  have mM1_48 : (M1Zq.1 175 48).toInt = (M0.1 175 48).toInt := by rw [eM1, li_ui_at, if_pos rfl, if_neg (by decide)]
  refine li_iload_n 1 dX12_again_5 rfl ?_
  refine li_iconst 0 dX12_again_6 (by decide) ?_
  refine li_iconst 1 dX12_again_7 (by decide) ?_
  have z0 : (0 : Int32).toInt = 0 := rfl
  have z1 : (1 : Int32).toInt = 1 := rfl
  refine li_callS (n := 3) (As := [.int p1Zq, .int 0, .int 1]) dX12_again_8 (k_X12_in (d - 1) (by omega) p1Zq 0 1 M1Zq hJ ) (by omega) (Nat.le_of_ble_eq_true rfl) w_1570 w_1571 w_112 w_1572 (by decide +kernel) rfl rfl (Nat.le_of_ble_eq_true rfl) (fun r M3Zq h4 => ?_)
  obtain ⟨qx2, h4, jM3⟩ := h4
  have hf := li_fs_trans hf h4 (fun i k hZq => False.elim hZq)
  have hJ := jM3
  have mM3_48 : (M3Zq.1 175 48).toInt = (M1Zq.1 175 48).toInt := tl_slot (h4.1 175 48 id)
  rcases qx2 with ⟨rfl, qx2⟩ | ⟨rfl, qx2⟩
  · skip
    refine li_if_eq 36 dX12_again_11 (by decide) (fun c => absurd c (by decide)) (fun c => ?_)
    refine li_aload_n 0 dX12_again_14 rfl ?_
    refine li_getr (k := 50) (N := 52) (T := TX12) (C0 := RX12) dX12_again_15 (by decide) sh_175 rfl rfl (by decide) (by decide) li_in12 w_1454 ?_
    refine li_iload_n 1 dX12_again_18 rfl ?_
    refine li_zald dX12_again_19 (by decide) sh_202 (tl_in (by omega)) ?_
    refine li_top (fun x6 ex6 => ?_)
    have gx6 := tl_rg x6
    have blx6 : x6.toInt = (M0.1 202 p1Zq.toNatClampNeg).toInt := tl_slot (ex6.trans (hf.1 202 _ (fun h9 => by omega)))
    refine li_if_eq 36 dX12_again_20 (by decide) (fun c7Zq => ?_) (fun c7Zq => ?_)
    · have tc7 : x6.toInt = 0 := tl_eq c7Zq
      refine li_iconst 0 dX12_again_36 (by decide) ?_
      have z0 : (0 : Int32).toInt = 0 := rfl
      exact li_iret dX12_again_37 rfl (li_nz (Or.inl rfl)) ⟨Or.inr ⟨rfl, (by omega)⟩, hf, hJ⟩
    · have tc7 : ¬ x6.toInt = 0 := tl_ne c7Zq
      refine li_aload_n 0 dX12_again_23 rfl ?_
      refine li_getr (k := 51) (N := 52) (T := TX12) (C0 := RX12) dX12_again_24 (by decide) sh_175 rfl rfl (by decide) (by decide) li_in12 w_1455 ?_
      refine li_iload_n 1 dX12_again_27 rfl ?_
      refine li_iald dX12_again_28 (by decide) sh_203 (tl_in (by omega)) ?_
      refine li_top (fun x8 ex8 => ?_)
      have gx8 := tl_rg x8
      have blx8 : x8.toInt = (M0.1 203 p1Zq.toNatClampNeg).toInt := tl_slot (ex8.trans (hf.1 203 _ (fun h9 => by omega)))
      refine li_aload_n 0 dX12_again_29 rfl ?_
      refine li_geti (k := 48) (N := 52) (T := TX12) (C0 := RX12) dX12_again_30 (by decide) sh_175 rfl rfl (by decide) li_in12 w_1452 ?_
      refine li_top (fun x9 ex9 => ?_)
      have gx9 := tl_rg x9
      have mx9 : x9.toInt = (M3Zq.1 175 48).toInt := tl_slot ex9
      have sx9 : x9.toInt = (M0.1 175 48).toInt := tl_slot (ex9.trans (hf.1 175 48 (show ¬ (175 = 176 ∨ (175 = 175 ∧ 48 = 10) ∨ (175 = 175 ∧ 48 = 23)) by decide)))
      refine li_icmp_eq 38 dX12_again_33 (by decide) (fun c10Zq => ?_) (fun c10Zq => ?_)
      · have tc10 : x8.toInt = x9.toInt := tl_eq c10Zq
        refine li_iconst 0 dX12_again_38 (by decide) ?_
        refine li_istore_n [(2, .int 0), (0, .ref (Z.2.2 175)), (1, .int p1Zq)] dX12_again_39 (by decide) rfl ?_
        have L40 : ∀ (n : Nat) (x11 : Int32) (M12 : li_M), (51 - (x11 : Int32).toInt).toNat < n → li_fs (fun i k => i = 176 ∨ (i = 175 ∧ k = 10) ∨ (i = 175 ∧ k = 23)) M0 M12 → li_J M12 → 0 ≤ (x11 : Int32).toInt → li_T l Z YX12_again d 40 [(2, .int x11), (0, .ref (Z.2.2 175)), (1, .int p1Zq)] [] M12 (fun r M' => ((r = some (.int 1) ∧ (0 ≤ p1Zq.toInt ∧ p1Zq.toInt ≤ 1 ∧ ¬ (M0.1 202 p1Zq.toNatClampNeg).toInt = 0 ∧ (M0.1 203 p1Zq.toNatClampNeg).toInt = (M0.1 175 48).toInt)) ∨ (r = some (.int 0) ∧ (¬ (0 ≤ p1Zq.toInt ∧ p1Zq.toInt ≤ 1 ∧ ¬ (M0.1 202 p1Zq.toNatClampNeg).toInt = 0 ∧ (M0.1 203 p1Zq.toNatClampNeg).toInt = (M0.1 175 48).toInt)))) ∧ li_fs (fun i k => i = 176 ∨ (i = 175 ∧ k = 10) ∨ (i = 175 ∧ k = 23)) M0 M' ∧ li_J M') := by
          intro n
          induction n with
          | zero => intro x11 M12 hn; exact absurd hn (Nat.not_lt_zero _)
          | succ n ih40 =>
            intro x11 M12 hn hf hJ hiZq
            have gx11 := tl_rg x11
            have mM12_48 : (M12.1 175 48).toInt = (M0.1 175 48).toInt := tl_slot (hf.1 175 48 (show ¬ (175 = 176 ∨ (175 = 175 ∧ 48 = 10) ∨ (175 = 175 ∧ 48 = 23)) by decide))
            refine li_iload_n 0 dX12_again_40 rfl ?_
            refine li_bipush 51 dX12_again_41 (by decide) ?_
            refine li_icmp_ge 69 dX12_again_43 (by decide) (fun c13Zq => ?_) (fun c13Zq => ?_)
            · have tc13 : 51 ≤ x11.toInt := tl_le c13Zq
              refine li_aload_n 1 dX12_again_69 rfl ?_
              refine li_iconst 0 dX12_again_70 (by decide) ?_
              refine li_puti (k := 23) (N := 52) (T := TX12) (C0 := RX12) dX12_again_71 (by decide) sh_175 rfl rfl (by decide) li_in12 tyX12_ok nmX12 rfl rfl rfl rfl w_1427 ?_
              refine li_nm (fun M14 eM14 => ?_)
              have hf := li_fs_ui hf (Or.inr (Or.inr (⟨rfl, rfl⟩))) eM14
              have z0 : (0 : Int32).toInt = 0 := rfl
              have hJ := J_pt23 hJ (show 0 ≤ (0 : Int32).toInt ∧ (0 : Int32).toInt ≤ 12 by omega) eM14
              have mM14_48 : (M14.1 175 48).toInt = (M12.1 175 48).toInt := by rw [eM14, li_ui_at, if_pos rfl, if_neg (by decide)]
              refine li_iconst 1 dX12_again_74 (by decide) ?_
              have z1 : (1 : Int32).toInt = 1 := rfl
              exact li_iret dX12_again_75 rfl (li_nz (Or.inr rfl)) ⟨Or.inl ⟨rfl, (by omega)⟩, hf, hJ⟩
            · have tc13 : x11.toInt < 51 := tl_nle c13Zq
              refine li_aload_n 1 dX12_again_46 rfl ?_
              refine li_getr (k := 0) (N := 52) (T := TX12) (C0 := RX12) dX12_again_47 (by decide) sh_175 rfl rfl (by decide) (by decide) li_in12 w_1404 ?_
              refine li_iload_n 0 dX12_again_50 rfl ?_
              refine li_aload_n 1 dX12_again_51 rfl ?_
              refine li_getr (k := 49) (N := 52) (T := TX12) (C0 := RX12) dX12_again_52 (by decide) sh_175 rfl rfl (by decide) (by decide) li_in12 w_1453 ?_
              refine li_bipush 51 dX12_again_55 (by decide) ?_
              refine li_iload_n 2 dX12_again_57 rfl ?_
              refine li_imul dX12_again_58 ?_
              refine li_top (fun x15 ex15 => ?_)
              have z51 : (51 : Int32).toInt = 51 := rfl
              try (have tx15 : x15.toInt = 51 * (p1Zq : Int32).toInt := tl_mul ex15 (show -2147483648 ≤ 51 * (p1Zq : Int32).toInt ∧ 51 * (p1Zq : Int32).toInt ≤ 2147483647 by omega))
              refine li_iload_n 0 dX12_again_59 rfl ?_
              refine li_iadd dX12_again_60 ?_
              refine li_top (fun x16 ex16 => ?_)
              try (have tx16 : x16.toInt = (x15 : Int32).toInt + (x11 : Int32).toInt := tl_add ex16 (by omega))
              refine li_iald dX12_again_61 (by decide) sh_201 (tl_in (by omega)) ?_
              refine li_top (fun x17 ex17 => ?_)
              have gx17 := tl_rg x17
              try (have ox17 : (x16 : Int32).toInt % 51 = (x16 : Int32).toInt := by omega)
              have lx17 : ((x16 : Int32).toInt % 51 = 20 → 0 ≤ x17.toInt ∧ x17.toInt ≤ 6) ∧ (21 ≤ (x16 : Int32).toInt % 51 → ((x16 : Int32).toInt % 51 - 21) % 5 < 2 → 0 ≤ x17.toInt ∧ x17.toInt ≤ 5) := hJ.ldLed (by unfold li_led; omega) ex17 (by omega)
              refine li_iast dX12_again_62 (by decide) sh_176 (tl_in (by omega)) ?_
              refine li_nm (fun M18 eM18 => ?_)
              have hf := li_fs_ui hf (Or.inl rfl) eM18
              try (have oM18 : (x11 : Int32).toInt % 51 = (x11 : Int32).toInt := by omega)
              have hJ := hJ.st (by decide) (li_el_led (by unfold li_led; omega) (by omega) (show ((x11 : Int32).toInt % 51 = 20 → 0 ≤ (x17 : Int32).toInt ∧ (x17 : Int32).toInt ≤ 6) ∧ (21 ≤ (x11 : Int32).toInt % 51 → ((x11 : Int32).toInt % 51 - 21) % 5 < 2 → 0 ≤ (x17 : Int32).toInt ∧ (x17 : Int32).toInt ≤ 5) by omega)) eM18
              have mM18_48 : (M18.1 175 48).toInt = (M12.1 175 48).toInt := by rw [eM18, li_ui_at, if_neg (by decide)]
              obtain ⟨x19, ex19⟩ : ∃ y : Int32, y = x11 + 1 := ⟨_, rfl⟩
              have z1 : (1 : Int32).toInt = 1 := rfl
              try (have tx19 : x19.toInt = (x11 : Int32).toInt + (1 : Int32).toInt := tl_add ex19 (by omega))
              refine li_iinc 0 [(2, .int x19), (0, .ref (Z.2.2 175)), (1, .int p1Zq)] x19 dX12_again_63 rfl (by rw [ex19]; rfl) (by decide) rfl ?_
              refine li_goto 40 dX12_again_66 (by decide) ?_
              refine li_pick [0, 1, 2] [(2, .int x19), (0, .ref (Z.2.2 175)), (1, .int p1Zq)] rfl ?_
              exact ih40 x19 M18 (by omega) hf hJ (by omega)
        have z0 : (0 : Int32).toInt = 0 := rfl
        exact L40 _ 0 M3Zq (Nat.lt_succ_self _) hf hJ (by omega)
      · have tc10 : ¬ x8.toInt = x9.toInt := tl_ne c10Zq
        refine li_iconst 0 dX12_again_36 (by decide) ?_
        have z0 : (0 : Int32).toInt = 0 := rfl
        exact li_iret dX12_again_37 rfl (li_nz (Or.inl rfl)) ⟨Or.inr ⟨rfl, (by omega)⟩, hf, hJ⟩
  · skip
    refine li_if_eq 36 dX12_again_11 (by decide) (fun c => ?_) (fun c => absurd rfl c)
    refine li_iconst 0 dX12_again_36 (by decide) ?_
    have z0 : (0 : Int32).toInt = 0 := rfl
    exact li_iret dX12_again_37 rfl (li_nz (Or.inl rfl)) ⟨Or.inr ⟨rfl, (by omega)⟩, hf, hJ⟩
set_option maxRecDepth 100000 in
set_option maxHeartbeats 4000000 in
theorem k11_X12_people_J117 {l : Launch} {Z : li_Z} (d : Nat) (hdZq : 5 ≤ d) (M0 : li_M) (TY PEZq : Int) (hTY : TY = (M0.1 175 7).toInt) (hPEZq : PEZq = (M0.1 175 1).toInt) (OK QQ MM : Int) (Ppl_M0 : li_pl (M0.1 180) (min TY 76) (6 - PEZq) (0) (0) (OK) (QQ) (MM)) (CAZq : Int) (hCA : CAZq = (M0.1 175 48).toInt) (hCB : 0 ≤ CAZq ∧ CAZq ≤ 3000) : ∀ (x9 : Int32) (x10 : Int32) (M11 : li_M), li_fs (fun i k => i = 176 ∨ i = 177 ∨ i = 178 ∨ i = 182 ∨ i = 1000 ∨ (i = 175 ∧ k = 1) ∨ (i = 175 ∧ k = 10) ∨ (i = 175 ∧ k = 12) ∨ (i = 175 ∧ k = 13) ∨ (i = 175 ∧ k = 14) ∨ (i = 175 ∧ k = 15) ∨ (i = 175 ∧ k = 23) ∨ (i = 175 ∧ k = 48) ∨ (i = 175 ∧ k = 7)) M0 M11 → li_J M11 → 1 ≤ (x10 : Int32).toInt ∧ (M11.1 175 1).toInt + (x10 : Int32).toInt ≤ 7 ∧ (M11.1 175 1).toInt + (x10 : Int32).toInt ≤ 7 + (M11.1 175 15).toInt ∧ (¬ (M11.1 175 15).toInt = -1 → OK = 0 ∧ QQ = (M11.1 175 15).toInt) ∧ ((M11.1 175 15).toInt = -1 → ((min TY 76) ≤ (M11.1 175 14).toInt ∧ OK = 1 ∧ QQ = (M11.1 175 14).toInt ∧ MM = (x10 : Int32).toInt) ∨ ((M11.1 175 14).toInt < (min TY 76) ∧ OK = 0 ∧ QQ = (M11.1 175 14).toInt)) ∧ (M11.1 175 14).toInt ≤ (min TY 76) ∧ (M11.1 175 12).toInt = TY ∧ (M11.1 175 13).toInt = 76 ∧ (M11.1 175 1).toInt = PEZq ∧ 0 ≤ PEZq ∧ 1 ≤ TY ∧ (M11.1 175 48).toInt = CAZq ∧ (M11.1 175 7).toInt = 0 → M11.2.2 0 = some 180 → li_T l Z YX12_people d 117 [(2, .int x9), (1, .int x10), (0, .ref (Z.2.2 175))] [] M11 (fun r M' => (∃ x : Int32, r = some (.int x) ∧ (((TY = 0 ∧ x.toInt = 0) ∨ (0 < TY ∧ OK = 1 ∧ TY ≤ 76 ∧ x.toInt = MM) ∨ (0 < TY ∧ OK = 1 ∧ 76 < TY ∧ x.toInt = -77) ∨ (0 < TY ∧ OK = 0 ∧ x.toInt = -1 - QQ ∧ 0 ≤ QQ)) ∧ ((0 < x.toInt ∧ (M'.1 175 1).toInt = PEZq + x.toInt) ∨ (x.toInt ≤ 0 ∧ (M'.1 175 1).toInt = PEZq)) ∧ ((0 < x.toInt ∧ (M'.1 175 48).toInt = CAZq + 1) ∨ (x.toInt ≤ 0 ∧ (M'.1 175 48).toInt = CAZq)))) ∧ li_fs (fun i k => i = 176 ∨ i = 177 ∨ i = 178 ∨ i = 182 ∨ i = 1000 ∨ (i = 175 ∧ k = 1) ∨ (i = 175 ∧ k = 10) ∨ (i = 175 ∧ k = 12) ∨ (i = 175 ∧ k = 13) ∨ (i = 175 ∧ k = 14) ∨ (i = 175 ∧ k = 15) ∨ (i = 175 ∧ k = 23) ∨ (i = 175 ∧ k = 48) ∨ (i = 175 ∧ k = 7)) M0 M' ∧ li_J M' ∧ (M'.1 175 7).toInt = 0) := by
  intro x9 x10 M11 hf hJ hiZq bM11
  have gx9 := tl_rg x9
  have gx10 := tl_rg x10
  have rM11_1 := J_sl1 (M := M11) hJ
  have rM11_7 := J_sl7 (M := M11) hJ
  have rM11_12 := J_sl12 (M := M11) hJ
  have rM11_13 := J_sl13 (M := M11) hJ
  have rM11_14 := J_sl14 (M := M11) hJ
  have rM11_15 := J_sl15 (M := M11) hJ
  refine li_aload_n 2 dX12_people_117 rfl ?_
  refine li_geti (k := 14) (N := 52) (T := TX12) (C0 := RX12) dX12_people_118 (by decide) sh_175 rfl rfl (by decide) li_in12 w_1418 ?_
  refine li_top (fun x12 ex12 => ?_)
  have gx12 : 0 ≤ x12.toInt ∧ x12.toInt ≤ 81 := by rw [ex12]; exact J_sl14 hJ
  have mx12 : x12.toInt = (M11.1 175 14).toInt := tl_slot ex12
  refine li_aload_n 2 dX12_people_121 rfl ?_
  refine li_geti (k := 12) (N := 52) (T := TX12) (C0 := RX12) dX12_people_122 (by decide) sh_175 rfl rfl (by decide) li_in12 w_1416 ?_
  refine li_top (fun x13 ex13 => ?_)
  have gx13 : 0 ≤ x13.toInt ∧ x13.toInt ≤ 80 := by rw [ex13]; exact J_sl12 hJ
  have mx13 : x13.toInt = (M11.1 175 12).toInt := tl_slot ex13
  have J136 : ∀  (M15 : li_M), li_fs (fun i k => i = 176 ∨ i = 177 ∨ i = 178 ∨ i = 182 ∨ i = 1000 ∨ (i = 175 ∧ k = 1) ∨ (i = 175 ∧ k = 10) ∨ (i = 175 ∧ k = 12) ∨ (i = 175 ∧ k = 13) ∨ (i = 175 ∧ k = 14) ∨ (i = 175 ∧ k = 15) ∨ (i = 175 ∧ k = 23) ∨ (i = 175 ∧ k = 48) ∨ (i = 175 ∧ k = 7)) M0 M15 → li_J M15 → 1 ≤ (x10 : Int32).toInt ∧ (M15.1 175 1).toInt + (x10 : Int32).toInt ≤ 7 ∧ (M15.1 175 1).toInt + (x10 : Int32).toInt ≤ 7 + (M15.1 175 15).toInt ∧ ((M15.1 175 15).toInt = -1 → OK = 1 ∧ MM = (x10 : Int32).toInt ∧ TY ≤ 76) ∧ (¬ (M15.1 175 15).toInt = -1 → (OK = 0 ∧ QQ = (M15.1 175 15).toInt) ∨ (OK = 1 ∧ 76 < TY ∧ (M15.1 175 15).toInt = 76)) ∧ (M15.1 175 1).toInt = PEZq ∧ 0 ≤ PEZq ∧ 1 ≤ TY ∧ (M15.1 175 48).toInt = CAZq ∧ (M15.1 175 7).toInt = 0 → li_T l Z YX12_people d 136 [(2, .int x9), (1, .int x10), (0, .ref (Z.2.2 175))] [] M15 (fun r M' => (∃ x : Int32, r = some (.int x) ∧ (((TY = 0 ∧ x.toInt = 0) ∨ (0 < TY ∧ OK = 1 ∧ TY ≤ 76 ∧ x.toInt = MM) ∨ (0 < TY ∧ OK = 1 ∧ 76 < TY ∧ x.toInt = -77) ∨ (0 < TY ∧ OK = 0 ∧ x.toInt = -1 - QQ ∧ 0 ≤ QQ)) ∧ ((0 < x.toInt ∧ (M'.1 175 1).toInt = PEZq + x.toInt) ∨ (x.toInt ≤ 0 ∧ (M'.1 175 1).toInt = PEZq)) ∧ ((0 < x.toInt ∧ (M'.1 175 48).toInt = CAZq + 1) ∨ (x.toInt ≤ 0 ∧ (M'.1 175 48).toInt = CAZq)))) ∧ li_fs (fun i k => i = 176 ∨ i = 177 ∨ i = 178 ∨ i = 182 ∨ i = 1000 ∨ (i = 175 ∧ k = 1) ∨ (i = 175 ∧ k = 10) ∨ (i = 175 ∧ k = 12) ∨ (i = 175 ∧ k = 13) ∨ (i = 175 ∧ k = 14) ∨ (i = 175 ∧ k = 15) ∨ (i = 175 ∧ k = 23) ∨ (i = 175 ∧ k = 48) ∨ (i = 175 ∧ k = 7)) M0 M' ∧ li_J M' ∧ (M'.1 175 7).toInt = 0) := by
    try clear mx13
    try clear gx13
    try clear ex13
    try clear mx12
    try clear gx12
    try clear ex12
    try clear rM11_15
    try clear rM11_14
    try clear rM11_13
    try clear rM11_12
    try clear rM11_7
    try clear rM11_1
    try clear hiZq
    intro  M15 hf hJ hiZq
    have rM15_1 := J_sl1 (M := M15) hJ
    have rM15_7 := J_sl7 (M := M15) hJ
    have rM15_15 := J_sl15 (M := M15) hJ
    refine li_aload_n 2 dX12_people_136 rfl ?_
    refine li_callV (n := 0) (As := []) dX12_people_137 (k_X12_fine (d - 1) (by omega)  M15 hJ ) (by omega) (Nat.le_of_ble_eq_true rfl) w_1581 w_1583 w_43 w_112 w_1584 (by decide +kernel) rfl (by decide) sh_175 rfl rfl (Nat.le_of_ble_eq_true rfl) (fun r M17 h18 => ?_)
    obtain ⟨qx16, h18, jM17⟩ := h18
    have hf := li_fs_trans hf h18 (fun i k hZq => False.elim hZq)
    have kM17 : (li_hr M17).toInt = (li_hr M15).toInt := li_hr_fs h18 id id id id (fun _ _ _ => id) (by assumption)
    have hJ := jM17
    have rM17_1 := J_sl1 (M := M17) hJ
    have rM17_7 := J_sl7 (M := M17) hJ
    have rM17_15 := J_sl15 (M := M17) hJ
    have mM17_1 : (M17.1 175 1).toInt = (M15.1 175 1).toInt := tl_slot (h18.1 175 1 id)
    have mM17_7 : (M17.1 175 7).toInt = (M15.1 175 7).toInt := tl_slot (h18.1 175 7 id)
    have mM17_15 : (M17.1 175 15).toInt = (M15.1 175 15).toInt := tl_slot (h18.1 175 15 id)
    have mM17_48 : (M17.1 175 48).toInt = (M15.1 175 48).toInt := tl_slot (h18.1 175 48 id)
    rcases qx16 with ⟨rfl, qx16⟩ | ⟨rfl, qx16⟩
    · skip
      refine li_if_ne 150 dX12_people_140 (by decide) (fun c => ?_) (fun c => absurd c (by decide))
      refine li_iconst 0 dX12_people_150 (by decide) ?_
      refine li_istore_n [(3, .int 0), (2, .int x9), (1, .int x10), (0, .ref (Z.2.2 175))] dX12_people_151 (by decide) rfl ?_
      have L152 : ∀ (n : Nat) (x20 : Int32) (M21 : li_M), ((x10 : Int32).toInt - (x20 : Int32).toInt).toNat < n → li_fs (fun i k => i = 176 ∨ i = 177 ∨ i = 178 ∨ i = 182 ∨ i = 1000 ∨ (i = 175 ∧ k = 1) ∨ (i = 175 ∧ k = 10) ∨ (i = 175 ∧ k = 12) ∨ (i = 175 ∧ k = 13) ∨ (i = 175 ∧ k = 14) ∨ (i = 175 ∧ k = 15) ∨ (i = 175 ∧ k = 23) ∨ (i = 175 ∧ k = 48) ∨ (i = 175 ∧ k = 7)) M0 M21 → li_J M21 → 0 ≤ (x20 : Int32).toInt ∧ (x20 : Int32).toInt ≤ (x10 : Int32).toInt ∧ (M21.1 175 1).toInt + (x10 : Int32).toInt - (x20 : Int32).toInt ≤ 6 ∧ (M21.1 175 1).toInt = PEZq + (x20 : Int32).toInt ∧ 0 ≤ PEZq ∧ OK = 1 ∧ MM = (x10 : Int32).toInt ∧ 1 ≤ (x10 : Int32).toInt ∧ TY ≤ 76 ∧ 1 ≤ TY ∧ (M21.1 175 48).toInt = CAZq ∧ (M21.1 175 7).toInt = 0 → li_T l Z YX12_people d 152 [(3, .int x20), (2, .int x9), (1, .int x10), (0, .ref (Z.2.2 175))] [] M21 (fun r M' => (∃ x : Int32, r = some (.int x) ∧ (((TY = 0 ∧ x.toInt = 0) ∨ (0 < TY ∧ OK = 1 ∧ TY ≤ 76 ∧ x.toInt = MM) ∨ (0 < TY ∧ OK = 1 ∧ 76 < TY ∧ x.toInt = -77) ∨ (0 < TY ∧ OK = 0 ∧ x.toInt = -1 - QQ ∧ 0 ≤ QQ)) ∧ ((0 < x.toInt ∧ (M'.1 175 1).toInt = PEZq + x.toInt) ∨ (x.toInt ≤ 0 ∧ (M'.1 175 1).toInt = PEZq)) ∧ ((0 < x.toInt ∧ (M'.1 175 48).toInt = CAZq + 1) ∨ (x.toInt ≤ 0 ∧ (M'.1 175 48).toInt = CAZq)))) ∧ li_fs (fun i k => i = 176 ∨ i = 177 ∨ i = 178 ∨ i = 182 ∨ i = 1000 ∨ (i = 175 ∧ k = 1) ∨ (i = 175 ∧ k = 10) ∨ (i = 175 ∧ k = 12) ∨ (i = 175 ∧ k = 13) ∨ (i = 175 ∧ k = 14) ∨ (i = 175 ∧ k = 15) ∨ (i = 175 ∧ k = 23) ∨ (i = 175 ∧ k = 48) ∨ (i = 175 ∧ k = 7)) M0 M' ∧ li_J M' ∧ (M'.1 175 7).toInt = 0) := by
        try clear c
        try clear mM17_48
        try clear mM17_15
        try clear mM17_7
        try clear mM17_1
        try clear rM17_15
        try clear rM17_7
        try clear rM17_1
        try clear kM17
        try clear qx16
        try clear h18
        try clear jM17
        try clear rM15_15
        try clear rM15_7
        try clear rM15_1
        try clear mx13
        try clear gx13
        try clear ex13
        try clear mx12
        try clear gx12
        try clear ex12
        try clear rM11_15
        try clear rM11_14
        try clear rM11_13
        try clear rM11_12
        try clear rM11_7
        try clear rM11_1
        try clear hiZq
        try clear hiZq
        intro n
        induction n with
        | zero => intro x20 M21 hn; exact absurd hn (Nat.not_lt_zero _)
        | succ n ih152 =>
          intro x20 M21 hn hf hJ hiZq
          have gx20 := tl_rg x20
          have rM21_1 := J_sl1 (M := M21) hJ
          have rM21_7 := J_sl7 (M := M21) hJ
          refine li_iload_n 0 dX12_people_152 rfl ?_
          refine li_iload_n 2 dX12_people_153 rfl ?_
          refine li_icmp_ge 254 dX12_people_154 (by decide) (fun c22 => ?_) (fun c22 => ?_)
          · have tc22 : x10.toInt ≤ x20.toInt := tl_le c22
            refine li_aload_n 3 dX12_people_254 rfl ?_
            refine li_iconst 0 dX12_people_255 (by decide) ?_
            refine li_puti (k := 23) (N := 52) (T := TX12) (C0 := RX12) dX12_people_256 (by decide) sh_175 rfl rfl (by decide) li_in12 tyX12_ok nmX12 rfl rfl rfl rfl w_1427 ?_
            refine li_nm (fun M23 eM23 => ?_)
            have hf := li_fs_ui hf (Or.inr (Or.inr (Or.inr (Or.inr (Or.inr (Or.inr (Or.inr (Or.inr (Or.inr (Or.inr (Or.inr (Or.inl ⟨rfl, rfl⟩)))))))))))) eM23
            have z0 : (0 : Int32).toInt = 0 := rfl
            have hJ := J_pt23 hJ (show 0 ≤ (0 : Int32).toInt ∧ (0 : Int32).toInt ≤ 12 from ⟨(by omega), (by omega)⟩) eM23
            have rM23_1 := J_sl1 (M := M23) hJ
            have rM23_7 := J_sl7 (M := M23) hJ
            have mM23_1 : (M23.1 175 1).toInt = (M21.1 175 1).toInt := by rw [eM23, li_ui_at, if_pos rfl, if_neg (by decide)]
            have mM23_7 : (M23.1 175 7).toInt = (M21.1 175 7).toInt := by rw [eM23, li_ui_at, if_pos rfl, if_neg (by decide)]
            have mM23_48 : (M23.1 175 48).toInt = (M21.1 175 48).toInt := by rw [eM23, li_ui_at, if_pos rfl, if_neg (by decide)]
            refine li_aload_n 3 dX12_people_259 rfl ?_
            refine li_dup dX12_people_260 rfl ?_
            refine li_geti (k := 48) (N := 52) (T := TX12) (C0 := RX12) dX12_people_261 (by decide) sh_175 rfl rfl (by decide) li_in12 w_1452 ?_
            refine li_top (fun x24 ex24 => ?_)
            have gx24 := tl_rg x24
            have mx24 : x24.toInt = (M23.1 175 48).toInt := tl_slot ex24
            refine li_iconst 1 dX12_people_264 (by decide) ?_
            refine li_iadd dX12_people_265 ?_
            refine li_top (fun x25 ex25 => ?_)
            have z1 : (1 : Int32).toInt = 1 := rfl
            try (have tx25 : x25.toInt = (x24 : Int32).toInt + (1 : Int32).toInt := tl_add ex25 ⟨by omega, by omega⟩)
            refine li_puti (k := 48) (N := 52) (T := TX12) (C0 := RX12) dX12_people_266 (by decide) sh_175 rfl rfl (by decide) li_in12 tyX12_ok nmX12 rfl rfl rfl rfl w_1452 ?_
            refine li_nm (fun M26 eM26 => ?_)
            have hf := li_fs_ui hf (Or.inr (Or.inr (Or.inr (Or.inr (Or.inr (Or.inr (Or.inr (Or.inr (Or.inr (Or.inr (Or.inr (Or.inr (Or.inl ⟨rfl, rfl⟩))))))))))))) eM26
            have hJ := hJ.put (k := 48) (by decide) (rg_free rfl) eM26
            have rM26_1 := J_sl1 (M := M26) hJ
            have rM26_7 := J_sl7 (M := M26) hJ
            have mM26_1 : (M26.1 175 1).toInt = (M23.1 175 1).toInt := by rw [eM26, li_ui_at, if_pos rfl, if_neg (by decide)]
            have mM26_7 : (M26.1 175 7).toInt = (M23.1 175 7).toInt := by rw [eM26, li_ui_at, if_pos rfl, if_neg (by decide)]
            have mM26_48 : (M26.1 175 48).toInt = x25.toInt := by rw [eM26, li_ui_at, if_pos rfl, if_pos rfl]
            refine li_iload_n 2 dX12_people_269 rfl ?_
            exact li_iret dX12_people_270 rfl rfl ⟨⟨_, rfl, (by refine ⟨?_, ?_, ?_⟩ <;> omega)⟩, hf, hJ, (by omega)⟩
          · have tc22 : x20.toInt < x10.toInt := tl_nle c22
            refine li_aload_n 3 dX12_people_157 rfl ?_
            refine li_getr (k := 2) (N := 52) (T := TX12) (C0 := RX12) dX12_people_158 (by decide) sh_175 rfl rfl (by decide) (by decide) li_in12 w_1406 ?_
            refine li_aload_n 3 dX12_people_161 rfl ?_
            refine li_geti (k := 1) (N := 52) (T := TX12) (C0 := RX12) dX12_people_162 (by decide) sh_175 rfl rfl (by decide) li_in12 w_1405 ?_
            refine li_top (fun x27 ex27 => ?_)
            have gx27 : 0 ≤ x27.toInt ∧ x27.toInt ≤ 6 := by rw [ex27]; exact J_sl1 hJ
            have mx27 : x27.toInt = (M21.1 175 1).toInt := tl_slot ex27
            refine li_aload_n 3 dX12_people_165 rfl ?_
            refine li_getr (k := 16) (N := 52) (T := TX12) (C0 := RX12) dX12_people_166 (by decide) sh_175 rfl rfl (by decide) (by decide) li_in12 w_1420 ?_
            refine li_iconst 2 dX12_people_169 (by decide) ?_
            refine li_iload_n 0 dX12_people_170 rfl ?_
            refine li_imul dX12_people_171 ?_
            refine li_top (fun x28 ex28 => ?_)
            have z2 : (2 : Int32).toInt = 2 := rfl
            try (have tx28 : x28.toInt = 2 * (x20 : Int32).toInt := tl_mul ex28 (show -2147483648 ≤ 2 * (x20 : Int32).toInt ∧ 2 * (x20 : Int32).toInt ≤ 2147483647 from ⟨(by omega), (by omega)⟩))
            refine li_iald dX12_people_172 (by decide) sh_182 (tl_in ⟨by omega, by omega⟩) ?_
            refine li_top (fun x29 ex29 => ?_)
            have gx29 := tl_rg x29
            refine li_iast dX12_people_173 (by decide) sh_177 (tl_in ⟨by omega, by omega⟩) ?_
            refine li_nm (fun M30 eM30 => ?_)
            have hf := li_fs_ui hf (Or.inr (Or.inl rfl)) eM30
            have hJ := hJ.st (by decide) (li_el_free (by first | (unfold li_led; decide) | (unfold li_led; omega)) (by decide) (by decide) (by first | (unfold li_rq; decide) | (unfold li_rq; omega))) eM30
            have rM30_1 := J_sl1 (M := M30) hJ
            have rM30_7 := J_sl7 (M := M30) hJ
            have mM30_1 : (M30.1 175 1).toInt = (M21.1 175 1).toInt := by rw [eM30, li_ui_at, if_neg (by decide)]
            have mM30_7 : (M30.1 175 7).toInt = (M21.1 175 7).toInt := by rw [eM30, li_ui_at, if_neg (by decide)]
            have mM30_48 : (M30.1 175 48).toInt = (M21.1 175 48).toInt := by rw [eM30, li_ui_at, if_neg (by decide)]
            refine li_aload_n 3 dX12_people_174 rfl ?_
            refine li_getr (k := 3) (N := 52) (T := TX12) (C0 := RX12) dX12_people_175 (by decide) sh_175 rfl rfl (by decide) (by decide) li_in12 w_1407 ?_
            refine li_aload_n 3 dX12_people_178 rfl ?_
            refine li_geti (k := 1) (N := 52) (T := TX12) (C0 := RX12) dX12_people_179 (by decide) sh_175 rfl rfl (by decide) li_in12 w_1405 ?_
            refine li_top (fun x31 ex31 => ?_)
            have gx31 : 0 ≤ x31.toInt ∧ x31.toInt ≤ 6 := by rw [ex31]; exact J_sl1 hJ
            have mx31 : x31.toInt = (M30.1 175 1).toInt := tl_slot ex31
            refine li_aload_n 3 dX12_people_182 rfl ?_
            refine li_getr (k := 16) (N := 52) (T := TX12) (C0 := RX12) dX12_people_183 (by decide) sh_175 rfl rfl (by decide) (by decide) li_in12 w_1420 ?_
            refine li_iconst 2 dX12_people_186 (by decide) ?_
            refine li_iload_n 0 dX12_people_187 rfl ?_
            refine li_imul dX12_people_188 ?_
            refine li_top (fun x32 ex32 => ?_)
            have z2 : (2 : Int32).toInt = 2 := rfl
            try (have tx32 : x32.toInt = 2 * (x20 : Int32).toInt := tl_mul ex32 (show -2147483648 ≤ 2 * (x20 : Int32).toInt ∧ 2 * (x20 : Int32).toInt ≤ 2147483647 from ⟨(by omega), (by omega)⟩))
            refine li_iconst 1 dX12_people_189 (by decide) ?_
            refine li_iadd dX12_people_190 ?_
            refine li_top (fun x33 ex33 => ?_)
            have z1 : (1 : Int32).toInt = 1 := rfl
            try (have tx33 : x33.toInt = (x32 : Int32).toInt + (1 : Int32).toInt := tl_add ex33 ⟨by omega, by omega⟩)
            refine li_iald dX12_people_191 (by decide) sh_182 (tl_in ⟨by omega, by omega⟩) ?_
            refine li_top (fun x34 ex34 => ?_)
            have gx34 := tl_rg x34
            refine li_iast dX12_people_192 (by decide) sh_178 (tl_in ⟨by omega, by omega⟩) ?_
            refine li_nm (fun M35 eM35 => ?_)
            have hf := li_fs_ui hf (Or.inr (Or.inr (Or.inl rfl))) eM35
            have hJ := hJ.st (by decide) (li_el_free (by first | (unfold li_led; decide) | (unfold li_led; omega)) (by decide) (by decide) (by first | (unfold li_rq; decide) | (unfold li_rq; omega))) eM35
            have rM35_1 := J_sl1 (M := M35) hJ
            have rM35_7 := J_sl7 (M := M35) hJ
            have mM35_1 : (M35.1 175 1).toInt = (M30.1 175 1).toInt := by rw [eM35, li_ui_at, if_neg (by decide)]
            have mM35_7 : (M35.1 175 7).toInt = (M30.1 175 7).toInt := by rw [eM35, li_ui_at, if_neg (by decide)]
            have mM35_48 : (M35.1 175 48).toInt = (M30.1 175 48).toInt := by rw [eM35, li_ui_at, if_neg (by decide)]
            refine li_aload_n 3 dX12_people_193 rfl ?_
            refine li_getr (k := 0) (N := 52) (T := TX12) (C0 := RX12) dX12_people_194 (by decide) sh_175 rfl rfl (by decide) (by decide) li_in12 w_1404 ?_
            refine li_aload_n 3 dX12_people_197 rfl ?_
            refine li_geti (k := 1) (N := 52) (T := TX12) (C0 := RX12) dX12_people_198 (by decide) sh_175 rfl rfl (by decide) li_in12 w_1405 ?_
            refine li_top (fun x36 ex36 => ?_)
            have gx36 : 0 ≤ x36.toInt ∧ x36.toInt ≤ 6 := by rw [ex36]; exact J_sl1 hJ
            have mx36 : x36.toInt = (M35.1 175 1).toInt := tl_slot ex36
            refine li_aload_n 3 dX12_people_201 rfl ?_
            refine li_getr (k := 16) (N := 52) (T := TX12) (C0 := RX12) dX12_people_202 (by decide) sh_175 rfl rfl (by decide) (by decide) li_in12 w_1420 ?_
            refine li_iconst 2 dX12_people_205 (by decide) ?_
            refine li_iload_n 0 dX12_people_206 rfl ?_
            refine li_imul dX12_people_207 ?_
            refine li_top (fun x37 ex37 => ?_)
            have z2 : (2 : Int32).toInt = 2 := rfl
            try (have tx37 : x37.toInt = 2 * (x20 : Int32).toInt := tl_mul ex37 (show -2147483648 ≤ 2 * (x20 : Int32).toInt ∧ 2 * (x20 : Int32).toInt ≤ 2147483647 from ⟨(by omega), (by omega)⟩))
            refine li_iconst 1 dX12_people_208 (by decide) ?_
            refine li_iadd dX12_people_209 ?_
            refine li_top (fun x38 ex38 => ?_)
            have z1 : (1 : Int32).toInt = 1 := rfl
            try (have tx38 : x38.toInt = (x37 : Int32).toInt + (1 : Int32).toInt := tl_add ex38 ⟨by omega, by omega⟩)
            refine li_iald dX12_people_210 (by decide) sh_182 (tl_in ⟨by omega, by omega⟩) ?_
            refine li_top (fun x39 ex39 => ?_)
            have gx39 := tl_rg x39
            refine li_iast dX12_people_211 (by decide) sh_176 (tl_in ⟨by omega, by omega⟩) ?_
            refine li_nm (fun M40 eM40 => ?_)
            have hf := li_fs_ui hf (Or.inl rfl) eM40
            try (have oM40 : (x36 : Int32).toInt % 51 = (x36 : Int32).toInt := by omega)
            have hJ := hJ.st (by decide) (li_el_led (by first | (unfold li_led; decide) | (unfold li_led; omega)) (by omega) (show ((x36 : Int32).toInt % 51 = 20 → 0 ≤ (x39 : Int32).toInt ∧ (x39 : Int32).toInt ≤ 6) ∧ (21 ≤ (x36 : Int32).toInt % 51 → ((x36 : Int32).toInt % 51 - 21) % 5 < 2 → 0 ≤ (x39 : Int32).toInt ∧ (x39 : Int32).toInt ≤ 5) from ⟨(fun hq0 => ⟨(by omega), (by omega)⟩), (fun hq0 hq1 => ⟨(by omega), (by omega)⟩)⟩)) eM40
            have rM40_1 := J_sl1 (M := M40) hJ
            have rM40_7 := J_sl7 (M := M40) hJ
            have mM40_1 : (M40.1 175 1).toInt = (M35.1 175 1).toInt := by rw [eM40, li_ui_at, if_neg (by decide)]
            have mM40_7 : (M40.1 175 7).toInt = (M35.1 175 7).toInt := by rw [eM40, li_ui_at, if_neg (by decide)]
            have mM40_48 : (M40.1 175 48).toInt = (M35.1 175 48).toInt := by rw [eM40, li_ui_at, if_neg (by decide)]
            refine li_aload_n 3 dX12_people_212 rfl ?_
            refine li_getr (k := 0) (N := 52) (T := TX12) (C0 := RX12) dX12_people_213 (by decide) sh_175 rfl rfl (by decide) (by decide) li_in12 w_1404 ?_
            refine li_bipush 6 dX12_people_216 (by decide) ?_
            refine li_aload_n 3 dX12_people_218 rfl ?_
            refine li_geti (k := 1) (N := 52) (T := TX12) (C0 := RX12) dX12_people_219 (by decide) sh_175 rfl rfl (by decide) li_in12 w_1405 ?_
            refine li_top (fun x41 ex41 => ?_)
            have gx41 : 0 ≤ x41.toInt ∧ x41.toInt ≤ 6 := by rw [ex41]; exact J_sl1 hJ
            have mx41 : x41.toInt = (M40.1 175 1).toInt := tl_slot ex41
            refine li_iadd dX12_people_222 ?_
            refine li_top (fun x42 ex42 => ?_)
            have z6 : (6 : Int32).toInt = 6 := rfl
            try (have tx42 : x42.toInt = (6 : Int32).toInt + (x41 : Int32).toInt := tl_add ex42 ⟨by omega, by omega⟩)
            refine li_iconst 0 dX12_people_223 (by decide) ?_
            have z0 : (0 : Int32).toInt = 0 := rfl
            refine li_iast dX12_people_224 (by decide) sh_176 (tl_in ⟨by omega, by omega⟩) ?_
            refine li_nm (fun M43 eM43 => ?_)
            have hf := li_fs_ui hf (Or.inl rfl) eM43
            try (have oM43 : (x42 : Int32).toInt % 51 = (x42 : Int32).toInt := by omega)
            have hJ := hJ.st (by decide) (li_el_led (by first | (unfold li_led; decide) | (unfold li_led; omega)) (by omega) (show ((x42 : Int32).toInt % 51 = 20 → 0 ≤ (0 : Int32).toInt ∧ (0 : Int32).toInt ≤ 6) ∧ (21 ≤ (x42 : Int32).toInt % 51 → ((x42 : Int32).toInt % 51 - 21) % 5 < 2 → 0 ≤ (0 : Int32).toInt ∧ (0 : Int32).toInt ≤ 5) from ⟨(fun hq0 => ⟨(by omega), (by omega)⟩), (fun hq0 hq1 => ⟨(by omega), (by omega)⟩)⟩)) eM43
            have rM43_1 := J_sl1 (M := M43) hJ
            have rM43_7 := J_sl7 (M := M43) hJ
            have mM43_1 : (M43.1 175 1).toInt = (M40.1 175 1).toInt := by rw [eM43, li_ui_at, if_neg (by decide)]
            have mM43_7 : (M43.1 175 7).toInt = (M40.1 175 7).toInt := by rw [eM43, li_ui_at, if_neg (by decide)]
            have mM43_48 : (M43.1 175 48).toInt = (M40.1 175 48).toInt := by rw [eM43, li_ui_at, if_neg (by decide)]
            refine li_aload_n 3 dX12_people_225 rfl ?_
            refine li_getr (k := 0) (N := 52) (T := TX12) (C0 := RX12) dX12_people_226 (by decide) sh_175 rfl rfl (by decide) (by decide) li_in12 w_1404 ?_
            refine li_bipush 12 dX12_people_229 (by decide) ?_
            refine li_aload_n 3 dX12_people_231 rfl ?_
            refine li_geti (k := 1) (N := 52) (T := TX12) (C0 := RX12) dX12_people_232 (by decide) sh_175 rfl rfl (by decide) li_in12 w_1405 ?_
            refine li_top (fun x44 ex44 => ?_)
            have gx44 : 0 ≤ x44.toInt ∧ x44.toInt ≤ 6 := by rw [ex44]; exact J_sl1 hJ
            have mx44 : x44.toInt = (M43.1 175 1).toInt := tl_slot ex44
            refine li_iadd dX12_people_235 ?_
            refine li_top (fun x45 ex45 => ?_)
            have z12 : (12 : Int32).toInt = 12 := rfl
            try (have tx45 : x45.toInt = (12 : Int32).toInt + (x44 : Int32).toInt := tl_add ex45 ⟨by omega, by omega⟩)
            refine li_iconst 0 dX12_people_236 (by decide) ?_
            have z0 : (0 : Int32).toInt = 0 := rfl
            refine li_iast dX12_people_237 (by decide) sh_176 (tl_in ⟨by omega, by omega⟩) ?_
            refine li_nm (fun M46 eM46 => ?_)
            have hf := li_fs_ui hf (Or.inl rfl) eM46
            try (have oM46 : (x45 : Int32).toInt % 51 = (x45 : Int32).toInt := by omega)
            have hJ := hJ.st (by decide) (li_el_led (by first | (unfold li_led; decide) | (unfold li_led; omega)) (by omega) (show ((x45 : Int32).toInt % 51 = 20 → 0 ≤ (0 : Int32).toInt ∧ (0 : Int32).toInt ≤ 6) ∧ (21 ≤ (x45 : Int32).toInt % 51 → ((x45 : Int32).toInt % 51 - 21) % 5 < 2 → 0 ≤ (0 : Int32).toInt ∧ (0 : Int32).toInt ≤ 5) from ⟨(fun hq0 => ⟨(by omega), (by omega)⟩), (fun hq0 hq1 => ⟨(by omega), (by omega)⟩)⟩)) eM46
            have rM46_1 := J_sl1 (M := M46) hJ
            have rM46_7 := J_sl7 (M := M46) hJ
            have mM46_1 : (M46.1 175 1).toInt = (M43.1 175 1).toInt := by rw [eM46, li_ui_at, if_neg (by decide)]
            have mM46_7 : (M46.1 175 7).toInt = (M43.1 175 7).toInt := by rw [eM46, li_ui_at, if_neg (by decide)]
            have mM46_48 : (M46.1 175 48).toInt = (M43.1 175 48).toInt := by rw [eM46, li_ui_at, if_neg (by decide)]
            refine li_aload_n 3 dX12_people_238 rfl ?_
            refine li_dup dX12_people_239 rfl ?_
            refine li_geti (k := 1) (N := 52) (T := TX12) (C0 := RX12) dX12_people_240 (by decide) sh_175 rfl rfl (by decide) li_in12 w_1405 ?_
            refine li_top (fun x47 ex47 => ?_)
            have gx47 : 0 ≤ x47.toInt ∧ x47.toInt ≤ 6 := by rw [ex47]; exact J_sl1 hJ
            have mx47 : x47.toInt = (M46.1 175 1).toInt := tl_slot ex47
            refine li_iconst 1 dX12_people_243 (by decide) ?_
            refine li_iadd dX12_people_244 ?_
            refine li_top (fun x48 ex48 => ?_)
            have z1 : (1 : Int32).toInt = 1 := rfl
            try (have tx48 : x48.toInt = (x47 : Int32).toInt + (1 : Int32).toInt := tl_add ex48 ⟨by omega, by omega⟩)
            refine li_puti (k := 1) (N := 52) (T := TX12) (C0 := RX12) dX12_people_245 (by decide) sh_175 rfl rfl (by decide) li_in12 tyX12_ok nmX12 rfl rfl rfl rfl w_1405 ?_
            refine li_nm (fun M49 eM49 => ?_)
            have hf := li_fs_ui hf (Or.inr (Or.inr (Or.inr (Or.inr (Or.inr (Or.inl ⟨rfl, rfl⟩)))))) eM49
            have hJ := J_pt1 hJ (show 0 ≤ (x48 : Int32).toInt ∧ (x48 : Int32).toInt ≤ 6 from ⟨(by omega), (by omega)⟩) eM49
            have rM49_1 := J_sl1 (M := M49) hJ
            have rM49_7 := J_sl7 (M := M49) hJ
            have mM49_1 : (M49.1 175 1).toInt = x48.toInt := by rw [eM49, li_ui_at, if_pos rfl, if_pos rfl]
            have mM49_7 : (M49.1 175 7).toInt = (M46.1 175 7).toInt := by rw [eM49, li_ui_at, if_pos rfl, if_neg (by decide)]
            have mM49_48 : (M49.1 175 48).toInt = (M46.1 175 48).toInt := by rw [eM49, li_ui_at, if_pos rfl, if_neg (by decide)]
            obtain ⟨x50, ex50⟩ : ∃ y : Int32, y = x20 + 1 := ⟨_, rfl⟩
            have z1 : (1 : Int32).toInt = 1 := rfl
            try (have tx50 : x50.toInt = (x20 : Int32).toInt + (1 : Int32).toInt := tl_add ex50 ⟨by omega, by omega⟩)
            refine li_iinc 0 [(3, .int x50), (2, .int x9), (1, .int x10), (0, .ref (Z.2.2 175))] x50 dX12_people_248 rfl (by rw [ex50]; rfl) (by decide) rfl ?_
            refine li_goto 152 dX12_people_251 (by decide) ?_
            refine li_pick [0, 1, 2, 3] [(3, .int x50), (2, .int x9), (1, .int x10), (0, .ref (Z.2.2 175))] rfl ?_
            exact ih152 x50 M49 (by omega) hf hJ ⟨(by omega), (by omega), (by omega), (Int.le_antisymm (by omega) (by omega)), (by omega), (Int.le_antisymm (by omega) (by omega)), (Int.le_antisymm (by omega) (by omega)), (by omega), (by omega), (by omega), (Int.le_antisymm (by omega) (by omega)), (Int.le_antisymm (by omega) (by omega))⟩
      have z0 : (0 : Int32).toInt = 0 := rfl
      exact L152 _ 0 M17 (Nat.lt_succ_self _) hf hJ ⟨(by omega), (by omega), (by omega), (Int.le_antisymm (by omega) (by omega)), (by omega), (Int.le_antisymm (by omega) (by omega)), (Int.le_antisymm (by omega) (by omega)), (by omega), (by omega), (by omega), (Int.le_antisymm (by omega) (by omega)), (Int.le_antisymm (by omega) (by omega))⟩
    · skip
      refine li_if_ne 150 dX12_people_140 (by decide) (fun c => absurd rfl c) (fun c => ?_)
      refine li_iconst (-1) dX12_people_143 (by decide) ?_
      refine li_aload_n 2 dX12_people_144 rfl ?_
      refine li_geti (k := 15) (N := 52) (T := TX12) (C0 := RX12) dX12_people_145 (by decide) sh_175 rfl rfl (by decide) li_in12 w_1419 ?_
      refine li_top (fun x52 ex52 => ?_)
      have gx52 : -1 ≤ x52.toInt ∧ x52.toInt ≤ 81 := by rw [ex52]; exact J_sl15 hJ
      have mx52 : x52.toInt = (M17.1 175 15).toInt := tl_slot ex52
      refine li_isub dX12_people_148 ?_
      refine li_top (fun x53 ex53 => ?_)
      have zm1 : ((-1) : Int32).toInt = -1 := rfl
      try (have tx53 : x53.toInt = ((-1) : Int32).toInt - (x52 : Int32).toInt := tl_sub ex53 ⟨by omega, by omega⟩)
      exact li_iret dX12_people_149 rfl rfl ⟨⟨_, rfl, (by refine ⟨?_, ?_, ?_⟩ <;> omega)⟩, hf, hJ, (by omega)⟩
  refine li_icmp_ge 136 dX12_people_125 (by decide) (fun c14Zq => ?_) (fun c14Zq => ?_)
  · have tc14 : x13.toInt ≤ x12.toInt := tl_le c14Zq
    refine li_pick [0, 1, 2] [(2, .int x9), (1, .int x10), (0, .ref (Z.2.2 175))] rfl ?_
    exact J136  M11 hf hJ ⟨(by omega), (by omega), (by omega), (fun hq0 => ⟨(Int.le_antisymm (by omega) (by omega)), (Int.le_antisymm (by omega) (by omega)), (by omega)⟩), (fun hq0 => (by omega)), (Int.le_antisymm (by omega) (by omega)), (by omega), (by omega), (Int.le_antisymm (by omega) (by omega)), (Int.le_antisymm (by omega) (by omega))⟩
  · have tc14 : x12.toInt < x13.toInt := tl_nle c14Zq
    refine li_aload_n 2 dX12_people_128 rfl ?_
    refine li_aload_n 2 dX12_people_129 rfl ?_
    refine li_geti (k := 14) (N := 52) (T := TX12) (C0 := RX12) dX12_people_130 (by decide) sh_175 rfl rfl (by decide) li_in12 w_1418 ?_
    refine li_top (fun x54 ex54 => ?_)
    have gx54 : 0 ≤ x54.toInt ∧ x54.toInt ≤ 81 := by rw [ex54]; exact J_sl14 hJ
    have mx54 : x54.toInt = (M11.1 175 14).toInt := tl_slot ex54
    refine li_callV (n := 1) (As := [.int x54]) dX12_people_133 (k_X12_fault (d - 1) (by omega) x54 M11 hJ ⟨by omega, by omega⟩) (by omega) (Nat.le_of_ble_eq_true rfl) w_1585 w_1587 w_44 w_112 w_1588 (by decide +kernel) rfl (by decide) sh_175 rfl rfl (Nat.le_of_ble_eq_true rfl) (fun r M56 h57 => ?_)
    obtain ⟨rfl, h57, jM56, nM56⟩ := h57
    have hf := li_fs_trans hf h57 (fun i k => fun hZq => Or.inr (Or.inr (Or.inr (Or.inr (Or.inr (Or.inr (Or.inr (Or.inr (Or.inr (Or.inr (Or.inl hZq)))))))))))
    have kM56 : (li_hr M56).toInt = (li_hr M11).toInt := li_hr_fs h57 (show ¬ ((175 = 175 ∧ 12 = 15)) by decide) (show ¬ ((175 = 175 ∧ 13 = 15)) by decide) (show ¬ ((175 = 175 ∧ 14 = 15)) by decide) (show ¬ ((1000 = 175 ∧ 0 = 15)) by decide) (fun q i hZq => (show ¬ ((q = 175 ∧ i = 15)) by first | (unfold li_rq at hZq; rcases hZq with rfl | rfl | rfl <;> simp; done) | (unfold li_rq at hZq; omega))) (by assumption)
    have hJ := jM56
    have rM56_1 := J_sl1 (M := M56) hJ
    have rM56_7 := J_sl7 (M := M56) hJ
    have rM56_12 := J_sl12 (M := M56) hJ
    have rM56_13 := J_sl13 (M := M56) hJ
    have rM56_14 := J_sl14 (M := M56) hJ
    have rM56_15 := J_sl15 (M := M56) hJ
    have mM56_1 : (M56.1 175 1).toInt = (M11.1 175 1).toInt := tl_slot (h57.1 175 1 (show ¬ ((175 = 175 ∧ 1 = 15)) by decide))
    have mM56_7 : (M56.1 175 7).toInt = (M11.1 175 7).toInt := tl_slot (h57.1 175 7 (show ¬ ((175 = 175 ∧ 7 = 15)) by decide))
    have mM56_12 : (M56.1 175 12).toInt = (M11.1 175 12).toInt := tl_slot (h57.1 175 12 (show ¬ ((175 = 175 ∧ 12 = 15)) by decide))
    have mM56_13 : (M56.1 175 13).toInt = (M11.1 175 13).toInt := tl_slot (h57.1 175 13 (show ¬ ((175 = 175 ∧ 13 = 15)) by decide))
    have mM56_14 : (M56.1 175 14).toInt = (M11.1 175 14).toInt := tl_slot (h57.1 175 14 (show ¬ ((175 = 175 ∧ 14 = 15)) by decide))
    have mM56_48 : (M56.1 175 48).toInt = (M11.1 175 48).toInt := tl_slot (h57.1 175 48 (show ¬ ((175 = 175 ∧ 48 = 15)) by decide))
    have bM56 : M56.2.2 0 = some 180 := (h57.2.2 0 (fun h9 => by first | exact (h9 : False).elim | (simp at h9; done) | omega)).trans bM11
    refine li_pick [0, 1, 2] [(2, .int x9), (1, .int x10), (0, .ref (Z.2.2 175))] rfl ?_
    exact J136  M56 hf hJ ⟨(by omega), (by omega), (by omega), (fun hq0 => ⟨(Int.le_antisymm (by omega) (by omega)), (Int.le_antisymm (by omega) (by omega)), (by omega)⟩), (fun hq0 => (by omega)), (Int.le_antisymm (by omega) (by omega)), (by omega), (by omega), (Int.le_antisymm (by omega) (by omega)), (Int.le_antisymm (by omega) (by omega))⟩
